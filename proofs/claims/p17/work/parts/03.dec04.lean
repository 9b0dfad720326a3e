theorem dX6_taken_11 : decode cX6_taken 11 = .ok (.aload_n 0, 1) := dk_42 dg_cX6_taken_1442.2.2.2.2.2.1
theorem dX6_taken_12 : decode cX6_taken 12 = .ok (.invokevirtual 74, 3) := dk_182 dg_cX6_taken_1442.2.2.2.2.2.2.1
theorem dX6_taken_15 : decode cX6_taken 15 = .ok (.ireturn, 1) := dk_172 dg_cX6_taken_1442.2.2.2.2.2.2.2
theorem dg_cX6_taken_1443 : ck1 cX6_taken 16 42 = true ∧ ck3 cX6_taken 17 180 29 = true ∧ ck3 cX6_taken 20 182 86 = true ∧ ck1 cX6_taken 23 4 = true ∧ ck1 cX6_taken 24 172 = true := by decide +kernel
theorem dX6_taken_16 : decode cX6_taken 16 = .ok (.aload_n 0, 1) := dk_42 dg_cX6_taken_1443.1
theorem dX6_taken_17 : decode cX6_taken 17 = .ok (.getfield 29, 3) := dk_180 dg_cX6_taken_1443.2.1
theorem dX6_taken_20 : decode cX6_taken 20 = .ok (.invokevirtual 86, 3) := dk_182 dg_cX6_taken_1443.2.2.1
theorem dX6_taken_23 : decode cX6_taken 23 = .ok (.iconst 1, 1) := dk_4 dg_cX6_taken_1443.2.2.2.1
theorem dX6_taken_24 : decode cX6_taken 24 = .ok (.ireturn, 1) := dk_172 dg_cX6_taken_1443.2.2.2.2
theorem dg_cX6_unit_1444 : ck1 cX6_unit 0 42 = true ∧ ck3 cX6_unit 1 180 29 = true ∧ ck3 cX6_unit 4 180 47 = true ∧ ck1 cX6_unit 7 61 = true ∧ ck1 cX6_unit 8 28 = true ∧ ck1 cX6_unit 9 5 = true ∧ ck3s cX6_unit 10 159 15 = true ∧ ck1 cX6_unit 13 28 = true := by decide +kernel
theorem dX6_unit_0 : decode cX6_unit 0 = .ok (.aload_n 0, 1) := dk_42 dg_cX6_unit_1444.1
theorem dX6_unit_1 : decode cX6_unit 1 = .ok (.getfield 29, 3) := dk_180 dg_cX6_unit_1444.2.1
theorem dX6_unit_4 : decode cX6_unit 4 = .ok (.getfield 47, 3) := dk_180 dg_cX6_unit_1444.2.2.1
theorem dX6_unit_7 : decode cX6_unit 7 = .ok (.istore_n 2, 1) := dk_61 dg_cX6_unit_1444.2.2.2.1
theorem dX6_unit_8 : decode cX6_unit 8 = .ok (.iload_n 2, 1) := dk_28 dg_cX6_unit_1444.2.2.2.2.1
theorem dX6_unit_9 : decode cX6_unit 9 = .ok (.iconst 2, 1) := dk_5 dg_cX6_unit_1444.2.2.2.2.2.1
theorem dX6_unit_10 : decode cX6_unit 10 = .ok (.if_icmp .eq 15, 3) := dk_159 dg_cX6_unit_1444.2.2.2.2.2.2.1
theorem dX6_unit_13 : decode cX6_unit 13 = .ok (.iload_n 2, 1) := dk_28 dg_cX6_unit_1444.2.2.2.2.2.2.2
theorem dg_cX6_unit_1445 : ck2s cX6_unit 14 16 116 = true ∧ ck3s cX6_unit 16 161 13 = true ∧ ck1 cX6_unit 19 28 = true ∧ ck2s cX6_unit 20 16 121 = true ∧ ck3s cX6_unit 22 163 7 = true ∧ ck1 cX6_unit 25 4 = true ∧ ck3s cX6_unit 26 167 4 = true ∧ ck1 cX6_unit 29 3 = true := by decide +kernel
theorem dX6_unit_14 : decode cX6_unit 14 = .ok (.bipush 116, 2) := dk_16 dg_cX6_unit_1445.1
theorem dX6_unit_16 : decode cX6_unit 16 = .ok (.if_icmp .lt 13, 3) := dk_161 dg_cX6_unit_1445.2.1
theorem dX6_unit_19 : decode cX6_unit 19 = .ok (.iload_n 2, 1) := dk_28 dg_cX6_unit_1445.2.2.1
theorem dX6_unit_20 : decode cX6_unit 20 = .ok (.bipush 121, 2) := dk_16 dg_cX6_unit_1445.2.2.2.1
theorem dX6_unit_22 : decode cX6_unit 22 = .ok (.if_icmp .gt 7, 3) := dk_163 dg_cX6_unit_1445.2.2.2.2.1
theorem dX6_unit_25 : decode cX6_unit 25 = .ok (.iconst 1, 1) := dk_4 dg_cX6_unit_1445.2.2.2.2.2.1
theorem dX6_unit_26 : decode cX6_unit 26 = .ok (.goto 4, 3) := dk_167 dg_cX6_unit_1445.2.2.2.2.2.2.1
theorem dX6_unit_29 : decode cX6_unit 29 = .ok (.iconst 0, 1) := dk_3 dg_cX6_unit_1445.2.2.2.2.2.2.2
theorem dg_cX6_unit_1446 : ck1 cX6_unit 30 62 = true ∧ ck1 cX6_unit 31 29 = true ∧ ck3s cX6_unit 32 154 9 = true ∧ ck1 cX6_unit 35 28 = true ∧ ck2s cX6_unit 36 16 40 = true ∧ ck3s cX6_unit 38 160 18 = true ∧ ck1 cX6_unit 41 42 = true ∧ ck3 cX6_unit 42 180 12 = true := by decide +kernel
theorem dX6_unit_30 : decode cX6_unit 30 = .ok (.istore_n 3, 1) := dk_62 dg_cX6_unit_1446.1
theorem dX6_unit_31 : decode cX6_unit 31 = .ok (.iload_n 3, 1) := dk_29 dg_cX6_unit_1446.2.1
theorem dX6_unit_32 : decode cX6_unit 32 = .ok (.ifCond .ne 9, 3) := dk_154 dg_cX6_unit_1446.2.2.1
theorem dX6_unit_35 : decode cX6_unit 35 = .ok (.iload_n 2, 1) := dk_28 dg_cX6_unit_1446.2.2.2.1
theorem dX6_unit_36 : decode cX6_unit 36 = .ok (.bipush 40, 2) := dk_16 dg_cX6_unit_1446.2.2.2.2.1
theorem dX6_unit_38 : decode cX6_unit 38 = .ok (.if_icmp .ne 18, 3) := dk_160 dg_cX6_unit_1446.2.2.2.2.2.1
theorem dX6_unit_41 : decode cX6_unit 41 = .ok (.aload_n 0, 1) := dk_42 dg_cX6_unit_1446.2.2.2.2.2.2.1
theorem dX6_unit_42 : decode cX6_unit 42 = .ok (.getfield 12, 3) := dk_180 dg_cX6_unit_1446.2.2.2.2.2.2.2
theorem dg_cX6_unit_1447 : ck3 cX6_unit 45 180 134 = true ∧ ck3 cX6_unit 48 180 143 = true ∧ ck2s cX6_unit 51 16 30 = true ∧ ck3s cX6_unit 53 161 8 = true ∧ ck1 cX6_unit 56 42 = true ∧ ck3 cX6_unit 57 182 74 = true ∧ ck1 cX6_unit 60 172 = true ∧ ck1 cX6_unit 61 29 = true := by decide +kernel
theorem dX6_unit_45 : decode cX6_unit 45 = .ok (.getfield 134, 3) := dk_180 dg_cX6_unit_1447.1
theorem dX6_unit_48 : decode cX6_unit 48 = .ok (.getfield 143, 3) := dk_180 dg_cX6_unit_1447.2.1
theorem dX6_unit_51 : decode cX6_unit 51 = .ok (.bipush 30, 2) := dk_16 dg_cX6_unit_1447.2.2.1
theorem dX6_unit_53 : decode cX6_unit 53 = .ok (.if_icmp .lt 8, 3) := dk_161 dg_cX6_unit_1447.2.2.2.1
theorem dX6_unit_56 : decode cX6_unit 56 = .ok (.aload_n 0, 1) := dk_42 dg_cX6_unit_1447.2.2.2.2.1
theorem dX6_unit_57 : decode cX6_unit 57 = .ok (.invokevirtual 74, 3) := dk_182 dg_cX6_unit_1447.2.2.2.2.2.1
theorem dX6_unit_60 : decode cX6_unit 60 = .ok (.ireturn, 1) := dk_172 dg_cX6_unit_1447.2.2.2.2.2.2.1
theorem dX6_unit_61 : decode cX6_unit 61 = .ok (.iload_n 3, 1) := dk_29 dg_cX6_unit_1447.2.2.2.2.2.2.2
theorem dg_cX6_unit_1448 : ck3s cX6_unit 62 153 46 = true := by decide +kernel
theorem dX6_unit_62 : decode cX6_unit 62 = .ok (.ifCond .eq 46, 3) := dk_153 dg_cX6_unit_1448
def dS_cX6_unit_2 : List UInt8 := 0 :: 143 :: 4 :: 96 :: 181 :: 0 :: 143 :: 42 :: 180 :: 0 :: 29 :: 182 :: 0 :: 86 :: 42 :: 3 :: 27 :: 4 :: 96 :: 182 :: 0 :: 67 :: 153 :: 0 :: 16 :: 42 :: 16 :: 41 :: 182 :: 0 :: 83 :: 153 :: 0 :: 7 :: 4 :: 167 :: 0 :: 4 :: 3 :: 172 :: []
def dS_cX6_unit_1 : List UInt8 := 46 :: 42 :: 180 :: 0 :: 12 :: 180 :: 0 :: 134 :: 28 :: 42 :: 180 :: 0 :: 29 :: 180 :: 0 :: 118 :: 182 :: 0 :: 138 :: 42 :: 180 :: 0 :: 12 :: 180 :: 0 :: 134 :: 89 :: 180 :: 0 :: 143 :: 4 :: 96 :: 181 :: 0 :: 143 :: 42 :: 180 :: 0 :: 29 :: 182 :: 0 :: 86 :: 4 :: 172 :: 27 :: 16 :: 7 :: 161 :: 0 :: 8 :: 42 :: 182 :: 0 :: 74 :: 172 :: 42 :: 180 :: 0 :: 12 :: 180 :: 0 :: 134 :: 89 :: 180 :: dS_cX6_unit_2
def dS_cX6_unit_0 : List UInt8 := 42 :: 180 :: 0 :: 29 :: 180 :: 0 :: 47 :: 61 :: 28 :: 5 :: 159 :: 0 :: 15 :: 28 :: 16 :: 116 :: 161 :: 0 :: 13 :: 28 :: 16 :: 121 :: 163 :: 0 :: 7 :: 4 :: 167 :: 0 :: 4 :: 3 :: 62 :: 29 :: 154 :: 0 :: 9 :: 28 :: 16 :: 40 :: 160 :: 0 :: 18 :: 42 :: 180 :: 0 :: 12 :: 180 :: 0 :: 134 :: 180 :: 0 :: 143 :: 16 :: 30 :: 161 :: 0 :: 8 :: 42 :: 182 :: 0 :: 74 :: 172 :: 29 :: 153 :: 0 :: dS_cX6_unit_1
theorem dT_cX6_unit_0 : cX6_unit.data.toList.drop 0 = dS_cX6_unit_0 := by decide +kernel
theorem dT_cX6_unit_1 : cX6_unit.data.toList.drop 64 = dS_cX6_unit_1 := ck_nx dT_cX6_unit_0 (by decide +kernel) rfl
theorem dT_cX6_unit_2 : cX6_unit.data.toList.drop 128 = dS_cX6_unit_2 := ck_nx dT_cX6_unit_1 (by decide +kernel) rfl
theorem dg_cX6_unit_1449 : ck1L dS_cX6_unit_1 1 42 = true ∧ ck3L dS_cX6_unit_1 2 180 12 = true ∧ ck3L dS_cX6_unit_1 5 180 134 = true ∧ ck1L dS_cX6_unit_1 8 28 = true ∧ ck1L dS_cX6_unit_1 9 42 = true ∧ ck3L dS_cX6_unit_1 10 180 29 = true ∧ ck3L dS_cX6_unit_1 13 180 118 = true ∧ ck3L dS_cX6_unit_1 16 182 138 = true := by decide +kernel
theorem dX6_unit_65 : decode cX6_unit 65 = .ok (.aload_n 0, 1) := dk_42 (ck1_s (r := 1) dT_cX6_unit_1 rfl dg_cX6_unit_1449.1)
theorem dX6_unit_66 : decode cX6_unit 66 = .ok (.getfield 12, 3) := dk_180 (ck3_s (r := 2) dT_cX6_unit_1 rfl dg_cX6_unit_1449.2.1)
theorem dX6_unit_69 : decode cX6_unit 69 = .ok (.getfield 134, 3) := dk_180 (ck3_s (r := 5) dT_cX6_unit_1 rfl dg_cX6_unit_1449.2.2.1)
theorem dX6_unit_72 : decode cX6_unit 72 = .ok (.iload_n 2, 1) := dk_28 (ck1_s (r := 8) dT_cX6_unit_1 rfl dg_cX6_unit_1449.2.2.2.1)
theorem dX6_unit_73 : decode cX6_unit 73 = .ok (.aload_n 0, 1) := dk_42 (ck1_s (r := 9) dT_cX6_unit_1 rfl dg_cX6_unit_1449.2.2.2.2.1)
theorem dX6_unit_74 : decode cX6_unit 74 = .ok (.getfield 29, 3) := dk_180 (ck3_s (r := 10) dT_cX6_unit_1 rfl dg_cX6_unit_1449.2.2.2.2.2.1)
theorem dX6_unit_77 : decode cX6_unit 77 = .ok (.getfield 118, 3) := dk_180 (ck3_s (r := 13) dT_cX6_unit_1 rfl dg_cX6_unit_1449.2.2.2.2.2.2.1)
theorem dX6_unit_80 : decode cX6_unit 80 = .ok (.invokevirtual 138, 3) := dk_182 (ck3_s (r := 16) dT_cX6_unit_1 rfl dg_cX6_unit_1449.2.2.2.2.2.2.2)
theorem dg_cX6_unit_1450 : ck1L dS_cX6_unit_1 19 42 = true ∧ ck3L dS_cX6_unit_1 20 180 12 = true ∧ ck3L dS_cX6_unit_1 23 180 134 = true ∧ ck1L dS_cX6_unit_1 26 89 = true ∧ ck3L dS_cX6_unit_1 27 180 143 = true ∧ ck1L dS_cX6_unit_1 30 4 = true ∧ ck1L dS_cX6_unit_1 31 96 = true ∧ ck3L dS_cX6_unit_1 32 181 143 = true := by decide +kernel
theorem dX6_unit_83 : decode cX6_unit 83 = .ok (.aload_n 0, 1) := dk_42 (ck1_s (r := 19) dT_cX6_unit_1 rfl dg_cX6_unit_1450.1)
theorem dX6_unit_84 : decode cX6_unit 84 = .ok (.getfield 12, 3) := dk_180 (ck3_s (r := 20) dT_cX6_unit_1 rfl dg_cX6_unit_1450.2.1)
theorem dX6_unit_87 : decode cX6_unit 87 = .ok (.getfield 134, 3) := dk_180 (ck3_s (r := 23) dT_cX6_unit_1 rfl dg_cX6_unit_1450.2.2.1)
theorem dX6_unit_90 : decode cX6_unit 90 = .ok (.dup, 1) := dk_89 (ck1_s (r := 26) dT_cX6_unit_1 rfl dg_cX6_unit_1450.2.2.2.1)
theorem dX6_unit_91 : decode cX6_unit 91 = .ok (.getfield 143, 3) := dk_180 (ck3_s (r := 27) dT_cX6_unit_1 rfl dg_cX6_unit_1450.2.2.2.2.1)
theorem dX6_unit_94 : decode cX6_unit 94 = .ok (.iconst 1, 1) := dk_4 (ck1_s (r := 30) dT_cX6_unit_1 rfl dg_cX6_unit_1450.2.2.2.2.2.1)
theorem dX6_unit_95 : decode cX6_unit 95 = .ok (.iadd, 1) := dk_96 (ck1_s (r := 31) dT_cX6_unit_1 rfl dg_cX6_unit_1450.2.2.2.2.2.2.1)
theorem dX6_unit_96 : decode cX6_unit 96 = .ok (.putfield 143, 3) := dk_181 (ck3_s (r := 32) dT_cX6_unit_1 rfl dg_cX6_unit_1450.2.2.2.2.2.2.2)
theorem dg_cX6_unit_1451 : ck1L dS_cX6_unit_1 35 42 = true ∧ ck3L dS_cX6_unit_1 36 180 29 = true ∧ ck3L dS_cX6_unit_1 39 182 86 = true ∧ ck1L dS_cX6_unit_1 42 4 = true ∧ ck1L dS_cX6_unit_1 43 172 = true ∧ ck1L dS_cX6_unit_1 44 27 = true ∧ ck2sL dS_cX6_unit_1 45 16 7 = true ∧ ck3sL dS_cX6_unit_1 47 161 8 = true := by decide +kernel
theorem dX6_unit_99 : decode cX6_unit 99 = .ok (.aload_n 0, 1) := dk_42 (ck1_s (r := 35) dT_cX6_unit_1 rfl dg_cX6_unit_1451.1)
theorem dX6_unit_100 : decode cX6_unit 100 = .ok (.getfield 29, 3) := dk_180 (ck3_s (r := 36) dT_cX6_unit_1 rfl dg_cX6_unit_1451.2.1)
theorem dX6_unit_103 : decode cX6_unit 103 = .ok (.invokevirtual 86, 3) := dk_182 (ck3_s (r := 39) dT_cX6_unit_1 rfl dg_cX6_unit_1451.2.2.1)
theorem dX6_unit_106 : decode cX6_unit 106 = .ok (.iconst 1, 1) := dk_4 (ck1_s (r := 42) dT_cX6_unit_1 rfl dg_cX6_unit_1451.2.2.2.1)
theorem dX6_unit_107 : decode cX6_unit 107 = .ok (.ireturn, 1) := dk_172 (ck1_s (r := 43) dT_cX6_unit_1 rfl dg_cX6_unit_1451.2.2.2.2.1)
theorem dX6_unit_108 : decode cX6_unit 108 = .ok (.iload_n 1, 1) := dk_27 (ck1_s (r := 44) dT_cX6_unit_1 rfl dg_cX6_unit_1451.2.2.2.2.2.1)
theorem dX6_unit_109 : decode cX6_unit 109 = .ok (.bipush 7, 2) := dk_16 (ck2s_s (r := 45) dT_cX6_unit_1 rfl dg_cX6_unit_1451.2.2.2.2.2.2.1)
theorem dX6_unit_111 : decode cX6_unit 111 = .ok (.if_icmp .lt 8, 3) := dk_161 (ck3s_s (r := 47) dT_cX6_unit_1 rfl dg_cX6_unit_1451.2.2.2.2.2.2.2)
theorem dg_cX6_unit_1452 : ck1L dS_cX6_unit_1 50 42 = true ∧ ck3L dS_cX6_unit_1 51 182 74 = true ∧ ck1L dS_cX6_unit_1 54 172 = true ∧ ck1L dS_cX6_unit_1 55 42 = true ∧ ck3L dS_cX6_unit_1 56 180 12 = true ∧ ck3L dS_cX6_unit_1 59 180 134 = true ∧ ck1L dS_cX6_unit_1 62 89 = true ∧ ck3L dS_cX6_unit_1 63 180 143 = true := by decide +kernel
theorem dX6_unit_114 : decode cX6_unit 114 = .ok (.aload_n 0, 1) := dk_42 (ck1_s (r := 50) dT_cX6_unit_1 rfl dg_cX6_unit_1452.1)
theorem dX6_unit_115 : decode cX6_unit 115 = .ok (.invokevirtual 74, 3) := dk_182 (ck3_s (r := 51) dT_cX6_unit_1 rfl dg_cX6_unit_1452.2.1)
theorem dX6_unit_118 : decode cX6_unit 118 = .ok (.ireturn, 1) := dk_172 (ck1_s (r := 54) dT_cX6_unit_1 rfl dg_cX6_unit_1452.2.2.1)
theorem dX6_unit_119 : decode cX6_unit 119 = .ok (.aload_n 0, 1) := dk_42 (ck1_s (r := 55) dT_cX6_unit_1 rfl dg_cX6_unit_1452.2.2.2.1)
theorem dX6_unit_120 : decode cX6_unit 120 = .ok (.getfield 12, 3) := dk_180 (ck3_s (r := 56) dT_cX6_unit_1 rfl dg_cX6_unit_1452.2.2.2.2.1)
theorem dX6_unit_123 : decode cX6_unit 123 = .ok (.getfield 134, 3) := dk_180 (ck3_s (r := 59) dT_cX6_unit_1 rfl dg_cX6_unit_1452.2.2.2.2.2.1)
theorem dX6_unit_126 : decode cX6_unit 126 = .ok (.dup, 1) := dk_89 (ck1_s (r := 62) dT_cX6_unit_1 rfl dg_cX6_unit_1452.2.2.2.2.2.2.1)
theorem dX6_unit_127 : decode cX6_unit 127 = .ok (.getfield 143, 3) := dk_180 (ck3_s (r := 63) dT_cX6_unit_1 rfl dg_cX6_unit_1452.2.2.2.2.2.2.2)
theorem dg_cX6_unit_1453 : ck1L dS_cX6_unit_2 2 4 = true ∧ ck1L dS_cX6_unit_2 3 96 = true ∧ ck3L dS_cX6_unit_2 4 181 143 = true ∧ ck1L dS_cX6_unit_2 7 42 = true ∧ ck3L dS_cX6_unit_2 8 180 29 = true ∧ ck3L dS_cX6_unit_2 11 182 86 = true ∧ ck1L dS_cX6_unit_2 14 42 = true ∧ ck1L dS_cX6_unit_2 15 3 = true := by decide +kernel
theorem dX6_unit_130 : decode cX6_unit 130 = .ok (.iconst 1, 1) := dk_4 (ck1_s (r := 2) dT_cX6_unit_2 rfl dg_cX6_unit_1453.1)
theorem dX6_unit_131 : decode cX6_unit 131 = .ok (.iadd, 1) := dk_96 (ck1_s (r := 3) dT_cX6_unit_2 rfl dg_cX6_unit_1453.2.1)
theorem dX6_unit_132 : decode cX6_unit 132 = .ok (.putfield 143, 3) := dk_181 (ck3_s (r := 4) dT_cX6_unit_2 rfl dg_cX6_unit_1453.2.2.1)
theorem dX6_unit_135 : decode cX6_unit 135 = .ok (.aload_n 0, 1) := dk_42 (ck1_s (r := 7) dT_cX6_unit_2 rfl dg_cX6_unit_1453.2.2.2.1)
theorem dX6_unit_136 : decode cX6_unit 136 = .ok (.getfield 29, 3) := dk_180 (ck3_s (r := 8) dT_cX6_unit_2 rfl dg_cX6_unit_1453.2.2.2.2.1)
theorem dX6_unit_139 : decode cX6_unit 139 = .ok (.invokevirtual 86, 3) := dk_182 (ck3_s (r := 11) dT_cX6_unit_2 rfl dg_cX6_unit_1453.2.2.2.2.2.1)
theorem dX6_unit_142 : decode cX6_unit 142 = .ok (.aload_n 0, 1) := dk_42 (ck1_s (r := 14) dT_cX6_unit_2 rfl dg_cX6_unit_1453.2.2.2.2.2.2.1)
theorem dX6_unit_143 : decode cX6_unit 143 = .ok (.iconst 0, 1) := dk_3 (ck1_s (r := 15) dT_cX6_unit_2 rfl dg_cX6_unit_1453.2.2.2.2.2.2.2)
theorem dg_cX6_unit_1454 : ck1L dS_cX6_unit_2 16 27 = true ∧ ck1L dS_cX6_unit_2 17 4 = true ∧ ck1L dS_cX6_unit_2 18 96 = true ∧ ck3L dS_cX6_unit_2 19 182 67 = true ∧ ck3sL dS_cX6_unit_2 22 153 16 = true ∧ ck1L dS_cX6_unit_2 25 42 = true ∧ ck2sL dS_cX6_unit_2 26 16 41 = true ∧ ck3L dS_cX6_unit_2 28 182 83 = true := by decide +kernel
theorem dX6_unit_144 : decode cX6_unit 144 = .ok (.iload_n 1, 1) := dk_27 (ck1_s (r := 16) dT_cX6_unit_2 rfl dg_cX6_unit_1454.1)
theorem dX6_unit_145 : decode cX6_unit 145 = .ok (.iconst 1, 1) := dk_4 (ck1_s (r := 17) dT_cX6_unit_2 rfl dg_cX6_unit_1454.2.1)
theorem dX6_unit_146 : decode cX6_unit 146 = .ok (.iadd, 1) := dk_96 (ck1_s (r := 18) dT_cX6_unit_2 rfl dg_cX6_unit_1454.2.2.1)
theorem dX6_unit_147 : decode cX6_unit 147 = .ok (.invokevirtual 67, 3) := dk_182 (ck3_s (r := 19) dT_cX6_unit_2 rfl dg_cX6_unit_1454.2.2.2.1)
theorem dX6_unit_150 : decode cX6_unit 150 = .ok (.ifCond .eq 16, 3) := dk_153 (ck3s_s (r := 22) dT_cX6_unit_2 rfl dg_cX6_unit_1454.2.2.2.2.1)
theorem dX6_unit_153 : decode cX6_unit 153 = .ok (.aload_n 0, 1) := dk_42 (ck1_s (r := 25) dT_cX6_unit_2 rfl dg_cX6_unit_1454.2.2.2.2.2.1)
theorem dX6_unit_154 : decode cX6_unit 154 = .ok (.bipush 41, 2) := dk_16 (ck2s_s (r := 26) dT_cX6_unit_2 rfl dg_cX6_unit_1454.2.2.2.2.2.2.1)
theorem dX6_unit_156 : decode cX6_unit 156 = .ok (.invokevirtual 83, 3) := dk_182 (ck3_s (r := 28) dT_cX6_unit_2 rfl dg_cX6_unit_1454.2.2.2.2.2.2.2)
theorem dg_cX6_unit_1455 : ck3sL dS_cX6_unit_2 31 153 7 = true ∧ ck1L dS_cX6_unit_2 34 4 = true ∧ ck3sL dS_cX6_unit_2 35 167 4 = true ∧ ck1L dS_cX6_unit_2 38 3 = true ∧ ck1L dS_cX6_unit_2 39 172 = true := by decide +kernel
theorem dX6_unit_159 : decode cX6_unit 159 = .ok (.ifCond .eq 7, 3) := dk_153 (ck3s_s (r := 31) dT_cX6_unit_2 rfl dg_cX6_unit_1455.1)
theorem dX6_unit_162 : decode cX6_unit 162 = .ok (.iconst 1, 1) := dk_4 (ck1_s (r := 34) dT_cX6_unit_2 rfl dg_cX6_unit_1455.2.1)
theorem dX6_unit_163 : decode cX6_unit 163 = .ok (.goto 4, 3) := dk_167 (ck3s_s (r := 35) dT_cX6_unit_2 rfl dg_cX6_unit_1455.2.2.1)
theorem dX6_unit_166 : decode cX6_unit 166 = .ok (.iconst 0, 1) := dk_3 (ck1_s (r := 38) dT_cX6_unit_2 rfl dg_cX6_unit_1455.2.2.2.1)
theorem dX6_unit_167 : decode cX6_unit 167 = .ok (.ireturn, 1) := dk_172 (ck1_s (r := 39) dT_cX6_unit_2 rfl dg_cX6_unit_1455.2.2.2.2)
theorem dg_cX7_addCoat_1456 : ck1 cX7_addCoat 0 42 = true ∧ ck3 cX7_addCoat 1 180 32 = true ∧ ck2s cX7_addCoat 4 16 6 = true ∧ ck3s cX7_addCoat 6 162 65 = true ∧ ck1 cX7_addCoat 9 42 = true ∧ ck3 cX7_addCoat 10 180 15 = true ∧ ck1 cX7_addCoat 13 3 = true ∧ ck1 cX7_addCoat 14 42 = true := by decide +kernel
theorem dX7_addCoat_0 : decode cX7_addCoat 0 = .ok (.aload_n 0, 1) := dk_42 dg_cX7_addCoat_1456.1
theorem dX7_addCoat_1 : decode cX7_addCoat 1 = .ok (.getfield 32, 3) := dk_180 dg_cX7_addCoat_1456.2.1
theorem dX7_addCoat_4 : decode cX7_addCoat 4 = .ok (.bipush 6, 2) := dk_16 dg_cX7_addCoat_1456.2.2.1
theorem dX7_addCoat_6 : decode cX7_addCoat 6 = .ok (.if_icmp .ge 65, 3) := dk_162 dg_cX7_addCoat_1456.2.2.2.1
theorem dX7_addCoat_9 : decode cX7_addCoat 9 = .ok (.aload_n 0, 1) := dk_42 dg_cX7_addCoat_1456.2.2.2.2.1
theorem dX7_addCoat_10 : decode cX7_addCoat 10 = .ok (.getfield 15, 3) := dk_180 dg_cX7_addCoat_1456.2.2.2.2.2.1
theorem dX7_addCoat_13 : decode cX7_addCoat 13 = .ok (.iconst 0, 1) := dk_3 dg_cX7_addCoat_1456.2.2.2.2.2.2.1
theorem dX7_addCoat_14 : decode cX7_addCoat 14 = .ok (.aload_n 0, 1) := dk_42 dg_cX7_addCoat_1456.2.2.2.2.2.2.2
theorem dg_cX7_addCoat_1457 : ck3 cX7_addCoat 15 180 32 = true ∧ ck1 cX7_addCoat 18 96 = true ∧ ck1 cX7_addCoat 19 27 = true ∧ ck1 cX7_addCoat 20 79 = true ∧ ck1 cX7_addCoat 21 42 = true ∧ ck3 cX7_addCoat 22 180 15 = true ∧ ck2s cX7_addCoat 25 16 6 = true ∧ ck1 cX7_addCoat 27 42 = true := by decide +kernel
theorem dX7_addCoat_15 : decode cX7_addCoat 15 = .ok (.getfield 32, 3) := dk_180 dg_cX7_addCoat_1457.1
theorem dX7_addCoat_18 : decode cX7_addCoat 18 = .ok (.iadd, 1) := dk_96 dg_cX7_addCoat_1457.2.1
theorem dX7_addCoat_19 : decode cX7_addCoat 19 = .ok (.iload_n 1, 1) := dk_27 dg_cX7_addCoat_1457.2.2.1
theorem dX7_addCoat_20 : decode cX7_addCoat 20 = .ok (.iastore, 1) := dk_79 dg_cX7_addCoat_1457.2.2.2.1
theorem dX7_addCoat_21 : decode cX7_addCoat 21 = .ok (.aload_n 0, 1) := dk_42 dg_cX7_addCoat_1457.2.2.2.2.1
theorem dX7_addCoat_22 : decode cX7_addCoat 22 = .ok (.getfield 15, 3) := dk_180 dg_cX7_addCoat_1457.2.2.2.2.2.1
theorem dX7_addCoat_25 : decode cX7_addCoat 25 = .ok (.bipush 6, 2) := dk_16 dg_cX7_addCoat_1457.2.2.2.2.2.2.1
theorem dX7_addCoat_27 : decode cX7_addCoat 27 = .ok (.aload_n 0, 1) := dk_42 dg_cX7_addCoat_1457.2.2.2.2.2.2.2
theorem dg_cX7_addCoat_1458 : ck3 cX7_addCoat 28 180 32 = true ∧ ck1 cX7_addCoat 31 96 = true ∧ ck1 cX7_addCoat 32 28 = true ∧ ck1 cX7_addCoat 33 79 = true ∧ ck1 cX7_addCoat 34 42 = true ∧ ck3 cX7_addCoat 35 180 15 = true ∧ ck2s cX7_addCoat 38 16 12 = true ∧ ck1 cX7_addCoat 40 42 = true := by decide +kernel
theorem dX7_addCoat_28 : decode cX7_addCoat 28 = .ok (.getfield 32, 3) := dk_180 dg_cX7_addCoat_1458.1
theorem dX7_addCoat_31 : decode cX7_addCoat 31 = .ok (.iadd, 1) := dk_96 dg_cX7_addCoat_1458.2.1
theorem dX7_addCoat_32 : decode cX7_addCoat 32 = .ok (.iload_n 2, 1) := dk_28 dg_cX7_addCoat_1458.2.2.1
theorem dX7_addCoat_33 : decode cX7_addCoat 33 = .ok (.iastore, 1) := dk_79 dg_cX7_addCoat_1458.2.2.2.1
theorem dX7_addCoat_34 : decode cX7_addCoat 34 = .ok (.aload_n 0, 1) := dk_42 dg_cX7_addCoat_1458.2.2.2.2.1
theorem dX7_addCoat_35 : decode cX7_addCoat 35 = .ok (.getfield 15, 3) := dk_180 dg_cX7_addCoat_1458.2.2.2.2.2.1
theorem dX7_addCoat_38 : decode cX7_addCoat 38 = .ok (.bipush 12, 2) := dk_16 dg_cX7_addCoat_1458.2.2.2.2.2.2.1
theorem dX7_addCoat_40 : decode cX7_addCoat 40 = .ok (.aload_n 0, 1) := dk_42 dg_cX7_addCoat_1458.2.2.2.2.2.2.2
theorem dg_cX7_addCoat_1459 : ck3 cX7_addCoat 41 180 32 = true ∧ ck1 cX7_addCoat 44 96 = true ∧ ck1 cX7_addCoat 45 29 = true ∧ ck1 cX7_addCoat 46 79 = true ∧ ck1 cX7_addCoat 47 42 = true ∧ ck3 cX7_addCoat 48 180 15 = true ∧ ck2s cX7_addCoat 51 16 18 = true ∧ ck1 cX7_addCoat 53 42 = true := by decide +kernel
theorem dX7_addCoat_41 : decode cX7_addCoat 41 = .ok (.getfield 32, 3) := dk_180 dg_cX7_addCoat_1459.1
theorem dX7_addCoat_44 : decode cX7_addCoat 44 = .ok (.iadd, 1) := dk_96 dg_cX7_addCoat_1459.2.1
theorem dX7_addCoat_45 : decode cX7_addCoat 45 = .ok (.iload_n 3, 1) := dk_29 dg_cX7_addCoat_1459.2.2.1
theorem dX7_addCoat_46 : decode cX7_addCoat 46 = .ok (.iastore, 1) := dk_79 dg_cX7_addCoat_1459.2.2.2.1
theorem dX7_addCoat_47 : decode cX7_addCoat 47 = .ok (.aload_n 0, 1) := dk_42 dg_cX7_addCoat_1459.2.2.2.2.1
theorem dX7_addCoat_48 : decode cX7_addCoat 48 = .ok (.getfield 15, 3) := dk_180 dg_cX7_addCoat_1459.2.2.2.2.2.1
theorem dX7_addCoat_51 : decode cX7_addCoat 51 = .ok (.bipush 18, 2) := dk_16 dg_cX7_addCoat_1459.2.2.2.2.2.2.1
theorem dX7_addCoat_53 : decode cX7_addCoat 53 = .ok (.aload_n 0, 1) := dk_42 dg_cX7_addCoat_1459.2.2.2.2.2.2.2
theorem dg_cX7_addCoat_1460 : ck3 cX7_addCoat 54 180 32 = true ∧ ck1 cX7_addCoat 57 96 = true ∧ ck2 cX7_addCoat 58 21 4 = true ∧ ck1 cX7_addCoat 60 79 = true ∧ ck1 cX7_addCoat 61 42 = true ∧ ck1 cX7_addCoat 62 89 = true ∧ ck3 cX7_addCoat 63 180 32 = true := by decide +kernel
theorem dX7_addCoat_54 : decode cX7_addCoat 54 = .ok (.getfield 32, 3) := dk_180 dg_cX7_addCoat_1460.1
theorem dX7_addCoat_57 : decode cX7_addCoat 57 = .ok (.iadd, 1) := dk_96 dg_cX7_addCoat_1460.2.1
theorem dX7_addCoat_58 : decode cX7_addCoat 58 = .ok (.iload 4, 2) := dk_21 dg_cX7_addCoat_1460.2.2.1
theorem dX7_addCoat_60 : decode cX7_addCoat 60 = .ok (.iastore, 1) := dk_79 dg_cX7_addCoat_1460.2.2.2.1
theorem dX7_addCoat_61 : decode cX7_addCoat 61 = .ok (.aload_n 0, 1) := dk_42 dg_cX7_addCoat_1460.2.2.2.2.1
theorem dX7_addCoat_62 : decode cX7_addCoat 62 = .ok (.dup, 1) := dk_89 dg_cX7_addCoat_1460.2.2.2.2.2.1
theorem dX7_addCoat_63 : decode cX7_addCoat 63 = .ok (.getfield 32, 3) := dk_180 dg_cX7_addCoat_1460.2.2.2.2.2.2
def dS_cX7_addCoat_1 : List UInt8 := 0 :: 32 :: 4 :: 96 :: 181 :: 0 :: 32 :: 177 :: []
def dS_cX7_addCoat_0 : List UInt8 := 42 :: 180 :: 0 :: 32 :: 16 :: 6 :: 162 :: 0 :: 65 :: 42 :: 180 :: 0 :: 15 :: 3 :: 42 :: 180 :: 0 :: 32 :: 96 :: 27 :: 79 :: 42 :: 180 :: 0 :: 15 :: 16 :: 6 :: 42 :: 180 :: 0 :: 32 :: 96 :: 28 :: 79 :: 42 :: 180 :: 0 :: 15 :: 16 :: 12 :: 42 :: 180 :: 0 :: 32 :: 96 :: 29 :: 79 :: 42 :: 180 :: 0 :: 15 :: 16 :: 18 :: 42 :: 180 :: 0 :: 32 :: 96 :: 21 :: 4 :: 79 :: 42 :: 89 :: 180 :: dS_cX7_addCoat_1
theorem dT_cX7_addCoat_0 : cX7_addCoat.data.toList.drop 0 = dS_cX7_addCoat_0 := by decide +kernel
theorem dT_cX7_addCoat_1 : cX7_addCoat.data.toList.drop 64 = dS_cX7_addCoat_1 := ck_nx dT_cX7_addCoat_0 (by decide +kernel) rfl
theorem dg_cX7_addCoat_1461 : ck1L dS_cX7_addCoat_1 2 4 = true ∧ ck1L dS_cX7_addCoat_1 3 96 = true ∧ ck3L dS_cX7_addCoat_1 4 181 32 = true ∧ ck1L dS_cX7_addCoat_1 7 177 = true := by decide +kernel
theorem dX7_addCoat_66 : decode cX7_addCoat 66 = .ok (.iconst 1, 1) := dk_4 (ck1_s (r := 2) dT_cX7_addCoat_1 rfl dg_cX7_addCoat_1461.1)
theorem dX7_addCoat_67 : decode cX7_addCoat 67 = .ok (.iadd, 1) := dk_96 (ck1_s (r := 3) dT_cX7_addCoat_1 rfl dg_cX7_addCoat_1461.2.1)
theorem dX7_addCoat_68 : decode cX7_addCoat 68 = .ok (.putfield 32, 3) := dk_181 (ck3_s (r := 4) dT_cX7_addCoat_1 rfl dg_cX7_addCoat_1461.2.2.1)
theorem dX7_addCoat_71 : decode cX7_addCoat 71 = .ok (.return_, 1) := dk_177 (ck1_s (r := 7) dT_cX7_addCoat_1 rfl dg_cX7_addCoat_1461.2.2.2)
theorem dg_cX7_addMan_1462 : ck1 cX7_addMan 0 42 = true ∧ ck3 cX7_addMan 1 180 28 = true ∧ ck2s cX7_addMan 4 16 6 = true ∧ ck3s cX7_addMan 6 162 51 = true ∧ ck1 cX7_addMan 9 42 = true ∧ ck3 cX7_addMan 10 180 9 = true ∧ ck1 cX7_addMan 13 3 = true ∧ ck1 cX7_addMan 14 42 = true := by decide +kernel
theorem dX7_addMan_0 : decode cX7_addMan 0 = .ok (.aload_n 0, 1) := dk_42 dg_cX7_addMan_1462.1
theorem dX7_addMan_1 : decode cX7_addMan 1 = .ok (.getfield 28, 3) := dk_180 dg_cX7_addMan_1462.2.1
theorem dX7_addMan_4 : decode cX7_addMan 4 = .ok (.bipush 6, 2) := dk_16 dg_cX7_addMan_1462.2.2.1
theorem dX7_addMan_6 : decode cX7_addMan 6 = .ok (.if_icmp .ge 51, 3) := dk_162 dg_cX7_addMan_1462.2.2.2.1
theorem dX7_addMan_9 : decode cX7_addMan 9 = .ok (.aload_n 0, 1) := dk_42 dg_cX7_addMan_1462.2.2.2.2.1
theorem dX7_addMan_10 : decode cX7_addMan 10 = .ok (.getfield 9, 3) := dk_180 dg_cX7_addMan_1462.2.2.2.2.2.1
theorem dX7_addMan_13 : decode cX7_addMan 13 = .ok (.iconst 0, 1) := dk_3 dg_cX7_addMan_1462.2.2.2.2.2.2.1
theorem dX7_addMan_14 : decode cX7_addMan 14 = .ok (.aload_n 0, 1) := dk_42 dg_cX7_addMan_1462.2.2.2.2.2.2.2
theorem dg_cX7_addMan_1463 : ck3 cX7_addMan 15 180 28 = true ∧ ck1 cX7_addMan 18 96 = true ∧ ck1 cX7_addMan 19 27 = true ∧ ck1 cX7_addMan 20 79 = true ∧ ck1 cX7_addMan 21 42 = true ∧ ck3 cX7_addMan 22 180 9 = true ∧ ck2s cX7_addMan 25 16 6 = true ∧ ck1 cX7_addMan 27 42 = true := by decide +kernel
theorem dX7_addMan_15 : decode cX7_addMan 15 = .ok (.getfield 28, 3) := dk_180 dg_cX7_addMan_1463.1
theorem dX7_addMan_18 : decode cX7_addMan 18 = .ok (.iadd, 1) := dk_96 dg_cX7_addMan_1463.2.1
theorem dX7_addMan_19 : decode cX7_addMan 19 = .ok (.iload_n 1, 1) := dk_27 dg_cX7_addMan_1463.2.2.1
theorem dX7_addMan_20 : decode cX7_addMan 20 = .ok (.iastore, 1) := dk_79 dg_cX7_addMan_1463.2.2.2.1
theorem dX7_addMan_21 : decode cX7_addMan 21 = .ok (.aload_n 0, 1) := dk_42 dg_cX7_addMan_1463.2.2.2.2.1
theorem dX7_addMan_22 : decode cX7_addMan 22 = .ok (.getfield 9, 3) := dk_180 dg_cX7_addMan_1463.2.2.2.2.2.1
theorem dX7_addMan_25 : decode cX7_addMan 25 = .ok (.bipush 6, 2) := dk_16 dg_cX7_addMan_1463.2.2.2.2.2.2.1
theorem dX7_addMan_27 : decode cX7_addMan 27 = .ok (.aload_n 0, 1) := dk_42 dg_cX7_addMan_1463.2.2.2.2.2.2.2
theorem dg_cX7_addMan_1464 : ck3 cX7_addMan 28 180 28 = true ∧ ck1 cX7_addMan 31 96 = true ∧ ck1 cX7_addMan 32 28 = true ∧ ck1 cX7_addMan 33 79 = true ∧ ck1 cX7_addMan 34 42 = true ∧ ck3 cX7_addMan 35 180 9 = true ∧ ck2s cX7_addMan 38 16 12 = true ∧ ck1 cX7_addMan 40 42 = true := by decide +kernel
theorem dX7_addMan_28 : decode cX7_addMan 28 = .ok (.getfield 28, 3) := dk_180 dg_cX7_addMan_1464.1
theorem dX7_addMan_31 : decode cX7_addMan 31 = .ok (.iadd, 1) := dk_96 dg_cX7_addMan_1464.2.1
theorem dX7_addMan_32 : decode cX7_addMan 32 = .ok (.iload_n 2, 1) := dk_28 dg_cX7_addMan_1464.2.2.1
theorem dX7_addMan_33 : decode cX7_addMan 33 = .ok (.iastore, 1) := dk_79 dg_cX7_addMan_1464.2.2.2.1
theorem dX7_addMan_34 : decode cX7_addMan 34 = .ok (.aload_n 0, 1) := dk_42 dg_cX7_addMan_1464.2.2.2.2.1
theorem dX7_addMan_35 : decode cX7_addMan 35 = .ok (.getfield 9, 3) := dk_180 dg_cX7_addMan_1464.2.2.2.2.2.1
theorem dX7_addMan_38 : decode cX7_addMan 38 = .ok (.bipush 12, 2) := dk_16 dg_cX7_addMan_1464.2.2.2.2.2.2.1
theorem dX7_addMan_40 : decode cX7_addMan 40 = .ok (.aload_n 0, 1) := dk_42 dg_cX7_addMan_1464.2.2.2.2.2.2.2
theorem dg_cX7_addMan_1465 : ck3 cX7_addMan 41 180 28 = true ∧ ck1 cX7_addMan 44 96 = true ∧ ck1 cX7_addMan 45 29 = true ∧ ck1 cX7_addMan 46 79 = true ∧ ck1 cX7_addMan 47 42 = true ∧ ck1 cX7_addMan 48 89 = true ∧ ck3 cX7_addMan 49 180 28 = true ∧ ck1 cX7_addMan 52 4 = true := by decide +kernel
theorem dX7_addMan_41 : decode cX7_addMan 41 = .ok (.getfield 28, 3) := dk_180 dg_cX7_addMan_1465.1
theorem dX7_addMan_44 : decode cX7_addMan 44 = .ok (.iadd, 1) := dk_96 dg_cX7_addMan_1465.2.1
theorem dX7_addMan_45 : decode cX7_addMan 45 = .ok (.iload_n 3, 1) := dk_29 dg_cX7_addMan_1465.2.2.1
theorem dX7_addMan_46 : decode cX7_addMan 46 = .ok (.iastore, 1) := dk_79 dg_cX7_addMan_1465.2.2.2.1
theorem dX7_addMan_47 : decode cX7_addMan 47 = .ok (.aload_n 0, 1) := dk_42 dg_cX7_addMan_1465.2.2.2.2.1
theorem dX7_addMan_48 : decode cX7_addMan 48 = .ok (.dup, 1) := dk_89 dg_cX7_addMan_1465.2.2.2.2.2.1
theorem dX7_addMan_49 : decode cX7_addMan 49 = .ok (.getfield 28, 3) := dk_180 dg_cX7_addMan_1465.2.2.2.2.2.2.1
theorem dX7_addMan_52 : decode cX7_addMan 52 = .ok (.iconst 1, 1) := dk_4 dg_cX7_addMan_1465.2.2.2.2.2.2.2
theorem dg_cX7_addMan_1466 : ck1 cX7_addMan 53 96 = true ∧ ck3 cX7_addMan 54 181 28 = true ∧ ck1 cX7_addMan 57 177 = true := by decide +kernel
theorem dX7_addMan_53 : decode cX7_addMan 53 = .ok (.iadd, 1) := dk_96 dg_cX7_addMan_1466.1
theorem dX7_addMan_54 : decode cX7_addMan 54 = .ok (.putfield 28, 3) := dk_181 dg_cX7_addMan_1466.2.1
theorem dX7_addMan_57 : decode cX7_addMan 57 = .ok (.return_, 1) := dk_177 dg_cX7_addMan_1466.2.2
theorem dg_cX7_clear_1467 : ck1 cX7_clear 0 42 = true ∧ ck1 cX7_clear 1 3 = true ∧ ck3 cX7_clear 2 181 28 = true ∧ ck1 cX7_clear 5 42 = true ∧ ck1 cX7_clear 6 3 = true ∧ ck3 cX7_clear 7 181 32 = true ∧ ck1 cX7_clear 10 42 = true ∧ ck3 cX7_clear 11 180 21 = true := by decide +kernel
theorem dX7_clear_0 : decode cX7_clear 0 = .ok (.aload_n 0, 1) := dk_42 dg_cX7_clear_1467.1
theorem dX7_clear_1 : decode cX7_clear 1 = .ok (.iconst 0, 1) := dk_3 dg_cX7_clear_1467.2.1
theorem dX7_clear_2 : decode cX7_clear 2 = .ok (.putfield 28, 3) := dk_181 dg_cX7_clear_1467.2.2.1
theorem dX7_clear_5 : decode cX7_clear 5 = .ok (.aload_n 0, 1) := dk_42 dg_cX7_clear_1467.2.2.2.1
theorem dX7_clear_6 : decode cX7_clear 6 = .ok (.iconst 0, 1) := dk_3 dg_cX7_clear_1467.2.2.2.2.1
theorem dX7_clear_7 : decode cX7_clear 7 = .ok (.putfield 32, 3) := dk_181 dg_cX7_clear_1467.2.2.2.2.2.1
theorem dX7_clear_10 : decode cX7_clear 10 = .ok (.aload_n 0, 1) := dk_42 dg_cX7_clear_1467.2.2.2.2.2.2.1
theorem dX7_clear_11 : decode cX7_clear 11 = .ok (.getfield 21, 3) := dk_180 dg_cX7_clear_1467.2.2.2.2.2.2.2
theorem dg_cX7_clear_1468 : ck3 cX7_clear 14 182 35 = true ∧ ck1 cX7_clear 17 42 = true ∧ ck3 cX7_clear 18 182 25 = true ∧ ck1 cX7_clear 21 177 = true := by decide +kernel
theorem dX7_clear_14 : decode cX7_clear 14 = .ok (.invokevirtual 35, 3) := dk_182 dg_cX7_clear_1468.1
theorem dX7_clear_17 : decode cX7_clear 17 = .ok (.aload_n 0, 1) := dk_42 dg_cX7_clear_1468.2.1
theorem dX7_clear_18 : decode cX7_clear 18 = .ok (.invokevirtual 25, 3) := dk_182 dg_cX7_clear_1468.2.2.1
theorem dX7_clear_21 : decode cX7_clear 21 = .ok (.return_, 1) := dk_177 dg_cX7_clear_1468.2.2.2
theorem dg_cX7_coatPart_1469 : ck1 cX7_coatPart 0 42 = true ∧ ck1 cX7_coatPart 1 28 = true ∧ ck3 cX7_coatPart 2 182 67 = true ∧ ck3s cX7_coatPart 5 153 26 = true ∧ ck1 cX7_coatPart 8 27 = true ∧ ck3s cX7_coatPart 9 155 22 = true ∧ ck1 cX7_coatPart 12 27 = true ∧ ck1 cX7_coatPart 13 7 = true := by decide +kernel
theorem dX7_coatPart_0 : decode cX7_coatPart 0 = .ok (.aload_n 0, 1) := dk_42 dg_cX7_coatPart_1469.1
theorem dX7_coatPart_1 : decode cX7_coatPart 1 = .ok (.iload_n 2, 1) := dk_28 dg_cX7_coatPart_1469.2.1
theorem dX7_coatPart_2 : decode cX7_coatPart 2 = .ok (.invokevirtual 67, 3) := dk_182 dg_cX7_coatPart_1469.2.2.1
theorem dX7_coatPart_5 : decode cX7_coatPart 5 = .ok (.ifCond .eq 26, 3) := dk_153 dg_cX7_coatPart_1469.2.2.2.1
theorem dX7_coatPart_8 : decode cX7_coatPart 8 = .ok (.iload_n 1, 1) := dk_27 dg_cX7_coatPart_1469.2.2.2.2.1
theorem dX7_coatPart_9 : decode cX7_coatPart 9 = .ok (.ifCond .lt 22, 3) := dk_155 dg_cX7_coatPart_1469.2.2.2.2.2.1
theorem dX7_coatPart_12 : decode cX7_coatPart 12 = .ok (.iload_n 1, 1) := dk_27 dg_cX7_coatPart_1469.2.2.2.2.2.2.1
theorem dX7_coatPart_13 : decode cX7_coatPart 13 = .ok (.iconst 4, 1) := dk_7 dg_cX7_coatPart_1469.2.2.2.2.2.2.2
theorem dg_cX7_coatPart_1470 : ck3s cX7_coatPart 14 162 17 = true ∧ ck1 cX7_coatPart 17 42 = true ∧ ck3 cX7_coatPart 18 180 15 = true ∧ ck1 cX7_coatPart 21 27 = true ∧ ck2s cX7_coatPart 22 16 6 = true ∧ ck1 cX7_coatPart 24 104 = true ∧ ck1 cX7_coatPart 25 28 = true ∧ ck1 cX7_coatPart 26 96 = true := by decide +kernel
theorem dX7_coatPart_14 : decode cX7_coatPart 14 = .ok (.if_icmp .ge 17, 3) := dk_162 dg_cX7_coatPart_1470.1
theorem dX7_coatPart_17 : decode cX7_coatPart 17 = .ok (.aload_n 0, 1) := dk_42 dg_cX7_coatPart_1470.2.1
theorem dX7_coatPart_18 : decode cX7_coatPart 18 = .ok (.getfield 15, 3) := dk_180 dg_cX7_coatPart_1470.2.2.1
theorem dX7_coatPart_21 : decode cX7_coatPart 21 = .ok (.iload_n 1, 1) := dk_27 dg_cX7_coatPart_1470.2.2.2.1
theorem dX7_coatPart_22 : decode cX7_coatPart 22 = .ok (.bipush 6, 2) := dk_16 dg_cX7_coatPart_1470.2.2.2.2.1
theorem dX7_coatPart_24 : decode cX7_coatPart 24 = .ok (.imul, 1) := dk_104 dg_cX7_coatPart_1470.2.2.2.2.2.1
theorem dX7_coatPart_25 : decode cX7_coatPart 25 = .ok (.iload_n 2, 1) := dk_28 dg_cX7_coatPart_1470.2.2.2.2.2.2.1
theorem dX7_coatPart_26 : decode cX7_coatPart 26 = .ok (.iadd, 1) := dk_96 dg_cX7_coatPart_1470.2.2.2.2.2.2.2
theorem dg_cX7_coatPart_1471 : ck1 cX7_coatPart 27 46 = true ∧ ck3s cX7_coatPart 28 167 4 = true ∧ ck1 cX7_coatPart 31 3 = true ∧ ck1 cX7_coatPart 32 172 = true := by decide +kernel
theorem dX7_coatPart_27 : decode cX7_coatPart 27 = .ok (.iaload, 1) := dk_46 dg_cX7_coatPart_1471.1
theorem dX7_coatPart_28 : decode cX7_coatPart 28 = .ok (.goto 4, 3) := dk_167 dg_cX7_coatPart_1471.2.1
theorem dX7_coatPart_31 : decode cX7_coatPart 31 = .ok (.iconst 0, 1) := dk_3 dg_cX7_coatPart_1471.2.2.1
theorem dX7_coatPart_32 : decode cX7_coatPart 32 = .ok (.ireturn, 1) := dk_172 dg_cX7_coatPart_1471.2.2.2
theorem dg_cX7_copy_1472 : ck1 cX7_copy 0 43 = true ∧ ck3 cX7_copy 1 180 9 = true ∧ ck1 cX7_copy 4 3 = true ∧ ck1 cX7_copy 5 42 = true ∧ ck3 cX7_copy 6 180 9 = true ∧ ck1 cX7_copy 9 3 = true ∧ ck1 cX7_copy 10 42 = true ∧ ck3 cX7_copy 11 180 9 = true := by decide +kernel
theorem dX7_copy_0 : decode cX7_copy 0 = .ok (.aload_n 1, 1) := dk_43 dg_cX7_copy_1472.1
theorem dX7_copy_1 : decode cX7_copy 1 = .ok (.getfield 9, 3) := dk_180 dg_cX7_copy_1472.2.1
theorem dX7_copy_4 : decode cX7_copy 4 = .ok (.iconst 0, 1) := dk_3 dg_cX7_copy_1472.2.2.1
theorem dX7_copy_5 : decode cX7_copy 5 = .ok (.aload_n 0, 1) := dk_42 dg_cX7_copy_1472.2.2.2.1
theorem dX7_copy_6 : decode cX7_copy 6 = .ok (.getfield 9, 3) := dk_180 dg_cX7_copy_1472.2.2.2.2.1
theorem dX7_copy_9 : decode cX7_copy 9 = .ok (.iconst 0, 1) := dk_3 dg_cX7_copy_1472.2.2.2.2.2.1
theorem dX7_copy_10 : decode cX7_copy 10 = .ok (.aload_n 0, 1) := dk_42 dg_cX7_copy_1472.2.2.2.2.2.2.1
theorem dX7_copy_11 : decode cX7_copy 11 = .ok (.getfield 9, 3) := dk_180 dg_cX7_copy_1472.2.2.2.2.2.2.2
theorem dg_cX7_copy_1473 : ck1 cX7_copy 14 190 = true ∧ ck3 cX7_copy 15 184 53 = true ∧ ck1 cX7_copy 18 43 = true ∧ ck3 cX7_copy 19 180 15 = true ∧ ck1 cX7_copy 22 3 = true ∧ ck1 cX7_copy 23 42 = true ∧ ck3 cX7_copy 24 180 15 = true ∧ ck1 cX7_copy 27 3 = true := by decide +kernel
theorem dX7_copy_14 : decode cX7_copy 14 = .ok (.arraylength, 1) := dk_190 dg_cX7_copy_1473.1
theorem dX7_copy_15 : decode cX7_copy 15 = .ok (.invokestatic 53, 3) := dk_184 dg_cX7_copy_1473.2.1
theorem dX7_copy_18 : decode cX7_copy 18 = .ok (.aload_n 1, 1) := dk_43 dg_cX7_copy_1473.2.2.1
theorem dX7_copy_19 : decode cX7_copy 19 = .ok (.getfield 15, 3) := dk_180 dg_cX7_copy_1473.2.2.2.1
theorem dX7_copy_22 : decode cX7_copy 22 = .ok (.iconst 0, 1) := dk_3 dg_cX7_copy_1473.2.2.2.2.1
theorem dX7_copy_23 : decode cX7_copy 23 = .ok (.aload_n 0, 1) := dk_42 dg_cX7_copy_1473.2.2.2.2.2.1
theorem dX7_copy_24 : decode cX7_copy 24 = .ok (.getfield 15, 3) := dk_180 dg_cX7_copy_1473.2.2.2.2.2.2.1
theorem dX7_copy_27 : decode cX7_copy 27 = .ok (.iconst 0, 1) := dk_3 dg_cX7_copy_1473.2.2.2.2.2.2.2
theorem dg_cX7_copy_1474 : ck1 cX7_copy 28 42 = true ∧ ck3 cX7_copy 29 180 15 = true ∧ ck1 cX7_copy 32 190 = true ∧ ck3 cX7_copy 33 184 53 = true ∧ ck1 cX7_copy 36 42 = true ∧ ck3 cX7_copy 37 180 21 = true ∧ ck1 cX7_copy 40 43 = true ∧ ck3 cX7_copy 41 180 21 = true := by decide +kernel
theorem dX7_copy_28 : decode cX7_copy 28 = .ok (.aload_n 0, 1) := dk_42 dg_cX7_copy_1474.1
theorem dX7_copy_29 : decode cX7_copy 29 = .ok (.getfield 15, 3) := dk_180 dg_cX7_copy_1474.2.1
theorem dX7_copy_32 : decode cX7_copy 32 = .ok (.arraylength, 1) := dk_190 dg_cX7_copy_1474.2.2.1
theorem dX7_copy_33 : decode cX7_copy 33 = .ok (.invokestatic 53, 3) := dk_184 dg_cX7_copy_1474.2.2.2.1
theorem dX7_copy_36 : decode cX7_copy 36 = .ok (.aload_n 0, 1) := dk_42 dg_cX7_copy_1474.2.2.2.2.1
theorem dX7_copy_37 : decode cX7_copy 37 = .ok (.getfield 21, 3) := dk_180 dg_cX7_copy_1474.2.2.2.2.2.1
theorem dX7_copy_40 : decode cX7_copy 40 = .ok (.aload_n 1, 1) := dk_43 dg_cX7_copy_1474.2.2.2.2.2.2.1
theorem dX7_copy_41 : decode cX7_copy 41 = .ok (.getfield 21, 3) := dk_180 dg_cX7_copy_1474.2.2.2.2.2.2.2
theorem dg_cX7_copy_1475 : ck3 cX7_copy 44 182 59 = true ∧ ck1 cX7_copy 47 42 = true ∧ ck1 cX7_copy 48 43 = true ∧ ck3 cX7_copy 49 180 28 = true ∧ ck3 cX7_copy 52 181 28 = true ∧ ck1 cX7_copy 55 42 = true ∧ ck1 cX7_copy 56 43 = true ∧ ck3 cX7_copy 57 180 32 = true := by decide +kernel
theorem dX7_copy_44 : decode cX7_copy 44 = .ok (.invokevirtual 59, 3) := dk_182 dg_cX7_copy_1475.1
theorem dX7_copy_47 : decode cX7_copy 47 = .ok (.aload_n 0, 1) := dk_42 dg_cX7_copy_1475.2.1
theorem dX7_copy_48 : decode cX7_copy 48 = .ok (.aload_n 1, 1) := dk_43 dg_cX7_copy_1475.2.2.1
theorem dX7_copy_49 : decode cX7_copy 49 = .ok (.getfield 28, 3) := dk_180 dg_cX7_copy_1475.2.2.2.1
theorem dX7_copy_52 : decode cX7_copy 52 = .ok (.putfield 28, 3) := dk_181 dg_cX7_copy_1475.2.2.2.2.1
theorem dX7_copy_55 : decode cX7_copy 55 = .ok (.aload_n 0, 1) := dk_42 dg_cX7_copy_1475.2.2.2.2.2.1
theorem dX7_copy_56 : decode cX7_copy 56 = .ok (.aload_n 1, 1) := dk_43 dg_cX7_copy_1475.2.2.2.2.2.2.1
theorem dX7_copy_57 : decode cX7_copy 57 = .ok (.getfield 32, 3) := dk_180 dg_cX7_copy_1475.2.2.2.2.2.2.2
theorem dg_cX7_copy_1476 : ck3 cX7_copy 60 181 32 = true ∧ ck1 cX7_copy 63 42 = true := by decide +kernel
theorem dX7_copy_60 : decode cX7_copy 60 = .ok (.putfield 32, 3) := dk_181 dg_cX7_copy_1476.1
theorem dX7_copy_63 : decode cX7_copy 63 = .ok (.aload_n 0, 1) := dk_42 dg_cX7_copy_1476.2
def dS_cX7_copy_1 : List UInt8 := 43 :: 180 :: 0 :: 38 :: 181 :: 0 :: 38 :: 42 :: 43 :: 180 :: 0 :: 41 :: 181 :: 0 :: 41 :: 42 :: 43 :: 180 :: 0 :: 44 :: 181 :: 0 :: 44 :: 42 :: 43 :: 180 :: 0 :: 47 :: 181 :: 0 :: 47 :: 42 :: 43 :: 180 :: 0 :: 50 :: 181 :: 0 :: 50 :: 177 :: []
def dS_cX7_copy_0 : List UInt8 := 43 :: 180 :: 0 :: 9 :: 3 :: 42 :: 180 :: 0 :: 9 :: 3 :: 42 :: 180 :: 0 :: 9 :: 190 :: 184 :: 0 :: 53 :: 43 :: 180 :: 0 :: 15 :: 3 :: 42 :: 180 :: 0 :: 15 :: 3 :: 42 :: 180 :: 0 :: 15 :: 190 :: 184 :: 0 :: 53 :: 42 :: 180 :: 0 :: 21 :: 43 :: 180 :: 0 :: 21 :: 182 :: 0 :: 59 :: 42 :: 43 :: 180 :: 0 :: 28 :: 181 :: 0 :: 28 :: 42 :: 43 :: 180 :: 0 :: 32 :: 181 :: 0 :: 32 :: 42 :: dS_cX7_copy_1
theorem dT_cX7_copy_0 : cX7_copy.data.toList.drop 0 = dS_cX7_copy_0 := by decide +kernel
theorem dT_cX7_copy_1 : cX7_copy.data.toList.drop 64 = dS_cX7_copy_1 := ck_nx dT_cX7_copy_0 (by decide +kernel) rfl
theorem dg_cX7_copy_1477 : ck1L dS_cX7_copy_1 0 43 = true ∧ ck3L dS_cX7_copy_1 1 180 38 = true ∧ ck3L dS_cX7_copy_1 4 181 38 = true ∧ ck1L dS_cX7_copy_1 7 42 = true ∧ ck1L dS_cX7_copy_1 8 43 = true ∧ ck3L dS_cX7_copy_1 9 180 41 = true ∧ ck3L dS_cX7_copy_1 12 181 41 = true ∧ ck1L dS_cX7_copy_1 15 42 = true := by decide +kernel
theorem dX7_copy_64 : decode cX7_copy 64 = .ok (.aload_n 1, 1) := dk_43 (ck1_s (r := 0) dT_cX7_copy_1 rfl dg_cX7_copy_1477.1)
theorem dX7_copy_65 : decode cX7_copy 65 = .ok (.getfield 38, 3) := dk_180 (ck3_s (r := 1) dT_cX7_copy_1 rfl dg_cX7_copy_1477.2.1)
theorem dX7_copy_68 : decode cX7_copy 68 = .ok (.putfield 38, 3) := dk_181 (ck3_s (r := 4) dT_cX7_copy_1 rfl dg_cX7_copy_1477.2.2.1)
theorem dX7_copy_71 : decode cX7_copy 71 = .ok (.aload_n 0, 1) := dk_42 (ck1_s (r := 7) dT_cX7_copy_1 rfl dg_cX7_copy_1477.2.2.2.1)
theorem dX7_copy_72 : decode cX7_copy 72 = .ok (.aload_n 1, 1) := dk_43 (ck1_s (r := 8) dT_cX7_copy_1 rfl dg_cX7_copy_1477.2.2.2.2.1)
theorem dX7_copy_73 : decode cX7_copy 73 = .ok (.getfield 41, 3) := dk_180 (ck3_s (r := 9) dT_cX7_copy_1 rfl dg_cX7_copy_1477.2.2.2.2.2.1)
theorem dX7_copy_76 : decode cX7_copy 76 = .ok (.putfield 41, 3) := dk_181 (ck3_s (r := 12) dT_cX7_copy_1 rfl dg_cX7_copy_1477.2.2.2.2.2.2.1)
theorem dX7_copy_79 : decode cX7_copy 79 = .ok (.aload_n 0, 1) := dk_42 (ck1_s (r := 15) dT_cX7_copy_1 rfl dg_cX7_copy_1477.2.2.2.2.2.2.2)
theorem dg_cX7_copy_1478 : ck1L dS_cX7_copy_1 16 43 = true ∧ ck3L dS_cX7_copy_1 17 180 44 = true ∧ ck3L dS_cX7_copy_1 20 181 44 = true ∧ ck1L dS_cX7_copy_1 23 42 = true ∧ ck1L dS_cX7_copy_1 24 43 = true ∧ ck3L dS_cX7_copy_1 25 180 47 = true ∧ ck3L dS_cX7_copy_1 28 181 47 = true ∧ ck1L dS_cX7_copy_1 31 42 = true := by decide +kernel
theorem dX7_copy_80 : decode cX7_copy 80 = .ok (.aload_n 1, 1) := dk_43 (ck1_s (r := 16) dT_cX7_copy_1 rfl dg_cX7_copy_1478.1)
theorem dX7_copy_81 : decode cX7_copy 81 = .ok (.getfield 44, 3) := dk_180 (ck3_s (r := 17) dT_cX7_copy_1 rfl dg_cX7_copy_1478.2.1)
theorem dX7_copy_84 : decode cX7_copy 84 = .ok (.putfield 44, 3) := dk_181 (ck3_s (r := 20) dT_cX7_copy_1 rfl dg_cX7_copy_1478.2.2.1)
theorem dX7_copy_87 : decode cX7_copy 87 = .ok (.aload_n 0, 1) := dk_42 (ck1_s (r := 23) dT_cX7_copy_1 rfl dg_cX7_copy_1478.2.2.2.1)
theorem dX7_copy_88 : decode cX7_copy 88 = .ok (.aload_n 1, 1) := dk_43 (ck1_s (r := 24) dT_cX7_copy_1 rfl dg_cX7_copy_1478.2.2.2.2.1)
theorem dX7_copy_89 : decode cX7_copy 89 = .ok (.getfield 47, 3) := dk_180 (ck3_s (r := 25) dT_cX7_copy_1 rfl dg_cX7_copy_1478.2.2.2.2.2.1)
theorem dX7_copy_92 : decode cX7_copy 92 = .ok (.putfield 47, 3) := dk_181 (ck3_s (r := 28) dT_cX7_copy_1 rfl dg_cX7_copy_1478.2.2.2.2.2.2.1)
theorem dX7_copy_95 : decode cX7_copy 95 = .ok (.aload_n 0, 1) := dk_42 (ck1_s (r := 31) dT_cX7_copy_1 rfl dg_cX7_copy_1478.2.2.2.2.2.2.2)
theorem dg_cX7_copy_1479 : ck1L dS_cX7_copy_1 32 43 = true ∧ ck3L dS_cX7_copy_1 33 180 50 = true ∧ ck3L dS_cX7_copy_1 36 181 50 = true ∧ ck1L dS_cX7_copy_1 39 177 = true := by decide +kernel
theorem dX7_copy_96 : decode cX7_copy 96 = .ok (.aload_n 1, 1) := dk_43 (ck1_s (r := 32) dT_cX7_copy_1 rfl dg_cX7_copy_1479.1)
theorem dX7_copy_97 : decode cX7_copy 97 = .ok (.getfield 50, 3) := dk_180 (ck3_s (r := 33) dT_cX7_copy_1 rfl dg_cX7_copy_1479.2.1)
theorem dX7_copy_100 : decode cX7_copy 100 = .ok (.putfield 50, 3) := dk_181 (ck3_s (r := 36) dT_cX7_copy_1 rfl dg_cX7_copy_1479.2.2.1)
theorem dX7_copy_103 : decode cX7_copy 103 = .ok (.return_, 1) := dk_177 (ck1_s (r := 39) dT_cX7_copy_1 rfl dg_cX7_copy_1479.2.2.2)
theorem dg_cX7_hasCoat_1480 : ck1 cX7_hasCoat 0 27 = true ∧ ck3s cX7_hasCoat 1 155 15 = true ∧ ck1 cX7_hasCoat 4 27 = true ∧ ck1 cX7_hasCoat 5 42 = true ∧ ck3 cX7_hasCoat 6 180 32 = true ∧ ck3s cX7_hasCoat 9 162 7 = true ∧ ck1 cX7_hasCoat 12 4 = true ∧ ck3s cX7_hasCoat 13 167 4 = true := by decide +kernel
theorem dX7_hasCoat_0 : decode cX7_hasCoat 0 = .ok (.iload_n 1, 1) := dk_27 dg_cX7_hasCoat_1480.1
theorem dX7_hasCoat_1 : decode cX7_hasCoat 1 = .ok (.ifCond .lt 15, 3) := dk_155 dg_cX7_hasCoat_1480.2.1
theorem dX7_hasCoat_4 : decode cX7_hasCoat 4 = .ok (.iload_n 1, 1) := dk_27 dg_cX7_hasCoat_1480.2.2.1
theorem dX7_hasCoat_5 : decode cX7_hasCoat 5 = .ok (.aload_n 0, 1) := dk_42 dg_cX7_hasCoat_1480.2.2.2.1
theorem dX7_hasCoat_6 : decode cX7_hasCoat 6 = .ok (.getfield 32, 3) := dk_180 dg_cX7_hasCoat_1480.2.2.2.2.1
theorem dX7_hasCoat_9 : decode cX7_hasCoat 9 = .ok (.if_icmp .ge 7, 3) := dk_162 dg_cX7_hasCoat_1480.2.2.2.2.2.1
theorem dX7_hasCoat_12 : decode cX7_hasCoat 12 = .ok (.iconst 1, 1) := dk_4 dg_cX7_hasCoat_1480.2.2.2.2.2.2.1
theorem dX7_hasCoat_13 : decode cX7_hasCoat 13 = .ok (.goto 4, 3) := dk_167 dg_cX7_hasCoat_1480.2.2.2.2.2.2.2
theorem dg_cX7_hasCoat_1481 : ck1 cX7_hasCoat 16 3 = true ∧ ck1 cX7_hasCoat 17 172 = true := by decide +kernel
theorem dX7_hasCoat_16 : decode cX7_hasCoat 16 = .ok (.iconst 0, 1) := dk_3 dg_cX7_hasCoat_1481.1
theorem dX7_hasCoat_17 : decode cX7_hasCoat 17 = .ok (.ireturn, 1) := dk_172 dg_cX7_hasCoat_1481.2
theorem dg_cX7_hasMan_1482 : ck1 cX7_hasMan 0 27 = true ∧ ck3s cX7_hasMan 1 155 15 = true ∧ ck1 cX7_hasMan 4 27 = true ∧ ck1 cX7_hasMan 5 42 = true ∧ ck3 cX7_hasMan 6 180 28 = true ∧ ck3s cX7_hasMan 9 162 7 = true ∧ ck1 cX7_hasMan 12 4 = true ∧ ck3s cX7_hasMan 13 167 4 = true := by decide +kernel
theorem dX7_hasMan_0 : decode cX7_hasMan 0 = .ok (.iload_n 1, 1) := dk_27 dg_cX7_hasMan_1482.1
theorem dX7_hasMan_1 : decode cX7_hasMan 1 = .ok (.ifCond .lt 15, 3) := dk_155 dg_cX7_hasMan_1482.2.1
theorem dX7_hasMan_4 : decode cX7_hasMan 4 = .ok (.iload_n 1, 1) := dk_27 dg_cX7_hasMan_1482.2.2.1
theorem dX7_hasMan_5 : decode cX7_hasMan 5 = .ok (.aload_n 0, 1) := dk_42 dg_cX7_hasMan_1482.2.2.2.1
theorem dX7_hasMan_6 : decode cX7_hasMan 6 = .ok (.getfield 28, 3) := dk_180 dg_cX7_hasMan_1482.2.2.2.2.1
theorem dX7_hasMan_9 : decode cX7_hasMan 9 = .ok (.if_icmp .ge 7, 3) := dk_162 dg_cX7_hasMan_1482.2.2.2.2.2.1
theorem dX7_hasMan_12 : decode cX7_hasMan 12 = .ok (.iconst 1, 1) := dk_4 dg_cX7_hasMan_1482.2.2.2.2.2.2.1
theorem dX7_hasMan_13 : decode cX7_hasMan 13 = .ok (.goto 4, 3) := dk_167 dg_cX7_hasMan_1482.2.2.2.2.2.2.2
theorem dg_cX7_hasMan_1483 : ck1 cX7_hasMan 16 3 = true ∧ ck1 cX7_hasMan 17 172 = true := by decide +kernel
theorem dX7_hasMan_16 : decode cX7_hasMan 16 = .ok (.iconst 0, 1) := dk_3 dg_cX7_hasMan_1483.1
theorem dX7_hasMan_17 : decode cX7_hasMan 17 = .ok (.ireturn, 1) := dk_172 dg_cX7_hasMan_1483.2
theorem dg_cX7_init_1484 : ck1 cX7_init 0 42 = true ∧ ck3 cX7_init 1 183 3 = true ∧ ck1 cX7_init 4 42 = true ∧ ck2s cX7_init 5 16 18 = true := by decide +kernel
theorem dX7_init_0 : decode cX7_init 0 = .ok (.aload_n 0, 1) := dk_42 dg_cX7_init_1484.1
theorem dX7_init_1 : decode cX7_init 1 = .ok (.invokespecial 3, 3) := dk_183 dg_cX7_init_1484.2.1
theorem dX7_init_4 : decode cX7_init 4 = .ok (.aload_n 0, 1) := dk_42 dg_cX7_init_1484.2.2.1
theorem dX7_init_5 : decode cX7_init 5 = .ok (.bipush 18, 2) := dk_16 dg_cX7_init_1484.2.2.2
theorem dX7_init_7 : decode cX7_init 7 = .ok (.newarray .int, 2) := by decide +kernel
theorem dg_cX7_init_1485 : ck3 cX7_init 9 181 9 = true ∧ ck1 cX7_init 12 42 = true ∧ ck2s cX7_init 13 16 24 = true := by decide +kernel
theorem dX7_init_9 : decode cX7_init 9 = .ok (.putfield 9, 3) := dk_181 dg_cX7_init_1485.1
theorem dX7_init_12 : decode cX7_init 12 = .ok (.aload_n 0, 1) := dk_42 dg_cX7_init_1485.2.1
theorem dX7_init_13 : decode cX7_init 13 = .ok (.bipush 24, 2) := dk_16 dg_cX7_init_1485.2.2
theorem dX7_init_15 : decode cX7_init 15 = .ok (.newarray .int, 2) := by decide +kernel
theorem dg_cX7_init_1486 : ck3 cX7_init 17 181 15 = true ∧ ck1 cX7_init 20 42 = true ∧ ck3 cX7_init 21 187 18 = true ∧ ck1 cX7_init 24 89 = true ∧ ck3 cX7_init 25 183 20 = true ∧ ck3 cX7_init 28 181 21 = true ∧ ck1 cX7_init 31 42 = true ∧ ck3 cX7_init 32 182 25 = true := by decide +kernel
theorem dX7_init_17 : decode cX7_init 17 = .ok (.putfield 15, 3) := dk_181 dg_cX7_init_1486.1
theorem dX7_init_20 : decode cX7_init 20 = .ok (.aload_n 0, 1) := dk_42 dg_cX7_init_1486.2.1
theorem dX7_init_21 : decode cX7_init 21 = .ok (.new 18, 3) := dk_187 dg_cX7_init_1486.2.2.1
theorem dX7_init_24 : decode cX7_init 24 = .ok (.dup, 1) := dk_89 dg_cX7_init_1486.2.2.2.1
theorem dX7_init_25 : decode cX7_init 25 = .ok (.invokespecial 20, 3) := dk_183 dg_cX7_init_1486.2.2.2.2.1
theorem dX7_init_28 : decode cX7_init 28 = .ok (.putfield 21, 3) := dk_181 dg_cX7_init_1486.2.2.2.2.2.1
theorem dX7_init_31 : decode cX7_init 31 = .ok (.aload_n 0, 1) := dk_42 dg_cX7_init_1486.2.2.2.2.2.2.1
theorem dX7_init_32 : decode cX7_init 32 = .ok (.invokevirtual 25, 3) := dk_182 dg_cX7_init_1486.2.2.2.2.2.2.2
theorem dg_cX7_init_1487 : ck1 cX7_init 35 177 = true := by decide +kernel
theorem dX7_init_35 : decode cX7_init 35 = .ok (.return_, 1) := dk_177 dg_cX7_init_1487
theorem dg_cX7_manPart_1488 : ck1 cX7_manPart 0 42 = true ∧ ck1 cX7_manPart 1 28 = true ∧ ck3 cX7_manPart 2 182 63 = true ∧ ck3s cX7_manPart 5 153 26 = true ∧ ck1 cX7_manPart 8 27 = true ∧ ck3s cX7_manPart 9 155 22 = true ∧ ck1 cX7_manPart 12 27 = true ∧ ck1 cX7_manPart 13 6 = true := by decide +kernel
theorem dX7_manPart_0 : decode cX7_manPart 0 = .ok (.aload_n 0, 1) := dk_42 dg_cX7_manPart_1488.1
theorem dX7_manPart_1 : decode cX7_manPart 1 = .ok (.iload_n 2, 1) := dk_28 dg_cX7_manPart_1488.2.1
theorem dX7_manPart_2 : decode cX7_manPart 2 = .ok (.invokevirtual 63, 3) := dk_182 dg_cX7_manPart_1488.2.2.1
theorem dX7_manPart_5 : decode cX7_manPart 5 = .ok (.ifCond .eq 26, 3) := dk_153 dg_cX7_manPart_1488.2.2.2.1
theorem dX7_manPart_8 : decode cX7_manPart 8 = .ok (.iload_n 1, 1) := dk_27 dg_cX7_manPart_1488.2.2.2.2.1
theorem dX7_manPart_9 : decode cX7_manPart 9 = .ok (.ifCond .lt 22, 3) := dk_155 dg_cX7_manPart_1488.2.2.2.2.2.1
theorem dX7_manPart_12 : decode cX7_manPart 12 = .ok (.iload_n 1, 1) := dk_27 dg_cX7_manPart_1488.2.2.2.2.2.2.1
theorem dX7_manPart_13 : decode cX7_manPart 13 = .ok (.iconst 3, 1) := dk_6 dg_cX7_manPart_1488.2.2.2.2.2.2.2
theorem dg_cX7_manPart_1489 : ck3s cX7_manPart 14 162 17 = true ∧ ck1 cX7_manPart 17 42 = true ∧ ck3 cX7_manPart 18 180 9 = true ∧ ck1 cX7_manPart 21 27 = true ∧ ck2s cX7_manPart 22 16 6 = true ∧ ck1 cX7_manPart 24 104 = true ∧ ck1 cX7_manPart 25 28 = true ∧ ck1 cX7_manPart 26 96 = true := by decide +kernel
theorem dX7_manPart_14 : decode cX7_manPart 14 = .ok (.if_icmp .ge 17, 3) := dk_162 dg_cX7_manPart_1489.1
theorem dX7_manPart_17 : decode cX7_manPart 17 = .ok (.aload_n 0, 1) := dk_42 dg_cX7_manPart_1489.2.1
theorem dX7_manPart_18 : decode cX7_manPart 18 = .ok (.getfield 9, 3) := dk_180 dg_cX7_manPart_1489.2.2.1
theorem dX7_manPart_21 : decode cX7_manPart 21 = .ok (.iload_n 1, 1) := dk_27 dg_cX7_manPart_1489.2.2.2.1
theorem dX7_manPart_22 : decode cX7_manPart 22 = .ok (.bipush 6, 2) := dk_16 dg_cX7_manPart_1489.2.2.2.2.1
theorem dX7_manPart_24 : decode cX7_manPart 24 = .ok (.imul, 1) := dk_104 dg_cX7_manPart_1489.2.2.2.2.2.1
theorem dX7_manPart_25 : decode cX7_manPart 25 = .ok (.iload_n 2, 1) := dk_28 dg_cX7_manPart_1489.2.2.2.2.2.2.1
theorem dX7_manPart_26 : decode cX7_manPart 26 = .ok (.iadd, 1) := dk_96 dg_cX7_manPart_1489.2.2.2.2.2.2.2
theorem dg_cX7_manPart_1490 : ck1 cX7_manPart 27 46 = true ∧ ck3s cX7_manPart 28 167 4 = true ∧ ck1 cX7_manPart 31 3 = true ∧ ck1 cX7_manPart 32 172 = true := by decide +kernel
theorem dX7_manPart_27 : decode cX7_manPart 27 = .ok (.iaload, 1) := dk_46 dg_cX7_manPart_1490.1
theorem dX7_manPart_28 : decode cX7_manPart 28 = .ok (.goto 4, 3) := dk_167 dg_cX7_manPart_1490.2.1
theorem dX7_manPart_31 : decode cX7_manPart 31 = .ok (.iconst 0, 1) := dk_3 dg_cX7_manPart_1490.2.2.1
theorem dX7_manPart_32 : decode cX7_manPart 32 = .ok (.ireturn, 1) := dk_172 dg_cX7_manPart_1490.2.2.2
theorem dg_cX7_set_1491 : ck1 cX7_set 0 27 = true := by decide +kernel
theorem dX7_set_0 : decode cX7_set 0 = .ok (.iload_n 1, 1) := dk_27 dg_cX7_set_1491
theorem dX7_set_1 : decode cX7_set 1 = .ok (.tableswitch 63 104 107 #[31, 39, 47, 55], 31) := by decide +kernel
theorem dg_cX7_set_1492 : ck1 cX7_set 32 42 = true ∧ ck1 cX7_set 33 28 = true ∧ ck3 cX7_set 34 181 38 = true ∧ ck3s cX7_set 37 167 32 = true ∧ ck1 cX7_set 40 42 = true ∧ ck1 cX7_set 41 28 = true ∧ ck3 cX7_set 42 181 41 = true ∧ ck3s cX7_set 45 167 24 = true := by decide +kernel
theorem dX7_set_32 : decode cX7_set 32 = .ok (.aload_n 0, 1) := dk_42 dg_cX7_set_1492.1
theorem dX7_set_33 : decode cX7_set 33 = .ok (.iload_n 2, 1) := dk_28 dg_cX7_set_1492.2.1
theorem dX7_set_34 : decode cX7_set 34 = .ok (.putfield 38, 3) := dk_181 dg_cX7_set_1492.2.2.1
theorem dX7_set_37 : decode cX7_set 37 = .ok (.goto 32, 3) := dk_167 dg_cX7_set_1492.2.2.2.1
theorem dX7_set_40 : decode cX7_set 40 = .ok (.aload_n 0, 1) := dk_42 dg_cX7_set_1492.2.2.2.2.1
theorem dX7_set_41 : decode cX7_set 41 = .ok (.iload_n 2, 1) := dk_28 dg_cX7_set_1492.2.2.2.2.2.1
theorem dX7_set_42 : decode cX7_set 42 = .ok (.putfield 41, 3) := dk_181 dg_cX7_set_1492.2.2.2.2.2.2.1
theorem dX7_set_45 : decode cX7_set 45 = .ok (.goto 24, 3) := dk_167 dg_cX7_set_1492.2.2.2.2.2.2.2
theorem dg_cX7_set_1493 : ck1 cX7_set 48 42 = true ∧ ck1 cX7_set 49 28 = true ∧ ck3 cX7_set 50 181 44 = true ∧ ck3s cX7_set 53 167 16 = true ∧ ck1 cX7_set 56 42 = true ∧ ck1 cX7_set 57 28 = true ∧ ck3 cX7_set 58 181 47 = true ∧ ck3s cX7_set 61 167 8 = true := by decide +kernel
theorem dX7_set_48 : decode cX7_set 48 = .ok (.aload_n 0, 1) := dk_42 dg_cX7_set_1493.1
theorem dX7_set_49 : decode cX7_set 49 = .ok (.iload_n 2, 1) := dk_28 dg_cX7_set_1493.2.1
theorem dX7_set_50 : decode cX7_set 50 = .ok (.putfield 44, 3) := dk_181 dg_cX7_set_1493.2.2.1
theorem dX7_set_53 : decode cX7_set 53 = .ok (.goto 16, 3) := dk_167 dg_cX7_set_1493.2.2.2.1
theorem dX7_set_56 : decode cX7_set 56 = .ok (.aload_n 0, 1) := dk_42 dg_cX7_set_1493.2.2.2.2.1
theorem dX7_set_57 : decode cX7_set 57 = .ok (.iload_n 2, 1) := dk_28 dg_cX7_set_1493.2.2.2.2.2.1
theorem dX7_set_58 : decode cX7_set 58 = .ok (.putfield 47, 3) := dk_181 dg_cX7_set_1493.2.2.2.2.2.2.1
theorem dX7_set_61 : decode cX7_set 61 = .ok (.goto 8, 3) := dk_167 dg_cX7_set_1493.2.2.2.2.2.2.2
def dS_cX7_set_1 : List UInt8 := 42 :: 28 :: 181 :: 0 :: 50 :: 177 :: []
def dS_cX7_set_0 : List UInt8 := 27 :: 170 :: 0 :: 0 :: 0 :: 0 :: 0 :: 63 :: 0 :: 0 :: 0 :: 104 :: 0 :: 0 :: 0 :: 107 :: 0 :: 0 :: 0 :: 31 :: 0 :: 0 :: 0 :: 39 :: 0 :: 0 :: 0 :: 47 :: 0 :: 0 :: 0 :: 55 :: 42 :: 28 :: 181 :: 0 :: 38 :: 167 :: 0 :: 32 :: 42 :: 28 :: 181 :: 0 :: 41 :: 167 :: 0 :: 24 :: 42 :: 28 :: 181 :: 0 :: 44 :: 167 :: 0 :: 16 :: 42 :: 28 :: 181 :: 0 :: 47 :: 167 :: 0 :: 8 :: dS_cX7_set_1
theorem dT_cX7_set_0 : cX7_set.data.toList.drop 0 = dS_cX7_set_0 := by decide +kernel
theorem dT_cX7_set_1 : cX7_set.data.toList.drop 64 = dS_cX7_set_1 := ck_nx dT_cX7_set_0 (by decide +kernel) rfl
theorem dg_cX7_set_1494 : ck1L dS_cX7_set_1 0 42 = true ∧ ck1L dS_cX7_set_1 1 28 = true ∧ ck3L dS_cX7_set_1 2 181 50 = true ∧ ck1L dS_cX7_set_1 5 177 = true := by decide +kernel
theorem dX7_set_64 : decode cX7_set 64 = .ok (.aload_n 0, 1) := dk_42 (ck1_s (r := 0) dT_cX7_set_1 rfl dg_cX7_set_1494.1)
theorem dX7_set_65 : decode cX7_set 65 = .ok (.iload_n 2, 1) := dk_28 (ck1_s (r := 1) dT_cX7_set_1 rfl dg_cX7_set_1494.2.1)
theorem dX7_set_66 : decode cX7_set 66 = .ok (.putfield 50, 3) := dk_181 (ck3_s (r := 2) dT_cX7_set_1 rfl dg_cX7_set_1494.2.2.1)
theorem dX7_set_69 : decode cX7_set 69 = .ok (.return_, 1) := dk_177 (ck1_s (r := 5) dT_cX7_set_1 rfl dg_cX7_set_1494.2.2.2)
theorem dg_cX7_setDefaults_1495 : ck1 cX7_setDefaults 0 42 = true ∧ ck2s cX7_setDefaults 1 16 10 = true ∧ ck3 cX7_setDefaults 3 181 38 = true ∧ ck1 cX7_setDefaults 6 42 = true ∧ ck3s cX7_setDefaults 7 17 150 = true ∧ ck3 cX7_setDefaults 10 181 41 = true ∧ ck1 cX7_setDefaults 13 42 = true ∧ ck1 cX7_setDefaults 14 5 = true := by decide +kernel
theorem dX7_setDefaults_0 : decode cX7_setDefaults 0 = .ok (.aload_n 0, 1) := dk_42 dg_cX7_setDefaults_1495.1
theorem dX7_setDefaults_1 : decode cX7_setDefaults 1 = .ok (.bipush 10, 2) := dk_16 dg_cX7_setDefaults_1495.2.1
theorem dX7_setDefaults_3 : decode cX7_setDefaults 3 = .ok (.putfield 38, 3) := dk_181 dg_cX7_setDefaults_1495.2.2.1
theorem dX7_setDefaults_6 : decode cX7_setDefaults 6 = .ok (.aload_n 0, 1) := dk_42 dg_cX7_setDefaults_1495.2.2.2.1
theorem dX7_setDefaults_7 : decode cX7_setDefaults 7 = .ok (.sipush 150, 3) := dk_17 dg_cX7_setDefaults_1495.2.2.2.2.1
theorem dX7_setDefaults_10 : decode cX7_setDefaults 10 = .ok (.putfield 41, 3) := dk_181 dg_cX7_setDefaults_1495.2.2.2.2.2.1
theorem dX7_setDefaults_13 : decode cX7_setDefaults 13 = .ok (.aload_n 0, 1) := dk_42 dg_cX7_setDefaults_1495.2.2.2.2.2.2.1
theorem dX7_setDefaults_14 : decode cX7_setDefaults 14 = .ok (.iconst 2, 1) := dk_5 dg_cX7_setDefaults_1495.2.2.2.2.2.2.2
theorem dg_cX7_setDefaults_1496 : ck3 cX7_setDefaults 15 181 44 = true ∧ ck1 cX7_setDefaults 18 42 = true ∧ ck1 cX7_setDefaults 19 3 = true ∧ ck3 cX7_setDefaults 20 181 47 = true ∧ ck1 cX7_setDefaults 23 42 = true ∧ ck1 cX7_setDefaults 24 3 = true ∧ ck3 cX7_setDefaults 25 181 50 = true ∧ ck1 cX7_setDefaults 28 177 = true := by decide +kernel
theorem dX7_setDefaults_15 : decode cX7_setDefaults 15 = .ok (.putfield 44, 3) := dk_181 dg_cX7_setDefaults_1496.1
theorem dX7_setDefaults_18 : decode cX7_setDefaults 18 = .ok (.aload_n 0, 1) := dk_42 dg_cX7_setDefaults_1496.2.1
theorem dX7_setDefaults_19 : decode cX7_setDefaults 19 = .ok (.iconst 0, 1) := dk_3 dg_cX7_setDefaults_1496.2.2.1
theorem dX7_setDefaults_20 : decode cX7_setDefaults 20 = .ok (.putfield 47, 3) := dk_181 dg_cX7_setDefaults_1496.2.2.2.1
theorem dX7_setDefaults_23 : decode cX7_setDefaults 23 = .ok (.aload_n 0, 1) := dk_42 dg_cX7_setDefaults_1496.2.2.2.2.1
theorem dX7_setDefaults_24 : decode cX7_setDefaults 24 = .ok (.iconst 0, 1) := dk_3 dg_cX7_setDefaults_1496.2.2.2.2.2.1
theorem dX7_setDefaults_25 : decode cX7_setDefaults 25 = .ok (.putfield 50, 3) := dk_181 dg_cX7_setDefaults_1496.2.2.2.2.2.2.1
theorem dX7_setDefaults_28 : decode cX7_setDefaults 28 = .ok (.return_, 1) := dk_177 dg_cX7_setDefaults_1496.2.2.2.2.2.2.2
theorem dg_cX8_bestQuestion_1497 : ck1 cX8_bestQuestion 0 3 = true ∧ ck1 cX8_bestQuestion 1 61 = true ∧ ck1 cX8_bestQuestion 2 4 = true ∧ ck1 cX8_bestQuestion 3 62 = true ∧ ck1 cX8_bestQuestion 4 29 = true ∧ ck2s cX8_bestQuestion 5 16 20 = true ∧ ck3s cX8_bestQuestion 7 163 26 = true ∧ ck1 cX8_bestQuestion 10 42 = true := by decide +kernel
theorem dX8_bestQuestion_0 : decode cX8_bestQuestion 0 = .ok (.iconst 0, 1) := dk_3 dg_cX8_bestQuestion_1497.1
theorem dX8_bestQuestion_1 : decode cX8_bestQuestion 1 = .ok (.istore_n 2, 1) := dk_61 dg_cX8_bestQuestion_1497.2.1
theorem dX8_bestQuestion_2 : decode cX8_bestQuestion 2 = .ok (.iconst 1, 1) := dk_4 dg_cX8_bestQuestion_1497.2.2.1
theorem dX8_bestQuestion_3 : decode cX8_bestQuestion 3 = .ok (.istore_n 3, 1) := dk_62 dg_cX8_bestQuestion_1497.2.2.2.1
theorem dX8_bestQuestion_4 : decode cX8_bestQuestion 4 = .ok (.iload_n 3, 1) := dk_29 dg_cX8_bestQuestion_1497.2.2.2.2.1
theorem dX8_bestQuestion_5 : decode cX8_bestQuestion 5 = .ok (.bipush 20, 2) := dk_16 dg_cX8_bestQuestion_1497.2.2.2.2.2.1
theorem dX8_bestQuestion_7 : decode cX8_bestQuestion 7 = .ok (.if_icmp .gt 26, 3) := dk_163 dg_cX8_bestQuestion_1497.2.2.2.2.2.2.1
theorem dX8_bestQuestion_10 : decode cX8_bestQuestion 10 = .ok (.aload_n 0, 1) := dk_42 dg_cX8_bestQuestion_1497.2.2.2.2.2.2.2
theorem dg_cX8_bestQuestion_1498 : ck1 cX8_bestQuestion 11 27 = true ∧ ck1 cX8_bestQuestion 12 29 = true ∧ ck3 cX8_bestQuestion 13 182 84 = true ∧ ck1 cX8_bestQuestion 16 42 = true ∧ ck1 cX8_bestQuestion 17 27 = true ∧ ck1 cX8_bestQuestion 18 28 = true ∧ ck3 cX8_bestQuestion 19 182 84 = true ∧ ck3s cX8_bestQuestion 22 162 5 = true := by decide +kernel
theorem dX8_bestQuestion_11 : decode cX8_bestQuestion 11 = .ok (.iload_n 1, 1) := dk_27 dg_cX8_bestQuestion_1498.1
theorem dX8_bestQuestion_12 : decode cX8_bestQuestion 12 = .ok (.iload_n 3, 1) := dk_29 dg_cX8_bestQuestion_1498.2.1
theorem dX8_bestQuestion_13 : decode cX8_bestQuestion 13 = .ok (.invokevirtual 84, 3) := dk_182 dg_cX8_bestQuestion_1498.2.2.1
theorem dX8_bestQuestion_16 : decode cX8_bestQuestion 16 = .ok (.aload_n 0, 1) := dk_42 dg_cX8_bestQuestion_1498.2.2.2.1
theorem dX8_bestQuestion_17 : decode cX8_bestQuestion 17 = .ok (.iload_n 1, 1) := dk_27 dg_cX8_bestQuestion_1498.2.2.2.2.1
theorem dX8_bestQuestion_18 : decode cX8_bestQuestion 18 = .ok (.iload_n 2, 1) := dk_28 dg_cX8_bestQuestion_1498.2.2.2.2.2.1
theorem dX8_bestQuestion_19 : decode cX8_bestQuestion 19 = .ok (.invokevirtual 84, 3) := dk_182 dg_cX8_bestQuestion_1498.2.2.2.2.2.2.1
theorem dX8_bestQuestion_22 : decode cX8_bestQuestion 22 = .ok (.if_icmp .ge 5, 3) := dk_162 dg_cX8_bestQuestion_1498.2.2.2.2.2.2.2
theorem dg_cX8_bestQuestion_1499 : ck1 cX8_bestQuestion 25 29 = true ∧ ck1 cX8_bestQuestion 26 61 = true ∧ ck3i cX8_bestQuestion 27 132 3 1 = true ∧ ck3s cX8_bestQuestion 30 167 (-26) = true ∧ ck1 cX8_bestQuestion 33 28 = true ∧ ck1 cX8_bestQuestion 34 172 = true := by decide +kernel
theorem dX8_bestQuestion_25 : decode cX8_bestQuestion 25 = .ok (.iload_n 3, 1) := dk_29 dg_cX8_bestQuestion_1499.1
theorem dX8_bestQuestion_26 : decode cX8_bestQuestion 26 = .ok (.istore_n 2, 1) := dk_61 dg_cX8_bestQuestion_1499.2.1
theorem dX8_bestQuestion_27 : decode cX8_bestQuestion 27 = .ok (.iinc 3 1, 3) := dk_132 dg_cX8_bestQuestion_1499.2.2.1
theorem dX8_bestQuestion_30 : decode cX8_bestQuestion 30 = .ok (.goto (-26), 3) := dk_167 dg_cX8_bestQuestion_1499.2.2.2.1
theorem dX8_bestQuestion_33 : decode cX8_bestQuestion 33 = .ok (.iload_n 2, 1) := dk_28 dg_cX8_bestQuestion_1499.2.2.2.2.1
theorem dX8_bestQuestion_34 : decode cX8_bestQuestion 34 = .ok (.ireturn, 1) := dk_172 dg_cX8_bestQuestion_1499.2.2.2.2.2
theorem dg_cX8_clear_1500 : ck1 cX8_clear 0 42 = true ∧ ck1 cX8_clear 1 3 = true ∧ ck3 cX8_clear 2 181 38 = true ∧ ck1 cX8_clear 5 42 = true ∧ ck3 cX8_clear 6 180 25 = true ∧ ck1 cX8_clear 9 2 = true ∧ ck3 cX8_clear 10 184 32 = true ∧ ck1 cX8_clear 13 177 = true := by decide +kernel
theorem dX8_clear_0 : decode cX8_clear 0 = .ok (.aload_n 0, 1) := dk_42 dg_cX8_clear_1500.1
theorem dX8_clear_1 : decode cX8_clear 1 = .ok (.iconst 0, 1) := dk_3 dg_cX8_clear_1500.2.1
theorem dX8_clear_2 : decode cX8_clear 2 = .ok (.putfield 38, 3) := dk_181 dg_cX8_clear_1500.2.2.1
theorem dX8_clear_5 : decode cX8_clear 5 = .ok (.aload_n 0, 1) := dk_42 dg_cX8_clear_1500.2.2.2.1
theorem dX8_clear_6 : decode cX8_clear 6 = .ok (.getfield 25, 3) := dk_180 dg_cX8_clear_1500.2.2.2.2.1
theorem dX8_clear_9 : decode cX8_clear 9 = .ok (.iconst (-1), 1) := dk_2 dg_cX8_clear_1500.2.2.2.2.2.1
theorem dX8_clear_10 : decode cX8_clear 10 = .ok (.invokestatic 32, 3) := dk_184 dg_cX8_clear_1500.2.2.2.2.2.2.1
theorem dX8_clear_13 : decode cX8_clear 13 = .ok (.return_, 1) := dk_177 dg_cX8_clear_1500.2.2.2.2.2.2.2
theorem dg_cX8_fitsGrown_1501 : ck2s cX8_fitsGrown 0 16 99 = true ∧ ck1 cX8_fitsGrown 2 42 = true ∧ ck3 cX8_fitsGrown 3 180 28 = true ∧ ck1 cX8_fitsGrown 6 4 = true ∧ ck1 cX8_fitsGrown 7 3 = true ∧ ck3 cX8_fitsGrown 8 182 59 = true ∧ ck1 cX8_fitsGrown 11 27 = true ∧ ck1 cX8_fitsGrown 12 28 = true := by decide +kernel
theorem dX8_fitsGrown_0 : decode cX8_fitsGrown 0 = .ok (.bipush 99, 2) := dk_16 dg_cX8_fitsGrown_1501.1
theorem dX8_fitsGrown_2 : decode cX8_fitsGrown 2 = .ok (.aload_n 0, 1) := dk_42 dg_cX8_fitsGrown_1501.2.1
theorem dX8_fitsGrown_3 : decode cX8_fitsGrown 3 = .ok (.getfield 28, 3) := dk_180 dg_cX8_fitsGrown_1501.2.2.1
theorem dX8_fitsGrown_6 : decode cX8_fitsGrown 6 = .ok (.iconst 1, 1) := dk_4 dg_cX8_fitsGrown_1501.2.2.2.1
theorem dX8_fitsGrown_7 : decode cX8_fitsGrown 7 = .ok (.iconst 0, 1) := dk_3 dg_cX8_fitsGrown_1501.2.2.2.2.1
theorem dX8_fitsGrown_8 : decode cX8_fitsGrown 8 = .ok (.invokevirtual 59, 3) := dk_182 dg_cX8_fitsGrown_1501.2.2.2.2.2.1
theorem dX8_fitsGrown_11 : decode cX8_fitsGrown 11 = .ok (.iload_n 1, 1) := dk_27 dg_cX8_fitsGrown_1501.2.2.2.2.2.2.1
theorem dX8_fitsGrown_12 : decode cX8_fitsGrown 12 = .ok (.iload_n 2, 1) := dk_28 dg_cX8_fitsGrown_1501.2.2.2.2.2.2.2
theorem dg_cX8_fitsGrown_1502 : ck1 cX8_fitsGrown 13 104 = true ∧ ck1 cX8_fitsGrown 14 96 = true ∧ ck3 cX8_fitsGrown 15 184 63 = true ∧ ck1 cX8_fitsGrown 18 62 = true ∧ ck2s cX8_fitsGrown 19 16 99 = true ∧ ck1 cX8_fitsGrown 21 42 = true ∧ ck3 cX8_fitsGrown 22 180 28 = true ∧ ck1 cX8_fitsGrown 25 6 = true := by decide +kernel
theorem dX8_fitsGrown_13 : decode cX8_fitsGrown 13 = .ok (.imul, 1) := dk_104 dg_cX8_fitsGrown_1502.1
theorem dX8_fitsGrown_14 : decode cX8_fitsGrown 14 = .ok (.iadd, 1) := dk_96 dg_cX8_fitsGrown_1502.2.1
theorem dX8_fitsGrown_15 : decode cX8_fitsGrown 15 = .ok (.invokestatic 63, 3) := dk_184 dg_cX8_fitsGrown_1502.2.2.1
theorem dX8_fitsGrown_18 : decode cX8_fitsGrown 18 = .ok (.istore_n 3, 1) := dk_62 dg_cX8_fitsGrown_1502.2.2.2.1
theorem dX8_fitsGrown_19 : decode cX8_fitsGrown 19 = .ok (.bipush 99, 2) := dk_16 dg_cX8_fitsGrown_1502.2.2.2.2.1
theorem dX8_fitsGrown_21 : decode cX8_fitsGrown 21 = .ok (.aload_n 0, 1) := dk_42 dg_cX8_fitsGrown_1502.2.2.2.2.2.1
theorem dX8_fitsGrown_22 : decode cX8_fitsGrown 22 = .ok (.getfield 28, 3) := dk_180 dg_cX8_fitsGrown_1502.2.2.2.2.2.2.1
theorem dX8_fitsGrown_25 : decode cX8_fitsGrown 25 = .ok (.iconst 3, 1) := dk_6 dg_cX8_fitsGrown_1502.2.2.2.2.2.2.2
theorem dg_cX8_fitsGrown_1503 : ck1 cX8_fitsGrown 26 3 = true ∧ ck3 cX8_fitsGrown 27 182 68 = true ∧ ck1 cX8_fitsGrown 30 28 = true ∧ ck1 cX8_fitsGrown 31 96 = true ∧ ck3 cX8_fitsGrown 32 184 63 = true ∧ ck2 cX8_fitsGrown 35 54 4 = true ∧ ck1 cX8_fitsGrown 37 42 = true ∧ ck3 cX8_fitsGrown 38 180 28 = true := by decide +kernel
theorem dX8_fitsGrown_26 : decode cX8_fitsGrown 26 = .ok (.iconst 0, 1) := dk_3 dg_cX8_fitsGrown_1503.1
theorem dX8_fitsGrown_27 : decode cX8_fitsGrown 27 = .ok (.invokevirtual 68, 3) := dk_182 dg_cX8_fitsGrown_1503.2.1
theorem dX8_fitsGrown_30 : decode cX8_fitsGrown 30 = .ok (.iload_n 2, 1) := dk_28 dg_cX8_fitsGrown_1503.2.2.1
theorem dX8_fitsGrown_31 : decode cX8_fitsGrown 31 = .ok (.iadd, 1) := dk_96 dg_cX8_fitsGrown_1503.2.2.2.1
theorem dX8_fitsGrown_32 : decode cX8_fitsGrown 32 = .ok (.invokestatic 63, 3) := dk_184 dg_cX8_fitsGrown_1503.2.2.2.2.1
theorem dX8_fitsGrown_35 : decode cX8_fitsGrown 35 = .ok (.istore 4, 2) := dk_54 dg_cX8_fitsGrown_1503.2.2.2.2.2.1
theorem dX8_fitsGrown_37 : decode cX8_fitsGrown 37 = .ok (.aload_n 0, 1) := dk_42 dg_cX8_fitsGrown_1503.2.2.2.2.2.2.1
theorem dX8_fitsGrown_38 : decode cX8_fitsGrown 38 = .ok (.getfield 28, 3) := dk_180 dg_cX8_fitsGrown_1503.2.2.2.2.2.2.2
theorem dg_cX8_fitsGrown_1504 : ck3 cX8_fitsGrown 41 180 71 = true ∧ ck1 cX8_fitsGrown 44 42 = true ∧ ck3 cX8_fitsGrown 45 180 28 = true ∧ ck1 cX8_fitsGrown 48 3 = true ∧ ck1 cX8_fitsGrown 49 3 = true ∧ ck3 cX8_fitsGrown 50 182 59 = true ∧ ck1 cX8_fitsGrown 53 29 = true ∧ ck1 cX8_fitsGrown 54 42 = true := by decide +kernel
theorem dX8_fitsGrown_41 : decode cX8_fitsGrown 41 = .ok (.getfield 71, 3) := dk_180 dg_cX8_fitsGrown_1504.1
theorem dX8_fitsGrown_44 : decode cX8_fitsGrown 44 = .ok (.aload_n 0, 1) := dk_42 dg_cX8_fitsGrown_1504.2.1
theorem dX8_fitsGrown_45 : decode cX8_fitsGrown 45 = .ok (.getfield 28, 3) := dk_180 dg_cX8_fitsGrown_1504.2.2.1
theorem dX8_fitsGrown_48 : decode cX8_fitsGrown 48 = .ok (.iconst 0, 1) := dk_3 dg_cX8_fitsGrown_1504.2.2.2.1
theorem dX8_fitsGrown_49 : decode cX8_fitsGrown 49 = .ok (.iconst 0, 1) := dk_3 dg_cX8_fitsGrown_1504.2.2.2.2.1
theorem dX8_fitsGrown_50 : decode cX8_fitsGrown 50 = .ok (.invokevirtual 59, 3) := dk_182 dg_cX8_fitsGrown_1504.2.2.2.2.2.1
theorem dX8_fitsGrown_53 : decode cX8_fitsGrown 53 = .ok (.iload_n 3, 1) := dk_29 dg_cX8_fitsGrown_1504.2.2.2.2.2.2.1
theorem dX8_fitsGrown_54 : decode cX8_fitsGrown 54 = .ok (.aload_n 0, 1) := dk_42 dg_cX8_fitsGrown_1504.2.2.2.2.2.2.2
theorem dg_cX8_fitsGrown_1505 : ck3 cX8_fitsGrown 55 180 28 = true ∧ ck1 cX8_fitsGrown 58 3 = true ∧ ck1 cX8_fitsGrown 59 3 = true ∧ ck3 cX8_fitsGrown 60 182 68 = true ∧ ck1 cX8_fitsGrown 63 42 = true := by decide +kernel
theorem dX8_fitsGrown_55 : decode cX8_fitsGrown 55 = .ok (.getfield 28, 3) := dk_180 dg_cX8_fitsGrown_1505.1
theorem dX8_fitsGrown_58 : decode cX8_fitsGrown 58 = .ok (.iconst 0, 1) := dk_3 dg_cX8_fitsGrown_1505.2.1
theorem dX8_fitsGrown_59 : decode cX8_fitsGrown 59 = .ok (.iconst 0, 1) := dk_3 dg_cX8_fitsGrown_1505.2.2.1
theorem dX8_fitsGrown_60 : decode cX8_fitsGrown 60 = .ok (.invokevirtual 68, 3) := dk_182 dg_cX8_fitsGrown_1505.2.2.2.1
theorem dX8_fitsGrown_63 : decode cX8_fitsGrown 63 = .ok (.aload_n 0, 1) := dk_42 dg_cX8_fitsGrown_1505.2.2.2.2
def dS_cX8_fitsGrown_1 : List UInt8 := 180 :: 0 :: 28 :: 4 :: 3 :: 182 :: 0 :: 68 :: 21 :: 4 :: 28 :: 182 :: 0 :: 75 :: 42 :: 180 :: 0 :: 28 :: 180 :: 0 :: 81 :: 163 :: 0 :: 7 :: 4 :: 167 :: 0 :: 4 :: 3 :: 172 :: []
def dS_cX8_fitsGrown_0 : List UInt8 := 16 :: 99 :: 42 :: 180 :: 0 :: 28 :: 4 :: 3 :: 182 :: 0 :: 59 :: 27 :: 28 :: 104 :: 96 :: 184 :: 0 :: 63 :: 62 :: 16 :: 99 :: 42 :: 180 :: 0 :: 28 :: 6 :: 3 :: 182 :: 0 :: 68 :: 28 :: 96 :: 184 :: 0 :: 63 :: 54 :: 4 :: 42 :: 180 :: 0 :: 28 :: 180 :: 0 :: 71 :: 42 :: 180 :: 0 :: 28 :: 3 :: 3 :: 182 :: 0 :: 59 :: 29 :: 42 :: 180 :: 0 :: 28 :: 3 :: 3 :: 182 :: 0 :: 68 :: 42 :: dS_cX8_fitsGrown_1
theorem dT_cX8_fitsGrown_0 : cX8_fitsGrown.data.toList.drop 0 = dS_cX8_fitsGrown_0 := by decide +kernel
theorem dT_cX8_fitsGrown_1 : cX8_fitsGrown.data.toList.drop 64 = dS_cX8_fitsGrown_1 := ck_nx dT_cX8_fitsGrown_0 (by decide +kernel) rfl
theorem dg_cX8_fitsGrown_1506 : ck3L dS_cX8_fitsGrown_1 0 180 28 = true ∧ ck1L dS_cX8_fitsGrown_1 3 4 = true ∧ ck1L dS_cX8_fitsGrown_1 4 3 = true ∧ ck3L dS_cX8_fitsGrown_1 5 182 68 = true ∧ ck2L dS_cX8_fitsGrown_1 8 21 4 = true ∧ ck1L dS_cX8_fitsGrown_1 10 28 = true ∧ ck3L dS_cX8_fitsGrown_1 11 182 75 = true ∧ ck1L dS_cX8_fitsGrown_1 14 42 = true := by decide +kernel
theorem dX8_fitsGrown_64 : decode cX8_fitsGrown 64 = .ok (.getfield 28, 3) := dk_180 (ck3_s (r := 0) dT_cX8_fitsGrown_1 rfl dg_cX8_fitsGrown_1506.1)
theorem dX8_fitsGrown_67 : decode cX8_fitsGrown 67 = .ok (.iconst 1, 1) := dk_4 (ck1_s (r := 3) dT_cX8_fitsGrown_1 rfl dg_cX8_fitsGrown_1506.2.1)
theorem dX8_fitsGrown_68 : decode cX8_fitsGrown 68 = .ok (.iconst 0, 1) := dk_3 (ck1_s (r := 4) dT_cX8_fitsGrown_1 rfl dg_cX8_fitsGrown_1506.2.2.1)
theorem dX8_fitsGrown_69 : decode cX8_fitsGrown 69 = .ok (.invokevirtual 68, 3) := dk_182 (ck3_s (r := 5) dT_cX8_fitsGrown_1 rfl dg_cX8_fitsGrown_1506.2.2.2.1)
theorem dX8_fitsGrown_72 : decode cX8_fitsGrown 72 = .ok (.iload 4, 2) := dk_21 (ck2_s (r := 8) dT_cX8_fitsGrown_1 rfl dg_cX8_fitsGrown_1506.2.2.2.2.1)
theorem dX8_fitsGrown_74 : decode cX8_fitsGrown 74 = .ok (.iload_n 2, 1) := dk_28 (ck1_s (r := 10) dT_cX8_fitsGrown_1 rfl dg_cX8_fitsGrown_1506.2.2.2.2.2.1)
theorem dX8_fitsGrown_75 : decode cX8_fitsGrown 75 = .ok (.invokevirtual 75, 3) := dk_182 (ck3_s (r := 11) dT_cX8_fitsGrown_1 rfl dg_cX8_fitsGrown_1506.2.2.2.2.2.2.1)
theorem dX8_fitsGrown_78 : decode cX8_fitsGrown 78 = .ok (.aload_n 0, 1) := dk_42 (ck1_s (r := 14) dT_cX8_fitsGrown_1 rfl dg_cX8_fitsGrown_1506.2.2.2.2.2.2.2)
theorem dg_cX8_fitsGrown_1507 : ck3L dS_cX8_fitsGrown_1 15 180 28 = true ∧ ck3L dS_cX8_fitsGrown_1 18 180 81 = true ∧ ck3sL dS_cX8_fitsGrown_1 21 163 7 = true ∧ ck1L dS_cX8_fitsGrown_1 24 4 = true ∧ ck3sL dS_cX8_fitsGrown_1 25 167 4 = true ∧ ck1L dS_cX8_fitsGrown_1 28 3 = true ∧ ck1L dS_cX8_fitsGrown_1 29 172 = true := by decide +kernel
theorem dX8_fitsGrown_79 : decode cX8_fitsGrown 79 = .ok (.getfield 28, 3) := dk_180 (ck3_s (r := 15) dT_cX8_fitsGrown_1 rfl dg_cX8_fitsGrown_1507.1)
theorem dX8_fitsGrown_82 : decode cX8_fitsGrown 82 = .ok (.getfield 81, 3) := dk_180 (ck3_s (r := 18) dT_cX8_fitsGrown_1 rfl dg_cX8_fitsGrown_1507.2.1)
theorem dX8_fitsGrown_85 : decode cX8_fitsGrown 85 = .ok (.if_icmp .gt 7, 3) := dk_163 (ck3s_s (r := 21) dT_cX8_fitsGrown_1 rfl dg_cX8_fitsGrown_1507.2.2.1)
theorem dX8_fitsGrown_88 : decode cX8_fitsGrown 88 = .ok (.iconst 1, 1) := dk_4 (ck1_s (r := 24) dT_cX8_fitsGrown_1 rfl dg_cX8_fitsGrown_1507.2.2.2.1)
theorem dX8_fitsGrown_89 : decode cX8_fitsGrown 89 = .ok (.goto 4, 3) := dk_167 (ck3s_s (r := 25) dT_cX8_fitsGrown_1 rfl dg_cX8_fitsGrown_1507.2.2.2.2.1)
theorem dX8_fitsGrown_92 : decode cX8_fitsGrown 92 = .ok (.iconst 0, 1) := dk_3 (ck1_s (r := 28) dT_cX8_fitsGrown_1 rfl dg_cX8_fitsGrown_1507.2.2.2.2.2.1)
theorem dX8_fitsGrown_93 : decode cX8_fitsGrown 93 = .ok (.ireturn, 1) := dk_172 (ck1_s (r := 29) dT_cX8_fitsGrown_1 rfl dg_cX8_fitsGrown_1507.2.2.2.2.2.2)
theorem dg_cX8_fittingBehind_1508 : ck1 cX8_fittingBehind 0 27 = true ∧ ck3s cX8_fittingBehind 1 155 9 = true ∧ ck1 cX8_fittingBehind 4 27 = true ∧ ck2s cX8_fittingBehind 5 16 20 = true ∧ ck3s cX8_fittingBehind 7 164 5 = true ∧ ck1 cX8_fittingBehind 10 3 = true ∧ ck1 cX8_fittingBehind 11 172 = true ∧ ck1 cX8_fittingBehind 12 42 = true := by decide +kernel
theorem dX8_fittingBehind_0 : decode cX8_fittingBehind 0 = .ok (.iload_n 1, 1) := dk_27 dg_cX8_fittingBehind_1508.1
theorem dX8_fittingBehind_1 : decode cX8_fittingBehind 1 = .ok (.ifCond .lt 9, 3) := dk_155 dg_cX8_fittingBehind_1508.2.1
theorem dX8_fittingBehind_4 : decode cX8_fittingBehind 4 = .ok (.iload_n 1, 1) := dk_27 dg_cX8_fittingBehind_1508.2.2.1
theorem dX8_fittingBehind_5 : decode cX8_fittingBehind 5 = .ok (.bipush 20, 2) := dk_16 dg_cX8_fittingBehind_1508.2.2.2.1
theorem dX8_fittingBehind_7 : decode cX8_fittingBehind 7 = .ok (.if_icmp .le 5, 3) := dk_164 dg_cX8_fittingBehind_1508.2.2.2.2.1
theorem dX8_fittingBehind_10 : decode cX8_fittingBehind 10 = .ok (.iconst 0, 1) := dk_3 dg_cX8_fittingBehind_1508.2.2.2.2.2.1
theorem dX8_fittingBehind_11 : decode cX8_fittingBehind 11 = .ok (.ireturn, 1) := dk_172 dg_cX8_fittingBehind_1508.2.2.2.2.2.2.1
theorem dX8_fittingBehind_12 : decode cX8_fittingBehind 12 = .ok (.aload_n 0, 1) := dk_42 dg_cX8_fittingBehind_1508.2.2.2.2.2.2.2
theorem dg_cX8_fittingBehind_1509 : ck3 cX8_fittingBehind 13 180 25 = true ∧ ck1 cX8_fittingBehind 16 27 = true ∧ ck1 cX8_fittingBehind 17 46 = true ∧ ck1 cX8_fittingBehind 18 2 = true ∧ ck3s cX8_fittingBehind 19 160 41 = true ∧ ck1 cX8_fittingBehind 22 3 = true ∧ ck1 cX8_fittingBehind 23 61 = true ∧ ck1 cX8_fittingBehind 24 3 = true := by decide +kernel
theorem dX8_fittingBehind_13 : decode cX8_fittingBehind 13 = .ok (.getfield 25, 3) := dk_180 dg_cX8_fittingBehind_1509.1
theorem dX8_fittingBehind_16 : decode cX8_fittingBehind 16 = .ok (.iload_n 1, 1) := dk_27 dg_cX8_fittingBehind_1509.2.1
theorem dX8_fittingBehind_17 : decode cX8_fittingBehind 17 = .ok (.iaload, 1) := dk_46 dg_cX8_fittingBehind_1509.2.2.1
theorem dX8_fittingBehind_18 : decode cX8_fittingBehind 18 = .ok (.iconst (-1), 1) := dk_2 dg_cX8_fittingBehind_1509.2.2.2.1
theorem dX8_fittingBehind_19 : decode cX8_fittingBehind 19 = .ok (.if_icmp .ne 41, 3) := dk_160 dg_cX8_fittingBehind_1509.2.2.2.2.1
theorem dX8_fittingBehind_22 : decode cX8_fittingBehind 22 = .ok (.iconst 0, 1) := dk_3 dg_cX8_fittingBehind_1509.2.2.2.2.2.1
theorem dX8_fittingBehind_23 : decode cX8_fittingBehind 23 = .ok (.istore_n 2, 1) := dk_61 dg_cX8_fittingBehind_1509.2.2.2.2.2.2.1
theorem dX8_fittingBehind_24 : decode cX8_fittingBehind 24 = .ok (.iconst 0, 1) := dk_3 dg_cX8_fittingBehind_1509.2.2.2.2.2.2.2
theorem dg_cX8_fittingBehind_1510 : ck1 cX8_fittingBehind 25 62 = true ∧ ck1 cX8_fittingBehind 26 29 = true ∧ ck2s cX8_fittingBehind 27 16 30 = true ∧ ck3s cX8_fittingBehind 29 163 24 = true ∧ ck1 cX8_fittingBehind 32 42 = true ∧ ck1 cX8_fittingBehind 33 29 = true ∧ ck1 cX8_fittingBehind 34 27 = true ∧ ck3 cX8_fittingBehind 35 182 55 = true := by decide +kernel
theorem dX8_fittingBehind_25 : decode cX8_fittingBehind 25 = .ok (.istore_n 3, 1) := dk_62 dg_cX8_fittingBehind_1510.1
theorem dX8_fittingBehind_26 : decode cX8_fittingBehind 26 = .ok (.iload_n 3, 1) := dk_29 dg_cX8_fittingBehind_1510.2.1
theorem dX8_fittingBehind_27 : decode cX8_fittingBehind 27 = .ok (.bipush 30, 2) := dk_16 dg_cX8_fittingBehind_1510.2.2.1
theorem dX8_fittingBehind_29 : decode cX8_fittingBehind 29 = .ok (.if_icmp .gt 24, 3) := dk_163 dg_cX8_fittingBehind_1510.2.2.2.1
theorem dX8_fittingBehind_32 : decode cX8_fittingBehind 32 = .ok (.aload_n 0, 1) := dk_42 dg_cX8_fittingBehind_1510.2.2.2.2.1
theorem dX8_fittingBehind_33 : decode cX8_fittingBehind 33 = .ok (.iload_n 3, 1) := dk_29 dg_cX8_fittingBehind_1510.2.2.2.2.2.1
theorem dX8_fittingBehind_34 : decode cX8_fittingBehind 34 = .ok (.iload_n 1, 1) := dk_27 dg_cX8_fittingBehind_1510.2.2.2.2.2.2.1
theorem dX8_fittingBehind_35 : decode cX8_fittingBehind 35 = .ok (.invokevirtual 55, 3) := dk_182 dg_cX8_fittingBehind_1510.2.2.2.2.2.2.2
theorem dg_cX8_fittingBehind_1511 : ck3s cX8_fittingBehind 38 153 9 = true ∧ ck1 cX8_fittingBehind 41 28 = true ∧ ck1 cX8_fittingBehind 42 4 = true ∧ ck1 cX8_fittingBehind 43 29 = true ∧ ck1 cX8_fittingBehind 44 120 = true ∧ ck1 cX8_fittingBehind 45 128 = true ∧ ck1 cX8_fittingBehind 46 61 = true ∧ ck3i cX8_fittingBehind 47 132 3 1 = true := by decide +kernel
theorem dX8_fittingBehind_38 : decode cX8_fittingBehind 38 = .ok (.ifCond .eq 9, 3) := dk_153 dg_cX8_fittingBehind_1511.1
theorem dX8_fittingBehind_41 : decode cX8_fittingBehind 41 = .ok (.iload_n 2, 1) := dk_28 dg_cX8_fittingBehind_1511.2.1
theorem dX8_fittingBehind_42 : decode cX8_fittingBehind 42 = .ok (.iconst 1, 1) := dk_4 dg_cX8_fittingBehind_1511.2.2.1
theorem dX8_fittingBehind_43 : decode cX8_fittingBehind 43 = .ok (.iload_n 3, 1) := dk_29 dg_cX8_fittingBehind_1511.2.2.2.1
theorem dX8_fittingBehind_44 : decode cX8_fittingBehind 44 = .ok (.ishl, 1) := dk_120 dg_cX8_fittingBehind_1511.2.2.2.2.1
theorem dX8_fittingBehind_45 : decode cX8_fittingBehind 45 = .ok (.ior, 1) := dk_128 dg_cX8_fittingBehind_1511.2.2.2.2.2.1
theorem dX8_fittingBehind_46 : decode cX8_fittingBehind 46 = .ok (.istore_n 2, 1) := dk_61 dg_cX8_fittingBehind_1511.2.2.2.2.2.2.1
theorem dX8_fittingBehind_47 : decode cX8_fittingBehind 47 = .ok (.iinc 3 1, 3) := dk_132 dg_cX8_fittingBehind_1511.2.2.2.2.2.2.2
theorem dg_cX8_fittingBehind_1512 : ck3s cX8_fittingBehind 50 167 (-24) = true ∧ ck1 cX8_fittingBehind 53 42 = true ∧ ck3 cX8_fittingBehind 54 180 25 = true ∧ ck1 cX8_fittingBehind 57 27 = true ∧ ck1 cX8_fittingBehind 58 28 = true ∧ ck1 cX8_fittingBehind 59 79 = true ∧ ck1 cX8_fittingBehind 60 42 = true ∧ ck3 cX8_fittingBehind 61 180 25 = true := by decide +kernel
theorem dX8_fittingBehind_50 : decode cX8_fittingBehind 50 = .ok (.goto (-24), 3) := dk_167 dg_cX8_fittingBehind_1512.1
theorem dX8_fittingBehind_53 : decode cX8_fittingBehind 53 = .ok (.aload_n 0, 1) := dk_42 dg_cX8_fittingBehind_1512.2.1
theorem dX8_fittingBehind_54 : decode cX8_fittingBehind 54 = .ok (.getfield 25, 3) := dk_180 dg_cX8_fittingBehind_1512.2.2.1
theorem dX8_fittingBehind_57 : decode cX8_fittingBehind 57 = .ok (.iload_n 1, 1) := dk_27 dg_cX8_fittingBehind_1512.2.2.2.1
theorem dX8_fittingBehind_58 : decode cX8_fittingBehind 58 = .ok (.iload_n 2, 1) := dk_28 dg_cX8_fittingBehind_1512.2.2.2.2.1
theorem dX8_fittingBehind_59 : decode cX8_fittingBehind 59 = .ok (.iastore, 1) := dk_79 dg_cX8_fittingBehind_1512.2.2.2.2.2.1
theorem dX8_fittingBehind_60 : decode cX8_fittingBehind 60 = .ok (.aload_n 0, 1) := dk_42 dg_cX8_fittingBehind_1512.2.2.2.2.2.2.1
theorem dX8_fittingBehind_61 : decode cX8_fittingBehind 61 = .ok (.getfield 25, 3) := dk_180 dg_cX8_fittingBehind_1512.2.2.2.2.2.2.2
def dS_cX8_fittingBehind_1 : List UInt8 := 27 :: 46 :: 172 :: []
def dS_cX8_fittingBehind_0 : List UInt8 := 27 :: 155 :: 0 :: 9 :: 27 :: 16 :: 20 :: 164 :: 0 :: 5 :: 3 :: 172 :: 42 :: 180 :: 0 :: 25 :: 27 :: 46 :: 2 :: 160 :: 0 :: 41 :: 3 :: 61 :: 3 :: 62 :: 29 :: 16 :: 30 :: 163 :: 0 :: 24 :: 42 :: 29 :: 27 :: 182 :: 0 :: 55 :: 153 :: 0 :: 9 :: 28 :: 4 :: 29 :: 120 :: 128 :: 61 :: 132 :: 3 :: 1 :: 167 :: 255 :: 232 :: 42 :: 180 :: 0 :: 25 :: 27 :: 28 :: 79 :: 42 :: 180 :: 0 :: 25 :: dS_cX8_fittingBehind_1
theorem dT_cX8_fittingBehind_0 : cX8_fittingBehind.data.toList.drop 0 = dS_cX8_fittingBehind_0 := by decide +kernel
theorem dT_cX8_fittingBehind_1 : cX8_fittingBehind.data.toList.drop 64 = dS_cX8_fittingBehind_1 := ck_nx dT_cX8_fittingBehind_0 (by decide +kernel) rfl
theorem dg_cX8_fittingBehind_1513 : ck1L dS_cX8_fittingBehind_1 0 27 = true ∧ ck1L dS_cX8_fittingBehind_1 1 46 = true ∧ ck1L dS_cX8_fittingBehind_1 2 172 = true := by decide +kernel
theorem dX8_fittingBehind_64 : decode cX8_fittingBehind 64 = .ok (.iload_n 1, 1) := dk_27 (ck1_s (r := 0) dT_cX8_fittingBehind_1 rfl dg_cX8_fittingBehind_1513.1)
theorem dX8_fittingBehind_65 : decode cX8_fittingBehind 65 = .ok (.iaload, 1) := dk_46 (ck1_s (r := 1) dT_cX8_fittingBehind_1 rfl dg_cX8_fittingBehind_1513.2.1)
theorem dX8_fittingBehind_66 : decode cX8_fittingBehind 66 = .ok (.ireturn, 1) := dk_172 (ck1_s (r := 2) dT_cX8_fittingBehind_1 rfl dg_cX8_fittingBehind_1513.2.2)
theorem dg_cX8_growthsAt_1514 : ck1 cX8_growthsAt 0 42 = true ∧ ck3 cX8_growthsAt 1 180 28 = true ∧ ck3 cX8_growthsAt 4 180 42 = true ∧ ck3s cX8_growthsAt 7 153 13 = true ∧ ck1 cX8_growthsAt 10 42 = true ∧ ck3 cX8_growthsAt 11 180 28 = true ∧ ck3 cX8_growthsAt 14 180 47 = true ∧ ck3s cX8_growthsAt 17 154 5 = true := by decide +kernel
theorem dX8_growthsAt_0 : decode cX8_growthsAt 0 = .ok (.aload_n 0, 1) := dk_42 dg_cX8_growthsAt_1514.1
theorem dX8_growthsAt_1 : decode cX8_growthsAt 1 = .ok (.getfield 28, 3) := dk_180 dg_cX8_growthsAt_1514.2.1
theorem dX8_growthsAt_4 : decode cX8_growthsAt 4 = .ok (.getfield 42, 3) := dk_180 dg_cX8_growthsAt_1514.2.2.1
theorem dX8_growthsAt_7 : decode cX8_growthsAt 7 = .ok (.ifCond .eq 13, 3) := dk_153 dg_cX8_growthsAt_1514.2.2.2.1
theorem dX8_growthsAt_10 : decode cX8_growthsAt 10 = .ok (.aload_n 0, 1) := dk_42 dg_cX8_growthsAt_1514.2.2.2.2.1
theorem dX8_growthsAt_11 : decode cX8_growthsAt 11 = .ok (.getfield 28, 3) := dk_180 dg_cX8_growthsAt_1514.2.2.2.2.2.1
theorem dX8_growthsAt_14 : decode cX8_growthsAt 14 = .ok (.getfield 47, 3) := dk_180 dg_cX8_growthsAt_1514.2.2.2.2.2.2.1
theorem dX8_growthsAt_17 : decode cX8_growthsAt 17 = .ok (.ifCond .ne 5, 3) := dk_154 dg_cX8_growthsAt_1514.2.2.2.2.2.2.2
theorem dg_cX8_growthsAt_1515 : ck1 cX8_growthsAt 20 3 = true ∧ ck1 cX8_growthsAt 21 172 = true ∧ ck2 cX8_growthsAt 22 18 50 = true ∧ ck1 cX8_growthsAt 24 61 = true ∧ ck1 cX8_growthsAt 25 3 = true ∧ ck1 cX8_growthsAt 26 62 = true ∧ ck1 cX8_growthsAt 27 29 = true ∧ ck1 cX8_growthsAt 28 42 = true := by decide +kernel
theorem dX8_growthsAt_20 : decode cX8_growthsAt 20 = .ok (.iconst 0, 1) := dk_3 dg_cX8_growthsAt_1515.1
theorem dX8_growthsAt_21 : decode cX8_growthsAt 21 = .ok (.ireturn, 1) := dk_172 dg_cX8_growthsAt_1515.2.1
theorem dX8_growthsAt_22 : decode cX8_growthsAt 22 = .ok (.ldc 50, 2) := dk_18 dg_cX8_growthsAt_1515.2.2.1
theorem dX8_growthsAt_24 : decode cX8_growthsAt 24 = .ok (.istore_n 2, 1) := dk_61 dg_cX8_growthsAt_1515.2.2.2.1
theorem dX8_growthsAt_25 : decode cX8_growthsAt 25 = .ok (.iconst 0, 1) := dk_3 dg_cX8_growthsAt_1515.2.2.2.2.1
theorem dX8_growthsAt_26 : decode cX8_growthsAt 26 = .ok (.istore_n 3, 1) := dk_62 dg_cX8_growthsAt_1515.2.2.2.2.2.1
theorem dX8_growthsAt_27 : decode cX8_growthsAt 27 = .ok (.iload_n 3, 1) := dk_29 dg_cX8_growthsAt_1515.2.2.2.2.2.2.1
theorem dX8_growthsAt_28 : decode cX8_growthsAt 28 = .ok (.aload_n 0, 1) := dk_42 dg_cX8_growthsAt_1515.2.2.2.2.2.2.2
theorem dg_cX8_growthsAt_1516 : ck3 cX8_growthsAt 29 180 38 = true ∧ ck3s cX8_growthsAt 32 162 90 = true ∧ ck1 cX8_growthsAt 35 29 = true ∧ ck2s cX8_growthsAt 36 16 30 = true ∧ ck3s cX8_growthsAt 38 162 84 = true ∧ ck1 cX8_growthsAt 41 42 = true ∧ ck3 cX8_growthsAt 42 180 22 = true ∧ ck1 cX8_growthsAt 45 29 = true := by decide +kernel
theorem dX8_growthsAt_29 : decode cX8_growthsAt 29 = .ok (.getfield 38, 3) := dk_180 dg_cX8_growthsAt_1516.1
theorem dX8_growthsAt_32 : decode cX8_growthsAt 32 = .ok (.if_icmp .ge 90, 3) := dk_162 dg_cX8_growthsAt_1516.2.1
theorem dX8_growthsAt_35 : decode cX8_growthsAt 35 = .ok (.iload_n 3, 1) := dk_29 dg_cX8_growthsAt_1516.2.2.1
theorem dX8_growthsAt_36 : decode cX8_growthsAt 36 = .ok (.bipush 30, 2) := dk_16 dg_cX8_growthsAt_1516.2.2.2.1
theorem dX8_growthsAt_38 : decode cX8_growthsAt 38 = .ok (.if_icmp .ge 84, 3) := dk_162 dg_cX8_growthsAt_1516.2.2.2.2.1
theorem dX8_growthsAt_41 : decode cX8_growthsAt 41 = .ok (.aload_n 0, 1) := dk_42 dg_cX8_growthsAt_1516.2.2.2.2.2.1
theorem dX8_growthsAt_42 : decode cX8_growthsAt 42 = .ok (.getfield 22, 3) := dk_180 dg_cX8_growthsAt_1516.2.2.2.2.2.2.1
theorem dX8_growthsAt_45 : decode cX8_growthsAt 45 = .ok (.iload_n 3, 1) := dk_29 dg_cX8_growthsAt_1516.2.2.2.2.2.2.2
theorem dg_cX8_growthsAt_1517 : ck1 cX8_growthsAt 46 46 = true ∧ ck1 cX8_growthsAt 47 2 = true ∧ ck3s cX8_growthsAt 48 159 17 = true ∧ ck1 cX8_growthsAt 51 42 = true ∧ ck3 cX8_growthsAt 52 180 22 = true ∧ ck1 cX8_growthsAt 55 29 = true ∧ ck1 cX8_growthsAt 56 46 = true ∧ ck1 cX8_growthsAt 57 27 = true := by decide +kernel
theorem dX8_growthsAt_46 : decode cX8_growthsAt 46 = .ok (.iaload, 1) := dk_46 dg_cX8_growthsAt_1517.1
theorem dX8_growthsAt_47 : decode cX8_growthsAt 47 = .ok (.iconst (-1), 1) := dk_2 dg_cX8_growthsAt_1517.2.1
theorem dX8_growthsAt_48 : decode cX8_growthsAt 48 = .ok (.if_icmp .eq 17, 3) := dk_159 dg_cX8_growthsAt_1517.2.2.1
theorem dX8_growthsAt_51 : decode cX8_growthsAt 51 = .ok (.aload_n 0, 1) := dk_42 dg_cX8_growthsAt_1517.2.2.2.1
theorem dX8_growthsAt_52 : decode cX8_growthsAt 52 = .ok (.getfield 22, 3) := dk_180 dg_cX8_growthsAt_1517.2.2.2.2.1
theorem dX8_growthsAt_55 : decode cX8_growthsAt 55 = .ok (.iload_n 3, 1) := dk_29 dg_cX8_growthsAt_1517.2.2.2.2.2.1
theorem dX8_growthsAt_56 : decode cX8_growthsAt 56 = .ok (.iaload, 1) := dk_46 dg_cX8_growthsAt_1517.2.2.2.2.2.2.1
theorem dX8_growthsAt_57 : decode cX8_growthsAt 57 = .ok (.iload_n 1, 1) := dk_27 dg_cX8_growthsAt_1517.2.2.2.2.2.2.2
theorem dg_cX8_growthsAt_1518 : ck3s cX8_growthsAt 58 163 7 = true ∧ ck1 cX8_growthsAt 61 4 = true ∧ ck3s cX8_growthsAt 62 167 4 = true := by decide +kernel
theorem dX8_growthsAt_58 : decode cX8_growthsAt 58 = .ok (.if_icmp .gt 7, 3) := dk_163 dg_cX8_growthsAt_1518.1
theorem dX8_growthsAt_61 : decode cX8_growthsAt 61 = .ok (.iconst 1, 1) := dk_4 dg_cX8_growthsAt_1518.2.1
theorem dX8_growthsAt_62 : decode cX8_growthsAt 62 = .ok (.goto 4, 3) := dk_167 dg_cX8_growthsAt_1518.2.2
def dS_cX8_growthsAt_1 : List UInt8 := 4 :: 3 :: 54 :: 4 :: 42 :: 180 :: 0 :: 19 :: 29 :: 46 :: 27 :: 163 :: 0 :: 41 :: 21 :: 4 :: 154 :: 0 :: 36 :: 42 :: 42 :: 180 :: 0 :: 11 :: 29 :: 46 :: 182 :: 0 :: 51 :: 54 :: 5 :: 28 :: 42 :: 180 :: 0 :: 15 :: 29 :: 51 :: 153 :: 0 :: 8 :: 21 :: 5 :: 167 :: 0 :: 7 :: 21 :: 5 :: 2 :: 130 :: 126 :: 61 :: 132 :: 3 :: 1 :: 167 :: 255 :: 164 :: 28 :: 172 :: []
def dS_cX8_growthsAt_0 : List UInt8 := 42 :: 180 :: 0 :: 28 :: 180 :: 0 :: 42 :: 153 :: 0 :: 13 :: 42 :: 180 :: 0 :: 28 :: 180 :: 0 :: 47 :: 154 :: 0 :: 5 :: 3 :: 172 :: 18 :: 50 :: 61 :: 3 :: 62 :: 29 :: 42 :: 180 :: 0 :: 38 :: 162 :: 0 :: 90 :: 29 :: 16 :: 30 :: 162 :: 0 :: 84 :: 42 :: 180 :: 0 :: 22 :: 29 :: 46 :: 2 :: 159 :: 0 :: 17 :: 42 :: 180 :: 0 :: 22 :: 29 :: 46 :: 27 :: 163 :: 0 :: 7 :: 4 :: 167 :: 0 :: dS_cX8_growthsAt_1
theorem dT_cX8_growthsAt_0 : cX8_growthsAt.data.toList.drop 0 = dS_cX8_growthsAt_0 := by decide +kernel
theorem dT_cX8_growthsAt_1 : cX8_growthsAt.data.toList.drop 64 = dS_cX8_growthsAt_1 := ck_nx dT_cX8_growthsAt_0 (by decide +kernel) rfl
theorem dg_cX8_growthsAt_1519 : ck1L dS_cX8_growthsAt_1 1 3 = true ∧ ck2L dS_cX8_growthsAt_1 2 54 4 = true ∧ ck1L dS_cX8_growthsAt_1 4 42 = true ∧ ck3L dS_cX8_growthsAt_1 5 180 19 = true ∧ ck1L dS_cX8_growthsAt_1 8 29 = true ∧ ck1L dS_cX8_growthsAt_1 9 46 = true ∧ ck1L dS_cX8_growthsAt_1 10 27 = true ∧ ck3sL dS_cX8_growthsAt_1 11 163 41 = true := by decide +kernel
theorem dX8_growthsAt_65 : decode cX8_growthsAt 65 = .ok (.iconst 0, 1) := dk_3 (ck1_s (r := 1) dT_cX8_growthsAt_1 rfl dg_cX8_growthsAt_1519.1)
theorem dX8_growthsAt_66 : decode cX8_growthsAt 66 = .ok (.istore 4, 2) := dk_54 (ck2_s (r := 2) dT_cX8_growthsAt_1 rfl dg_cX8_growthsAt_1519.2.1)
theorem dX8_growthsAt_68 : decode cX8_growthsAt 68 = .ok (.aload_n 0, 1) := dk_42 (ck1_s (r := 4) dT_cX8_growthsAt_1 rfl dg_cX8_growthsAt_1519.2.2.1)
theorem dX8_growthsAt_69 : decode cX8_growthsAt 69 = .ok (.getfield 19, 3) := dk_180 (ck3_s (r := 5) dT_cX8_growthsAt_1 rfl dg_cX8_growthsAt_1519.2.2.2.1)
theorem dX8_growthsAt_72 : decode cX8_growthsAt 72 = .ok (.iload_n 3, 1) := dk_29 (ck1_s (r := 8) dT_cX8_growthsAt_1 rfl dg_cX8_growthsAt_1519.2.2.2.2.1)
theorem dX8_growthsAt_73 : decode cX8_growthsAt 73 = .ok (.iaload, 1) := dk_46 (ck1_s (r := 9) dT_cX8_growthsAt_1 rfl dg_cX8_growthsAt_1519.2.2.2.2.2.1)
theorem dX8_growthsAt_74 : decode cX8_growthsAt 74 = .ok (.iload_n 1, 1) := dk_27 (ck1_s (r := 10) dT_cX8_growthsAt_1 rfl dg_cX8_growthsAt_1519.2.2.2.2.2.2.1)
theorem dX8_growthsAt_75 : decode cX8_growthsAt 75 = .ok (.if_icmp .gt 41, 3) := dk_163 (ck3s_s (r := 11) dT_cX8_growthsAt_1 rfl dg_cX8_growthsAt_1519.2.2.2.2.2.2.2)
theorem dg_cX8_growthsAt_1520 : ck2L dS_cX8_growthsAt_1 14 21 4 = true ∧ ck3sL dS_cX8_growthsAt_1 16 154 36 = true ∧ ck1L dS_cX8_growthsAt_1 19 42 = true ∧ ck1L dS_cX8_growthsAt_1 20 42 = true ∧ ck3L dS_cX8_growthsAt_1 21 180 11 = true ∧ ck1L dS_cX8_growthsAt_1 24 29 = true ∧ ck1L dS_cX8_growthsAt_1 25 46 = true ∧ ck3L dS_cX8_growthsAt_1 26 182 51 = true := by decide +kernel
theorem dX8_growthsAt_78 : decode cX8_growthsAt 78 = .ok (.iload 4, 2) := dk_21 (ck2_s (r := 14) dT_cX8_growthsAt_1 rfl dg_cX8_growthsAt_1520.1)
theorem dX8_growthsAt_80 : decode cX8_growthsAt 80 = .ok (.ifCond .ne 36, 3) := dk_154 (ck3s_s (r := 16) dT_cX8_growthsAt_1 rfl dg_cX8_growthsAt_1520.2.1)
theorem dX8_growthsAt_83 : decode cX8_growthsAt 83 = .ok (.aload_n 0, 1) := dk_42 (ck1_s (r := 19) dT_cX8_growthsAt_1 rfl dg_cX8_growthsAt_1520.2.2.1)
theorem dX8_growthsAt_84 : decode cX8_growthsAt 84 = .ok (.aload_n 0, 1) := dk_42 (ck1_s (r := 20) dT_cX8_growthsAt_1 rfl dg_cX8_growthsAt_1520.2.2.2.1)
theorem dX8_growthsAt_85 : decode cX8_growthsAt 85 = .ok (.getfield 11, 3) := dk_180 (ck3_s (r := 21) dT_cX8_growthsAt_1 rfl dg_cX8_growthsAt_1520.2.2.2.2.1)
theorem dX8_growthsAt_88 : decode cX8_growthsAt 88 = .ok (.iload_n 3, 1) := dk_29 (ck1_s (r := 24) dT_cX8_growthsAt_1 rfl dg_cX8_growthsAt_1520.2.2.2.2.2.1)
theorem dX8_growthsAt_89 : decode cX8_growthsAt 89 = .ok (.iaload, 1) := dk_46 (ck1_s (r := 25) dT_cX8_growthsAt_1 rfl dg_cX8_growthsAt_1520.2.2.2.2.2.2.1)
theorem dX8_growthsAt_90 : decode cX8_growthsAt 90 = .ok (.invokevirtual 51, 3) := dk_182 (ck3_s (r := 26) dT_cX8_growthsAt_1 rfl dg_cX8_growthsAt_1520.2.2.2.2.2.2.2)
theorem dg_cX8_growthsAt_1521 : ck2L dS_cX8_growthsAt_1 29 54 5 = true ∧ ck1L dS_cX8_growthsAt_1 31 28 = true ∧ ck1L dS_cX8_growthsAt_1 32 42 = true ∧ ck3L dS_cX8_growthsAt_1 33 180 15 = true ∧ ck1L dS_cX8_growthsAt_1 36 29 = true ∧ ck1L dS_cX8_growthsAt_1 37 51 = true ∧ ck3sL dS_cX8_growthsAt_1 38 153 8 = true ∧ ck2L dS_cX8_growthsAt_1 41 21 5 = true := by decide +kernel
theorem dX8_growthsAt_93 : decode cX8_growthsAt 93 = .ok (.istore 5, 2) := dk_54 (ck2_s (r := 29) dT_cX8_growthsAt_1 rfl dg_cX8_growthsAt_1521.1)
theorem dX8_growthsAt_95 : decode cX8_growthsAt 95 = .ok (.iload_n 2, 1) := dk_28 (ck1_s (r := 31) dT_cX8_growthsAt_1 rfl dg_cX8_growthsAt_1521.2.1)
theorem dX8_growthsAt_96 : decode cX8_growthsAt 96 = .ok (.aload_n 0, 1) := dk_42 (ck1_s (r := 32) dT_cX8_growthsAt_1 rfl dg_cX8_growthsAt_1521.2.2.1)
theorem dX8_growthsAt_97 : decode cX8_growthsAt 97 = .ok (.getfield 15, 3) := dk_180 (ck3_s (r := 33) dT_cX8_growthsAt_1 rfl dg_cX8_growthsAt_1521.2.2.2.1)
theorem dX8_growthsAt_100 : decode cX8_growthsAt 100 = .ok (.iload_n 3, 1) := dk_29 (ck1_s (r := 36) dT_cX8_growthsAt_1 rfl dg_cX8_growthsAt_1521.2.2.2.2.1)
theorem dX8_growthsAt_101 : decode cX8_growthsAt 101 = .ok (.baload, 1) := dk_51 (ck1_s (r := 37) dT_cX8_growthsAt_1 rfl dg_cX8_growthsAt_1521.2.2.2.2.2.1)
theorem dX8_growthsAt_102 : decode cX8_growthsAt 102 = .ok (.ifCond .eq 8, 3) := dk_153 (ck3s_s (r := 38) dT_cX8_growthsAt_1 rfl dg_cX8_growthsAt_1521.2.2.2.2.2.2.1)
theorem dX8_growthsAt_105 : decode cX8_growthsAt 105 = .ok (.iload 5, 2) := dk_21 (ck2_s (r := 41) dT_cX8_growthsAt_1 rfl dg_cX8_growthsAt_1521.2.2.2.2.2.2.2)
theorem dg_cX8_growthsAt_1522 : ck3sL dS_cX8_growthsAt_1 43 167 7 = true ∧ ck2L dS_cX8_growthsAt_1 46 21 5 = true ∧ ck1L dS_cX8_growthsAt_1 48 2 = true ∧ ck1L dS_cX8_growthsAt_1 49 130 = true ∧ ck1L dS_cX8_growthsAt_1 50 126 = true ∧ ck1L dS_cX8_growthsAt_1 51 61 = true ∧ ck3iL dS_cX8_growthsAt_1 52 132 3 1 = true ∧ ck3sL dS_cX8_growthsAt_1 55 167 (-92) = true := by decide +kernel
theorem dX8_growthsAt_107 : decode cX8_growthsAt 107 = .ok (.goto 7, 3) := dk_167 (ck3s_s (r := 43) dT_cX8_growthsAt_1 rfl dg_cX8_growthsAt_1522.1)
theorem dX8_growthsAt_110 : decode cX8_growthsAt 110 = .ok (.iload 5, 2) := dk_21 (ck2_s (r := 46) dT_cX8_growthsAt_1 rfl dg_cX8_growthsAt_1522.2.1)
theorem dX8_growthsAt_112 : decode cX8_growthsAt 112 = .ok (.iconst (-1), 1) := dk_2 (ck1_s (r := 48) dT_cX8_growthsAt_1 rfl dg_cX8_growthsAt_1522.2.2.1)
theorem dX8_growthsAt_113 : decode cX8_growthsAt 113 = .ok (.ixor, 1) := dk_130 (ck1_s (r := 49) dT_cX8_growthsAt_1 rfl dg_cX8_growthsAt_1522.2.2.2.1)
theorem dX8_growthsAt_114 : decode cX8_growthsAt 114 = .ok (.iand, 1) := dk_126 (ck1_s (r := 50) dT_cX8_growthsAt_1 rfl dg_cX8_growthsAt_1522.2.2.2.2.1)
theorem dX8_growthsAt_115 : decode cX8_growthsAt 115 = .ok (.istore_n 2, 1) := dk_61 (ck1_s (r := 51) dT_cX8_growthsAt_1 rfl dg_cX8_growthsAt_1522.2.2.2.2.2.1)
theorem dX8_growthsAt_116 : decode cX8_growthsAt 116 = .ok (.iinc 3 1, 3) := dk_132 (ck3i_s (r := 52) dT_cX8_growthsAt_1 rfl dg_cX8_growthsAt_1522.2.2.2.2.2.2.1)
theorem dX8_growthsAt_119 : decode cX8_growthsAt 119 = .ok (.goto (-92), 3) := dk_167 (ck3s_s (r := 55) dT_cX8_growthsAt_1 rfl dg_cX8_growthsAt_1522.2.2.2.2.2.2.2)
theorem dg_cX8_growthsAt_1523 : ck1L dS_cX8_growthsAt_1 58 28 = true ∧ ck1L dS_cX8_growthsAt_1 59 172 = true := by decide +kernel
theorem dX8_growthsAt_122 : decode cX8_growthsAt 122 = .ok (.iload_n 2, 1) := dk_28 (ck1_s (r := 58) dT_cX8_growthsAt_1 rfl dg_cX8_growthsAt_1523.1)
theorem dX8_growthsAt_123 : decode cX8_growthsAt 123 = .ok (.ireturn, 1) := dk_172 (ck1_s (r := 59) dT_cX8_growthsAt_1 rfl dg_cX8_growthsAt_1523.2)
theorem dg_cX8_init_1524 : ck1 cX8_init 0 42 = true ∧ ck3 cX8_init 1 183 3 = true ∧ ck1 cX8_init 4 42 = true ∧ ck2s cX8_init 5 16 30 = true := by decide +kernel
theorem dX8_init_0 : decode cX8_init 0 = .ok (.aload_n 0, 1) := dk_42 dg_cX8_init_1524.1
theorem dX8_init_1 : decode cX8_init 1 = .ok (.invokespecial 3, 3) := dk_183 dg_cX8_init_1524.2.1
theorem dX8_init_4 : decode cX8_init 4 = .ok (.aload_n 0, 1) := dk_42 dg_cX8_init_1524.2.2.1
theorem dX8_init_5 : decode cX8_init 5 = .ok (.bipush 30, 2) := dk_16 dg_cX8_init_1524.2.2.2
theorem dX8_init_7 : decode cX8_init 7 = .ok (.newarray .int, 2) := by decide +kernel
theorem dg_cX8_init_1525 : ck3 cX8_init 9 181 11 = true ∧ ck1 cX8_init 12 42 = true ∧ ck2s cX8_init 13 16 30 = true := by decide +kernel
theorem dX8_init_9 : decode cX8_init 9 = .ok (.putfield 11, 3) := dk_181 dg_cX8_init_1525.1
theorem dX8_init_12 : decode cX8_init 12 = .ok (.aload_n 0, 1) := dk_42 dg_cX8_init_1525.2.1
theorem dX8_init_13 : decode cX8_init 13 = .ok (.bipush 30, 2) := dk_16 dg_cX8_init_1525.2.2
theorem dX8_init_15 : decode cX8_init 15 = .ok (.newarray .boolean, 2) := by decide +kernel
theorem dg_cX8_init_1526 : ck3 cX8_init 17 181 15 = true ∧ ck1 cX8_init 20 42 = true ∧ ck2s cX8_init 21 16 30 = true := by decide +kernel
theorem dX8_init_17 : decode cX8_init 17 = .ok (.putfield 15, 3) := dk_181 dg_cX8_init_1526.1
theorem dX8_init_20 : decode cX8_init 20 = .ok (.aload_n 0, 1) := dk_42 dg_cX8_init_1526.2.1
theorem dX8_init_21 : decode cX8_init 21 = .ok (.bipush 30, 2) := dk_16 dg_cX8_init_1526.2.2
theorem dX8_init_23 : decode cX8_init 23 = .ok (.newarray .int, 2) := by decide +kernel
theorem dg_cX8_init_1527 : ck3 cX8_init 25 181 19 = true ∧ ck1 cX8_init 28 42 = true ∧ ck2s cX8_init 29 16 30 = true := by decide +kernel
theorem dX8_init_25 : decode cX8_init 25 = .ok (.putfield 19, 3) := dk_181 dg_cX8_init_1527.1
theorem dX8_init_28 : decode cX8_init 28 = .ok (.aload_n 0, 1) := dk_42 dg_cX8_init_1527.2.1
theorem dX8_init_29 : decode cX8_init 29 = .ok (.bipush 30, 2) := dk_16 dg_cX8_init_1527.2.2
theorem dX8_init_31 : decode cX8_init 31 = .ok (.newarray .int, 2) := by decide +kernel
theorem dg_cX8_init_1528 : ck3 cX8_init 33 181 22 = true ∧ ck1 cX8_init 36 42 = true ∧ ck2s cX8_init 37 16 21 = true := by decide +kernel
theorem dX8_init_33 : decode cX8_init 33 = .ok (.putfield 22, 3) := dk_181 dg_cX8_init_1528.1
theorem dX8_init_36 : decode cX8_init 36 = .ok (.aload_n 0, 1) := dk_42 dg_cX8_init_1528.2.1
theorem dX8_init_37 : decode cX8_init 37 = .ok (.bipush 21, 2) := dk_16 dg_cX8_init_1528.2.2
theorem dX8_init_39 : decode cX8_init 39 = .ok (.newarray .int, 2) := by decide +kernel
theorem dg_cX8_init_1529 : ck3 cX8_init 41 181 25 = true ∧ ck1 cX8_init 44 42 = true ∧ ck1 cX8_init 45 43 = true ∧ ck3 cX8_init 46 181 28 = true ∧ ck1 cX8_init 49 42 = true ∧ ck3 cX8_init 50 180 25 = true ∧ ck1 cX8_init 53 2 = true ∧ ck3 cX8_init 54 184 32 = true := by decide +kernel
theorem dX8_init_41 : decode cX8_init 41 = .ok (.putfield 25, 3) := dk_181 dg_cX8_init_1529.1
theorem dX8_init_44 : decode cX8_init 44 = .ok (.aload_n 0, 1) := dk_42 dg_cX8_init_1529.2.1
theorem dX8_init_45 : decode cX8_init 45 = .ok (.aload_n 1, 1) := dk_43 dg_cX8_init_1529.2.2.1
theorem dX8_init_46 : decode cX8_init 46 = .ok (.putfield 28, 3) := dk_181 dg_cX8_init_1529.2.2.2.1
theorem dX8_init_49 : decode cX8_init 49 = .ok (.aload_n 0, 1) := dk_42 dg_cX8_init_1529.2.2.2.2.1
theorem dX8_init_50 : decode cX8_init 50 = .ok (.getfield 25, 3) := dk_180 dg_cX8_init_1529.2.2.2.2.2.1
theorem dX8_init_53 : decode cX8_init 53 = .ok (.iconst (-1), 1) := dk_2 dg_cX8_init_1529.2.2.2.2.2.2.1
theorem dX8_init_54 : decode cX8_init 54 = .ok (.invokestatic 32, 3) := dk_184 dg_cX8_init_1529.2.2.2.2.2.2.2
theorem dg_cX8_init_1530 : ck1 cX8_init 57 177 = true := by decide +kernel
theorem dX8_init_57 : decode cX8_init 57 = .ok (.return_, 1) := dk_177 dg_cX8_init_1530
theorem dg_cX8_leftAtMost_1531 : ck1 cX8_leftAtMost 0 42 = true ∧ ck1 cX8_leftAtMost 1 28 = true ∧ ck3 cX8_leftAtMost 2 182 51 = true ∧ ck1 cX8_leftAtMost 5 62 = true ∧ ck1 cX8_leftAtMost 6 27 = true ∧ ck1 cX8_leftAtMost 7 29 = true ∧ ck1 cX8_leftAtMost 8 126 = true ∧ ck3 cX8_leftAtMost 9 184 87 = true := by decide +kernel
theorem dX8_leftAtMost_0 : decode cX8_leftAtMost 0 = .ok (.aload_n 0, 1) := dk_42 dg_cX8_leftAtMost_1531.1
theorem dX8_leftAtMost_1 : decode cX8_leftAtMost 1 = .ok (.iload_n 2, 1) := dk_28 dg_cX8_leftAtMost_1531.2.1
theorem dX8_leftAtMost_2 : decode cX8_leftAtMost 2 = .ok (.invokevirtual 51, 3) := dk_182 dg_cX8_leftAtMost_1531.2.2.1
theorem dX8_leftAtMost_5 : decode cX8_leftAtMost 5 = .ok (.istore_n 3, 1) := dk_62 dg_cX8_leftAtMost_1531.2.2.2.1
theorem dX8_leftAtMost_6 : decode cX8_leftAtMost 6 = .ok (.iload_n 1, 1) := dk_27 dg_cX8_leftAtMost_1531.2.2.2.2.1
theorem dX8_leftAtMost_7 : decode cX8_leftAtMost 7 = .ok (.iload_n 3, 1) := dk_29 dg_cX8_leftAtMost_1531.2.2.2.2.2.1
theorem dX8_leftAtMost_8 : decode cX8_leftAtMost 8 = .ok (.iand, 1) := dk_126 dg_cX8_leftAtMost_1531.2.2.2.2.2.2.1
theorem dX8_leftAtMost_9 : decode cX8_leftAtMost 9 = .ok (.invokestatic 87, 3) := dk_184 dg_cX8_leftAtMost_1531.2.2.2.2.2.2.2
theorem dg_cX8_leftAtMost_1532 : ck1 cX8_leftAtMost 12 27 = true ∧ ck1 cX8_leftAtMost 13 29 = true ∧ ck1 cX8_leftAtMost 14 2 = true ∧ ck1 cX8_leftAtMost 15 130 = true ∧ ck1 cX8_leftAtMost 16 126 = true ∧ ck3 cX8_leftAtMost 17 184 87 = true ∧ ck3 cX8_leftAtMost 20 184 92 = true ∧ ck1 cX8_leftAtMost 23 172 = true := by decide +kernel
theorem dX8_leftAtMost_12 : decode cX8_leftAtMost 12 = .ok (.iload_n 1, 1) := dk_27 dg_cX8_leftAtMost_1532.1
theorem dX8_leftAtMost_13 : decode cX8_leftAtMost 13 = .ok (.iload_n 3, 1) := dk_29 dg_cX8_leftAtMost_1532.2.1
theorem dX8_leftAtMost_14 : decode cX8_leftAtMost 14 = .ok (.iconst (-1), 1) := dk_2 dg_cX8_leftAtMost_1532.2.2.1
theorem dX8_leftAtMost_15 : decode cX8_leftAtMost 15 = .ok (.ixor, 1) := dk_130 dg_cX8_leftAtMost_1532.2.2.2.1
theorem dX8_leftAtMost_16 : decode cX8_leftAtMost 16 = .ok (.iand, 1) := dk_126 dg_cX8_leftAtMost_1532.2.2.2.2.1
theorem dX8_leftAtMost_17 : decode cX8_leftAtMost 17 = .ok (.invokestatic 87, 3) := dk_184 dg_cX8_leftAtMost_1532.2.2.2.2.2.1
theorem dX8_leftAtMost_20 : decode cX8_leftAtMost 20 = .ok (.invokestatic 92, 3) := dk_184 dg_cX8_leftAtMost_1532.2.2.2.2.2.2.1
theorem dX8_leftAtMost_23 : decode cX8_leftAtMost 23 = .ok (.ireturn, 1) := dk_172 dg_cX8_leftAtMost_1532.2.2.2.2.2.2.2
theorem dg_cX8_takeBack_1533 : ck1 cX8_takeBack 0 27 = true ∧ ck3s cX8_takeBack 1 155 27 = true ∧ ck1 cX8_takeBack 4 27 = true ∧ ck1 cX8_takeBack 5 42 = true ∧ ck3 cX8_takeBack 6 180 38 = true ∧ ck3s cX8_takeBack 9 162 19 = true ∧ ck1 cX8_takeBack 12 27 = true ∧ ck2s cX8_takeBack 13 16 30 = true := by decide +kernel
theorem dX8_takeBack_0 : decode cX8_takeBack 0 = .ok (.iload_n 1, 1) := dk_27 dg_cX8_takeBack_1533.1
theorem dX8_takeBack_1 : decode cX8_takeBack 1 = .ok (.ifCond .lt 27, 3) := dk_155 dg_cX8_takeBack_1533.2.1
theorem dX8_takeBack_4 : decode cX8_takeBack 4 = .ok (.iload_n 1, 1) := dk_27 dg_cX8_takeBack_1533.2.2.1
theorem dX8_takeBack_5 : decode cX8_takeBack 5 = .ok (.aload_n 0, 1) := dk_42 dg_cX8_takeBack_1533.2.2.2.1
theorem dX8_takeBack_6 : decode cX8_takeBack 6 = .ok (.getfield 38, 3) := dk_180 dg_cX8_takeBack_1533.2.2.2.2.1
theorem dX8_takeBack_9 : decode cX8_takeBack 9 = .ok (.if_icmp .ge 19, 3) := dk_162 dg_cX8_takeBack_1533.2.2.2.2.2.1
theorem dX8_takeBack_12 : decode cX8_takeBack 12 = .ok (.iload_n 1, 1) := dk_27 dg_cX8_takeBack_1533.2.2.2.2.2.2.1
theorem dX8_takeBack_13 : decode cX8_takeBack 13 = .ok (.bipush 30, 2) := dk_16 dg_cX8_takeBack_1533.2.2.2.2.2.2.2
theorem dg_cX8_takeBack_1534 : ck3s cX8_takeBack 15 162 13 = true ∧ ck1 cX8_takeBack 18 42 = true ∧ ck3 cX8_takeBack 19 180 22 = true ∧ ck1 cX8_takeBack 22 27 = true ∧ ck1 cX8_takeBack 23 46 = true ∧ ck1 cX8_takeBack 24 2 = true ∧ ck3s cX8_takeBack 25 159 5 = true ∧ ck1 cX8_takeBack 28 3 = true := by decide +kernel
theorem dX8_takeBack_15 : decode cX8_takeBack 15 = .ok (.if_icmp .ge 13, 3) := dk_162 dg_cX8_takeBack_1534.1
theorem dX8_takeBack_18 : decode cX8_takeBack 18 = .ok (.aload_n 0, 1) := dk_42 dg_cX8_takeBack_1534.2.1
theorem dX8_takeBack_19 : decode cX8_takeBack 19 = .ok (.getfield 22, 3) := dk_180 dg_cX8_takeBack_1534.2.2.1
theorem dX8_takeBack_22 : decode cX8_takeBack 22 = .ok (.iload_n 1, 1) := dk_27 dg_cX8_takeBack_1534.2.2.2.1
theorem dX8_takeBack_23 : decode cX8_takeBack 23 = .ok (.iaload, 1) := dk_46 dg_cX8_takeBack_1534.2.2.2.2.1
theorem dX8_takeBack_24 : decode cX8_takeBack 24 = .ok (.iconst (-1), 1) := dk_2 dg_cX8_takeBack_1534.2.2.2.2.2.1
theorem dX8_takeBack_25 : decode cX8_takeBack 25 = .ok (.if_icmp .eq 5, 3) := dk_159 dg_cX8_takeBack_1534.2.2.2.2.2.2.1
theorem dX8_takeBack_28 : decode cX8_takeBack 28 = .ok (.iconst 0, 1) := dk_3 dg_cX8_takeBack_1534.2.2.2.2.2.2.2
theorem dg_cX8_takeBack_1535 : ck1 cX8_takeBack 29 172 = true ∧ ck1 cX8_takeBack 30 42 = true ∧ ck3 cX8_takeBack 31 180 22 = true ∧ ck1 cX8_takeBack 34 27 = true ∧ ck1 cX8_takeBack 35 28 = true ∧ ck1 cX8_takeBack 36 79 = true ∧ ck1 cX8_takeBack 37 4 = true ∧ ck1 cX8_takeBack 38 172 = true := by decide +kernel
theorem dX8_takeBack_29 : decode cX8_takeBack 29 = .ok (.ireturn, 1) := dk_172 dg_cX8_takeBack_1535.1
theorem dX8_takeBack_30 : decode cX8_takeBack 30 = .ok (.aload_n 0, 1) := dk_42 dg_cX8_takeBack_1535.2.1
theorem dX8_takeBack_31 : decode cX8_takeBack 31 = .ok (.getfield 22, 3) := dk_180 dg_cX8_takeBack_1535.2.2.1
theorem dX8_takeBack_34 : decode cX8_takeBack 34 = .ok (.iload_n 1, 1) := dk_27 dg_cX8_takeBack_1535.2.2.2.1
theorem dX8_takeBack_35 : decode cX8_takeBack 35 = .ok (.iload_n 2, 1) := dk_28 dg_cX8_takeBack_1535.2.2.2.2.1
theorem dX8_takeBack_36 : decode cX8_takeBack 36 = .ok (.iastore, 1) := dk_79 dg_cX8_takeBack_1535.2.2.2.2.2.1
theorem dX8_takeBack_37 : decode cX8_takeBack 37 = .ok (.iconst 1, 1) := dk_4 dg_cX8_takeBack_1535.2.2.2.2.2.2.1
theorem dX8_takeBack_38 : decode cX8_takeBack 38 = .ok (.ireturn, 1) := dk_172 dg_cX8_takeBack_1535.2.2.2.2.2.2.2
theorem dg_cX8_tell_1536 : ck1 cX8_tell 0 27 = true ∧ ck3s cX8_tell 1 155 18 = true ∧ ck1 cX8_tell 4 27 = true ∧ ck2s cX8_tell 5 16 20 = true ∧ ck3s cX8_tell 7 163 12 = true ∧ ck1 cX8_tell 10 42 = true ∧ ck3 cX8_tell 11 180 38 = true ∧ ck2s cX8_tell 14 16 30 = true := by decide +kernel
theorem dX8_tell_0 : decode cX8_tell 0 = .ok (.iload_n 1, 1) := dk_27 dg_cX8_tell_1536.1
theorem dX8_tell_1 : decode cX8_tell 1 = .ok (.ifCond .lt 18, 3) := dk_155 dg_cX8_tell_1536.2.1
theorem dX8_tell_4 : decode cX8_tell 4 = .ok (.iload_n 1, 1) := dk_27 dg_cX8_tell_1536.2.2.1
theorem dX8_tell_5 : decode cX8_tell 5 = .ok (.bipush 20, 2) := dk_16 dg_cX8_tell_1536.2.2.2.1
theorem dX8_tell_7 : decode cX8_tell 7 = .ok (.if_icmp .gt 12, 3) := dk_163 dg_cX8_tell_1536.2.2.2.2.1
theorem dX8_tell_10 : decode cX8_tell 10 = .ok (.aload_n 0, 1) := dk_42 dg_cX8_tell_1536.2.2.2.2.2.1
theorem dX8_tell_11 : decode cX8_tell 11 = .ok (.getfield 38, 3) := dk_180 dg_cX8_tell_1536.2.2.2.2.2.2.1
theorem dX8_tell_14 : decode cX8_tell 14 = .ok (.bipush 30, 2) := dk_16 dg_cX8_tell_1536.2.2.2.2.2.2.2
theorem dg_cX8_tell_1537 : ck3s cX8_tell 16 161 5 = true ∧ ck1 cX8_tell 19 2 = true ∧ ck1 cX8_tell 20 172 = true ∧ ck1 cX8_tell 21 42 = true ∧ ck3 cX8_tell 22 180 11 = true ∧ ck1 cX8_tell 25 42 = true ∧ ck3 cX8_tell 26 180 38 = true ∧ ck1 cX8_tell 29 27 = true := by decide +kernel
theorem dX8_tell_16 : decode cX8_tell 16 = .ok (.if_icmp .lt 5, 3) := dk_161 dg_cX8_tell_1537.1
theorem dX8_tell_19 : decode cX8_tell 19 = .ok (.iconst (-1), 1) := dk_2 dg_cX8_tell_1537.2.1
theorem dX8_tell_20 : decode cX8_tell 20 = .ok (.ireturn, 1) := dk_172 dg_cX8_tell_1537.2.2.1
theorem dX8_tell_21 : decode cX8_tell 21 = .ok (.aload_n 0, 1) := dk_42 dg_cX8_tell_1537.2.2.2.1
theorem dX8_tell_22 : decode cX8_tell 22 = .ok (.getfield 11, 3) := dk_180 dg_cX8_tell_1537.2.2.2.2.1
theorem dX8_tell_25 : decode cX8_tell 25 = .ok (.aload_n 0, 1) := dk_42 dg_cX8_tell_1537.2.2.2.2.2.1
theorem dX8_tell_26 : decode cX8_tell 26 = .ok (.getfield 38, 3) := dk_180 dg_cX8_tell_1537.2.2.2.2.2.2.1
theorem dX8_tell_29 : decode cX8_tell 29 = .ok (.iload_n 1, 1) := dk_27 dg_cX8_tell_1537.2.2.2.2.2.2.2
theorem dg_cX8_tell_1538 : ck1 cX8_tell 30 79 = true ∧ ck1 cX8_tell 31 42 = true ∧ ck3 cX8_tell 32 180 15 = true ∧ ck1 cX8_tell 35 42 = true ∧ ck3 cX8_tell 36 180 38 = true ∧ ck1 cX8_tell 39 28 = true ∧ ck1 cX8_tell 40 84 = true ∧ ck1 cX8_tell 41 42 = true := by decide +kernel
theorem dX8_tell_30 : decode cX8_tell 30 = .ok (.iastore, 1) := dk_79 dg_cX8_tell_1538.1
theorem dX8_tell_31 : decode cX8_tell 31 = .ok (.aload_n 0, 1) := dk_42 dg_cX8_tell_1538.2.1
theorem dX8_tell_32 : decode cX8_tell 32 = .ok (.getfield 15, 3) := dk_180 dg_cX8_tell_1538.2.2.1
theorem dX8_tell_35 : decode cX8_tell 35 = .ok (.aload_n 0, 1) := dk_42 dg_cX8_tell_1538.2.2.2.1
theorem dX8_tell_36 : decode cX8_tell 36 = .ok (.getfield 38, 3) := dk_180 dg_cX8_tell_1538.2.2.2.2.1
theorem dX8_tell_39 : decode cX8_tell 39 = .ok (.iload_n 2, 1) := dk_28 dg_cX8_tell_1538.2.2.2.2.2.1
theorem dX8_tell_40 : decode cX8_tell 40 = .ok (.bastore, 1) := dk_84 dg_cX8_tell_1538.2.2.2.2.2.2.1
theorem dX8_tell_41 : decode cX8_tell 41 = .ok (.aload_n 0, 1) := dk_42 dg_cX8_tell_1538.2.2.2.2.2.2.2
theorem dg_cX8_tell_1539 : ck3 cX8_tell 42 180 19 = true ∧ ck1 cX8_tell 45 42 = true ∧ ck3 cX8_tell 46 180 38 = true ∧ ck1 cX8_tell 49 29 = true ∧ ck1 cX8_tell 50 79 = true ∧ ck1 cX8_tell 51 42 = true ∧ ck3 cX8_tell 52 180 22 = true ∧ ck1 cX8_tell 55 42 = true := by decide +kernel
theorem dX8_tell_42 : decode cX8_tell 42 = .ok (.getfield 19, 3) := dk_180 dg_cX8_tell_1539.1
theorem dX8_tell_45 : decode cX8_tell 45 = .ok (.aload_n 0, 1) := dk_42 dg_cX8_tell_1539.2.1
theorem dX8_tell_46 : decode cX8_tell 46 = .ok (.getfield 38, 3) := dk_180 dg_cX8_tell_1539.2.2.1
theorem dX8_tell_49 : decode cX8_tell 49 = .ok (.iload_n 3, 1) := dk_29 dg_cX8_tell_1539.2.2.2.1
theorem dX8_tell_50 : decode cX8_tell 50 = .ok (.iastore, 1) := dk_79 dg_cX8_tell_1539.2.2.2.2.1
theorem dX8_tell_51 : decode cX8_tell 51 = .ok (.aload_n 0, 1) := dk_42 dg_cX8_tell_1539.2.2.2.2.2.1
theorem dX8_tell_52 : decode cX8_tell 52 = .ok (.getfield 22, 3) := dk_180 dg_cX8_tell_1539.2.2.2.2.2.2.1
theorem dX8_tell_55 : decode cX8_tell 55 = .ok (.aload_n 0, 1) := dk_42 dg_cX8_tell_1539.2.2.2.2.2.2.2
theorem dg_cX8_tell_1540 : ck3 cX8_tell 56 180 38 = true ∧ ck1 cX8_tell 59 2 = true ∧ ck1 cX8_tell 60 79 = true ∧ ck1 cX8_tell 61 42 = true ∧ ck1 cX8_tell 62 89 = true ∧ ck3 cX8_tell 63 180 38 = true := by decide +kernel
theorem dX8_tell_56 : decode cX8_tell 56 = .ok (.getfield 38, 3) := dk_180 dg_cX8_tell_1540.1
theorem dX8_tell_59 : decode cX8_tell 59 = .ok (.iconst (-1), 1) := dk_2 dg_cX8_tell_1540.2.1
theorem dX8_tell_60 : decode cX8_tell 60 = .ok (.iastore, 1) := dk_79 dg_cX8_tell_1540.2.2.1
theorem dX8_tell_61 : decode cX8_tell 61 = .ok (.aload_n 0, 1) := dk_42 dg_cX8_tell_1540.2.2.2.1
theorem dX8_tell_62 : decode cX8_tell 62 = .ok (.dup, 1) := dk_89 dg_cX8_tell_1540.2.2.2.2.1
theorem dX8_tell_63 : decode cX8_tell 63 = .ok (.getfield 38, 3) := dk_180 dg_cX8_tell_1540.2.2.2.2.2
def dS_cX8_tell_1 : List UInt8 := 0 :: 38 :: 4 :: 96 :: 181 :: 0 :: 38 :: 42 :: 180 :: 0 :: 38 :: 4 :: 100 :: 172 :: []
def dS_cX8_tell_0 : List UInt8 := 27 :: 155 :: 0 :: 18 :: 27 :: 16 :: 20 :: 163 :: 0 :: 12 :: 42 :: 180 :: 0 :: 38 :: 16 :: 30 :: 161 :: 0 :: 5 :: 2 :: 172 :: 42 :: 180 :: 0 :: 11 :: 42 :: 180 :: 0 :: 38 :: 27 :: 79 :: 42 :: 180 :: 0 :: 15 :: 42 :: 180 :: 0 :: 38 :: 28 :: 84 :: 42 :: 180 :: 0 :: 19 :: 42 :: 180 :: 0 :: 38 :: 29 :: 79 :: 42 :: 180 :: 0 :: 22 :: 42 :: 180 :: 0 :: 38 :: 2 :: 79 :: 42 :: 89 :: 180 :: dS_cX8_tell_1
theorem dT_cX8_tell_0 : cX8_tell.data.toList.drop 0 = dS_cX8_tell_0 := by decide +kernel
theorem dT_cX8_tell_1 : cX8_tell.data.toList.drop 64 = dS_cX8_tell_1 := ck_nx dT_cX8_tell_0 (by decide +kernel) rfl
theorem dg_cX8_tell_1541 : ck1L dS_cX8_tell_1 2 4 = true ∧ ck1L dS_cX8_tell_1 3 96 = true ∧ ck3L dS_cX8_tell_1 4 181 38 = true ∧ ck1L dS_cX8_tell_1 7 42 = true ∧ ck3L dS_cX8_tell_1 8 180 38 = true ∧ ck1L dS_cX8_tell_1 11 4 = true ∧ ck1L dS_cX8_tell_1 12 100 = true ∧ ck1L dS_cX8_tell_1 13 172 = true := by decide +kernel
theorem dX8_tell_66 : decode cX8_tell 66 = .ok (.iconst 1, 1) := dk_4 (ck1_s (r := 2) dT_cX8_tell_1 rfl dg_cX8_tell_1541.1)
theorem dX8_tell_67 : decode cX8_tell 67 = .ok (.iadd, 1) := dk_96 (ck1_s (r := 3) dT_cX8_tell_1 rfl dg_cX8_tell_1541.2.1)
theorem dX8_tell_68 : decode cX8_tell 68 = .ok (.putfield 38, 3) := dk_181 (ck3_s (r := 4) dT_cX8_tell_1 rfl dg_cX8_tell_1541.2.2.1)
theorem dX8_tell_71 : decode cX8_tell 71 = .ok (.aload_n 0, 1) := dk_42 (ck1_s (r := 7) dT_cX8_tell_1 rfl dg_cX8_tell_1541.2.2.2.1)
theorem dX8_tell_72 : decode cX8_tell 72 = .ok (.getfield 38, 3) := dk_180 (ck3_s (r := 8) dT_cX8_tell_1 rfl dg_cX8_tell_1541.2.2.2.2.1)
theorem dX8_tell_75 : decode cX8_tell 75 = .ok (.iconst 1, 1) := dk_4 (ck1_s (r := 11) dT_cX8_tell_1 rfl dg_cX8_tell_1541.2.2.2.2.2.1)
theorem dX8_tell_76 : decode cX8_tell 76 = .ok (.isub, 1) := dk_100 (ck1_s (r := 12) dT_cX8_tell_1 rfl dg_cX8_tell_1541.2.2.2.2.2.2.1)
theorem dX8_tell_77 : decode cX8_tell 77 = .ok (.ireturn, 1) := dk_172 (ck1_s (r := 13) dT_cX8_tell_1 rfl dg_cX8_tell_1541.2.2.2.2.2.2.2)
theorem dg_cX9_advance_1542 : ck1 cX9_advance 0 42 = true ∧ ck1 cX9_advance 1 42 = true ∧ ck3 cX9_advance 2 180 19 = true ∧ ck3 cX9_advance 5 181 25 = true ∧ ck1 cX9_advance 8 42 = true ∧ ck3 cX9_advance 9 180 25 = true ∧ ck1 cX9_advance 12 42 = true ∧ ck3 cX9_advance 13 180 15 = true := by decide +kernel
theorem dX9_advance_0 : decode cX9_advance 0 = .ok (.aload_n 0, 1) := dk_42 dg_cX9_advance_1542.1
theorem dX9_advance_1 : decode cX9_advance 1 = .ok (.aload_n 0, 1) := dk_42 dg_cX9_advance_1542.2.1
theorem dX9_advance_2 : decode cX9_advance 2 = .ok (.getfield 19, 3) := dk_180 dg_cX9_advance_1542.2.2.1
theorem dX9_advance_5 : decode cX9_advance 5 = .ok (.putfield 25, 3) := dk_181 dg_cX9_advance_1542.2.2.2.1
theorem dX9_advance_8 : decode cX9_advance 8 = .ok (.aload_n 0, 1) := dk_42 dg_cX9_advance_1542.2.2.2.2.1
theorem dX9_advance_9 : decode cX9_advance 9 = .ok (.getfield 25, 3) := dk_180 dg_cX9_advance_1542.2.2.2.2.2.1
theorem dX9_advance_12 : decode cX9_advance 12 = .ok (.aload_n 0, 1) := dk_42 dg_cX9_advance_1542.2.2.2.2.2.2.1
theorem dX9_advance_13 : decode cX9_advance 13 = .ok (.getfield 15, 3) := dk_180 dg_cX9_advance_1542.2.2.2.2.2.2.2
theorem dg_cX9_advance_1543 : ck3s cX9_advance 16 162 44 = true ∧ ck1 cX9_advance 19 42 = true ∧ ck3 cX9_advance 20 180 9 = true ∧ ck1 cX9_advance 23 42 = true ∧ ck3 cX9_advance 24 180 25 = true ∧ ck1 cX9_advance 27 51 = true ∧ ck2s cX9_advance 28 16 32 = true ∧ ck3s cX9_advance 30 159 17 = true := by decide +kernel
theorem dX9_advance_16 : decode cX9_advance 16 = .ok (.if_icmp .ge 44, 3) := dk_162 dg_cX9_advance_1543.1
theorem dX9_advance_19 : decode cX9_advance 19 = .ok (.aload_n 0, 1) := dk_42 dg_cX9_advance_1543.2.1
theorem dX9_advance_20 : decode cX9_advance 20 = .ok (.getfield 9, 3) := dk_180 dg_cX9_advance_1543.2.2.1
theorem dX9_advance_23 : decode cX9_advance 23 = .ok (.aload_n 0, 1) := dk_42 dg_cX9_advance_1543.2.2.2.1
theorem dX9_advance_24 : decode cX9_advance 24 = .ok (.getfield 25, 3) := dk_180 dg_cX9_advance_1543.2.2.2.2.1
theorem dX9_advance_27 : decode cX9_advance 27 = .ok (.baload, 1) := dk_51 dg_cX9_advance_1543.2.2.2.2.2.1
theorem dX9_advance_28 : decode cX9_advance 28 = .ok (.bipush 32, 2) := dk_16 dg_cX9_advance_1543.2.2.2.2.2.2.1
theorem dX9_advance_30 : decode cX9_advance 30 = .ok (.if_icmp .eq 17, 3) := dk_159 dg_cX9_advance_1543.2.2.2.2.2.2.2
theorem dg_cX9_advance_1544 : ck1 cX9_advance 33 42 = true ∧ ck3 cX9_advance 34 180 9 = true ∧ ck1 cX9_advance 37 42 = true ∧ ck3 cX9_advance 38 180 25 = true ∧ ck1 cX9_advance 41 51 = true ∧ ck2s cX9_advance 42 16 10 = true ∧ ck3s cX9_advance 44 160 16 = true ∧ ck1 cX9_advance 47 42 = true := by decide +kernel
theorem dX9_advance_33 : decode cX9_advance 33 = .ok (.aload_n 0, 1) := dk_42 dg_cX9_advance_1544.1
theorem dX9_advance_34 : decode cX9_advance 34 = .ok (.getfield 9, 3) := dk_180 dg_cX9_advance_1544.2.1
theorem dX9_advance_37 : decode cX9_advance 37 = .ok (.aload_n 0, 1) := dk_42 dg_cX9_advance_1544.2.2.1
theorem dX9_advance_38 : decode cX9_advance 38 = .ok (.getfield 25, 3) := dk_180 dg_cX9_advance_1544.2.2.2.1
theorem dX9_advance_41 : decode cX9_advance 41 = .ok (.baload, 1) := dk_51 dg_cX9_advance_1544.2.2.2.2.1
theorem dX9_advance_42 : decode cX9_advance 42 = .ok (.bipush 10, 2) := dk_16 dg_cX9_advance_1544.2.2.2.2.2.1
theorem dX9_advance_44 : decode cX9_advance 44 = .ok (.if_icmp .ne 16, 3) := dk_160 dg_cX9_advance_1544.2.2.2.2.2.2.1
theorem dX9_advance_47 : decode cX9_advance 47 = .ok (.aload_n 0, 1) := dk_42 dg_cX9_advance_1544.2.2.2.2.2.2.2
theorem dg_cX9_advance_1545 : ck1 cX9_advance 48 89 = true ∧ ck3 cX9_advance 49 180 25 = true ∧ ck1 cX9_advance 52 4 = true ∧ ck1 cX9_advance 53 96 = true ∧ ck3 cX9_advance 54 181 25 = true ∧ ck3s cX9_advance 57 167 (-49) = true ∧ ck1 cX9_advance 60 42 = true ∧ ck1 cX9_advance 61 42 = true := by decide +kernel
theorem dX9_advance_48 : decode cX9_advance 48 = .ok (.dup, 1) := dk_89 dg_cX9_advance_1545.1
theorem dX9_advance_49 : decode cX9_advance 49 = .ok (.getfield 25, 3) := dk_180 dg_cX9_advance_1545.2.1
theorem dX9_advance_52 : decode cX9_advance 52 = .ok (.iconst 1, 1) := dk_4 dg_cX9_advance_1545.2.2.1
theorem dX9_advance_53 : decode cX9_advance 53 = .ok (.iadd, 1) := dk_96 dg_cX9_advance_1545.2.2.2.1
theorem dX9_advance_54 : decode cX9_advance 54 = .ok (.putfield 25, 3) := dk_181 dg_cX9_advance_1545.2.2.2.2.1
theorem dX9_advance_57 : decode cX9_advance 57 = .ok (.goto (-49), 3) := dk_167 dg_cX9_advance_1545.2.2.2.2.2.1
theorem dX9_advance_60 : decode cX9_advance 60 = .ok (.aload_n 0, 1) := dk_42 dg_cX9_advance_1545.2.2.2.2.2.2.1
theorem dX9_advance_61 : decode cX9_advance 61 = .ok (.aload_n 0, 1) := dk_42 dg_cX9_advance_1545.2.2.2.2.2.2.2
theorem dg_cX9_advance_1546 : ck3 cX9_advance 62 180 25 = true := by decide +kernel
theorem dX9_advance_62 : decode cX9_advance 62 = .ok (.getfield 25, 3) := dk_180 dg_cX9_advance_1546
def dS_cX9_advance_5 : List UInt8 := 0 :: 28 :: 177 :: []
def dS_cX9_advance_4 : List UInt8 := 182 :: 0 :: 31 :: 153 :: 0 :: 7 :: 4 :: 167 :: 0 :: 4 :: 5 :: 181 :: 0 :: 28 :: 167 :: 0 :: 52 :: 42 :: 89 :: 180 :: 0 :: 19 :: 4 :: 96 :: 181 :: 0 :: 19 :: 42 :: 18 :: 45 :: 42 :: 180 :: 0 :: 9 :: 42 :: 180 :: 0 :: 25 :: 51 :: 17 :: 0 :: 255 :: 126 :: 146 :: 182 :: 0 :: 47 :: 155 :: 0 :: 15 :: 42 :: 180 :: 0 :: 9 :: 42 :: 180 :: 0 :: 25 :: 51 :: 167 :: 0 :: 4 :: 4 :: 181 :: dS_cX9_advance_5
def dS_cX9_advance_3 : List UInt8 := 0 :: 19 :: 182 :: 0 :: 39 :: 153 :: 0 :: 40 :: 42 :: 42 :: 180 :: 0 :: 42 :: 16 :: 10 :: 104 :: 42 :: 180 :: 0 :: 9 :: 42 :: 180 :: 0 :: 19 :: 51 :: 96 :: 16 :: 48 :: 100 :: 181 :: 0 :: 42 :: 42 :: 89 :: 180 :: 0 :: 19 :: 4 :: 96 :: 181 :: 0 :: 19 :: 167 :: 255 :: 200 :: 42 :: 42 :: 180 :: 0 :: 19 :: 42 :: 180 :: 0 :: 25 :: 100 :: 7 :: 163 :: 0 :: 14 :: 42 :: 42 :: 180 :: 0 :: 19 :: dS_cX9_advance_4
def dS_cX9_advance_2 : List UInt8 := 0 :: 19 :: 167 :: 255 :: 224 :: 42 :: 42 :: 180 :: 0 :: 19 :: 42 :: 180 :: 0 :: 25 :: 100 :: 16 :: 8 :: 164 :: 0 :: 7 :: 4 :: 167 :: 0 :: 7 :: 42 :: 182 :: 0 :: 35 :: 181 :: 0 :: 28 :: 167 :: 0 :: 163 :: 42 :: 42 :: 180 :: 0 :: 25 :: 182 :: 0 :: 39 :: 153 :: 0 :: 103 :: 42 :: 3 :: 181 :: 0 :: 42 :: 42 :: 180 :: 0 :: 19 :: 42 :: 180 :: 0 :: 15 :: 162 :: 0 :: 51 :: 42 :: 42 :: 180 :: dS_cX9_advance_3
def dS_cX9_advance_1 : List UInt8 := 25 :: 181 :: 0 :: 19 :: 42 :: 180 :: 0 :: 25 :: 42 :: 180 :: 0 :: 15 :: 161 :: 0 :: 11 :: 42 :: 3 :: 181 :: 0 :: 28 :: 167 :: 0 :: 238 :: 42 :: 42 :: 180 :: 0 :: 25 :: 182 :: 0 :: 31 :: 153 :: 0 :: 67 :: 42 :: 180 :: 0 :: 19 :: 42 :: 180 :: 0 :: 15 :: 162 :: 0 :: 27 :: 42 :: 42 :: 180 :: 0 :: 19 :: 182 :: 0 :: 31 :: 153 :: 0 :: 16 :: 42 :: 89 :: 180 :: 0 :: 19 :: 4 :: 96 :: 181 :: dS_cX9_advance_2
def dS_cX9_advance_0 : List UInt8 := 42 :: 42 :: 180 :: 0 :: 19 :: 181 :: 0 :: 25 :: 42 :: 180 :: 0 :: 25 :: 42 :: 180 :: 0 :: 15 :: 162 :: 0 :: 44 :: 42 :: 180 :: 0 :: 9 :: 42 :: 180 :: 0 :: 25 :: 51 :: 16 :: 32 :: 159 :: 0 :: 17 :: 42 :: 180 :: 0 :: 9 :: 42 :: 180 :: 0 :: 25 :: 51 :: 16 :: 10 :: 160 :: 0 :: 16 :: 42 :: 89 :: 180 :: 0 :: 25 :: 4 :: 96 :: 181 :: 0 :: 25 :: 167 :: 255 :: 207 :: 42 :: 42 :: 180 :: 0 :: dS_cX9_advance_1
theorem dT_cX9_advance_0 : cX9_advance.data.toList.drop 0 = dS_cX9_advance_0 := by decide +kernel
theorem dT_cX9_advance_1 : cX9_advance.data.toList.drop 64 = dS_cX9_advance_1 := ck_nx dT_cX9_advance_0 (by decide +kernel) rfl
theorem dT_cX9_advance_2 : cX9_advance.data.toList.drop 128 = dS_cX9_advance_2 := ck_nx dT_cX9_advance_1 (by decide +kernel) rfl
theorem dT_cX9_advance_3 : cX9_advance.data.toList.drop 192 = dS_cX9_advance_3 := ck_nx dT_cX9_advance_2 (by decide +kernel) rfl
theorem dT_cX9_advance_4 : cX9_advance.data.toList.drop 256 = dS_cX9_advance_4 := ck_nx dT_cX9_advance_3 (by decide +kernel) rfl
theorem dT_cX9_advance_5 : cX9_advance.data.toList.drop 320 = dS_cX9_advance_5 := ck_nx dT_cX9_advance_4 (by decide +kernel) rfl
theorem dg_cX9_advance_1547 : ck3L dS_cX9_advance_1 1 181 19 = true ∧ ck1L dS_cX9_advance_1 4 42 = true ∧ ck3L dS_cX9_advance_1 5 180 25 = true ∧ ck1L dS_cX9_advance_1 8 42 = true ∧ ck3L dS_cX9_advance_1 9 180 15 = true ∧ ck3sL dS_cX9_advance_1 12 161 11 = true ∧ ck1L dS_cX9_advance_1 15 42 = true ∧ ck1L dS_cX9_advance_1 16 3 = true := by decide +kernel
theorem dX9_advance_65 : decode cX9_advance 65 = .ok (.putfield 19, 3) := dk_181 (ck3_s (r := 1) dT_cX9_advance_1 rfl dg_cX9_advance_1547.1)
theorem dX9_advance_68 : decode cX9_advance 68 = .ok (.aload_n 0, 1) := dk_42 (ck1_s (r := 4) dT_cX9_advance_1 rfl dg_cX9_advance_1547.2.1)
theorem dX9_advance_69 : decode cX9_advance 69 = .ok (.getfield 25, 3) := dk_180 (ck3_s (r := 5) dT_cX9_advance_1 rfl dg_cX9_advance_1547.2.2.1)
theorem dX9_advance_72 : decode cX9_advance 72 = .ok (.aload_n 0, 1) := dk_42 (ck1_s (r := 8) dT_cX9_advance_1 rfl dg_cX9_advance_1547.2.2.2.1)
theorem dX9_advance_73 : decode cX9_advance 73 = .ok (.getfield 15, 3) := dk_180 (ck3_s (r := 9) dT_cX9_advance_1 rfl dg_cX9_advance_1547.2.2.2.2.1)
theorem dX9_advance_76 : decode cX9_advance 76 = .ok (.if_icmp .lt 11, 3) := dk_161 (ck3s_s (r := 12) dT_cX9_advance_1 rfl dg_cX9_advance_1547.2.2.2.2.2.1)
theorem dX9_advance_79 : decode cX9_advance 79 = .ok (.aload_n 0, 1) := dk_42 (ck1_s (r := 15) dT_cX9_advance_1 rfl dg_cX9_advance_1547.2.2.2.2.2.2.1)
theorem dX9_advance_80 : decode cX9_advance 80 = .ok (.iconst 0, 1) := dk_3 (ck1_s (r := 16) dT_cX9_advance_1 rfl dg_cX9_advance_1547.2.2.2.2.2.2.2)
theorem dg_cX9_advance_1548 : ck3L dS_cX9_advance_1 17 181 28 = true ∧ ck3sL dS_cX9_advance_1 20 167 238 = true ∧ ck1L dS_cX9_advance_1 23 42 = true ∧ ck1L dS_cX9_advance_1 24 42 = true ∧ ck3L dS_cX9_advance_1 25 180 25 = true ∧ ck3L dS_cX9_advance_1 28 182 31 = true ∧ ck3sL dS_cX9_advance_1 31 153 67 = true ∧ ck1L dS_cX9_advance_1 34 42 = true := by decide +kernel
theorem dX9_advance_81 : decode cX9_advance 81 = .ok (.putfield 28, 3) := dk_181 (ck3_s (r := 17) dT_cX9_advance_1 rfl dg_cX9_advance_1548.1)
theorem dX9_advance_84 : decode cX9_advance 84 = .ok (.goto 238, 3) := dk_167 (ck3s_s (r := 20) dT_cX9_advance_1 rfl dg_cX9_advance_1548.2.1)
theorem dX9_advance_87 : decode cX9_advance 87 = .ok (.aload_n 0, 1) := dk_42 (ck1_s (r := 23) dT_cX9_advance_1 rfl dg_cX9_advance_1548.2.2.1)
theorem dX9_advance_88 : decode cX9_advance 88 = .ok (.aload_n 0, 1) := dk_42 (ck1_s (r := 24) dT_cX9_advance_1 rfl dg_cX9_advance_1548.2.2.2.1)
theorem dX9_advance_89 : decode cX9_advance 89 = .ok (.getfield 25, 3) := dk_180 (ck3_s (r := 25) dT_cX9_advance_1 rfl dg_cX9_advance_1548.2.2.2.2.1)
theorem dX9_advance_92 : decode cX9_advance 92 = .ok (.invokevirtual 31, 3) := dk_182 (ck3_s (r := 28) dT_cX9_advance_1 rfl dg_cX9_advance_1548.2.2.2.2.2.1)
theorem dX9_advance_95 : decode cX9_advance 95 = .ok (.ifCond .eq 67, 3) := dk_153 (ck3s_s (r := 31) dT_cX9_advance_1 rfl dg_cX9_advance_1548.2.2.2.2.2.2.1)
theorem dX9_advance_98 : decode cX9_advance 98 = .ok (.aload_n 0, 1) := dk_42 (ck1_s (r := 34) dT_cX9_advance_1 rfl dg_cX9_advance_1548.2.2.2.2.2.2.2)
theorem dg_cX9_advance_1549 : ck3L dS_cX9_advance_1 35 180 19 = true ∧ ck1L dS_cX9_advance_1 38 42 = true ∧ ck3L dS_cX9_advance_1 39 180 15 = true ∧ ck3sL dS_cX9_advance_1 42 162 27 = true ∧ ck1L dS_cX9_advance_1 45 42 = true ∧ ck1L dS_cX9_advance_1 46 42 = true ∧ ck3L dS_cX9_advance_1 47 180 19 = true ∧ ck3L dS_cX9_advance_1 50 182 31 = true := by decide +kernel
theorem dX9_advance_99 : decode cX9_advance 99 = .ok (.getfield 19, 3) := dk_180 (ck3_s (r := 35) dT_cX9_advance_1 rfl dg_cX9_advance_1549.1)
theorem dX9_advance_102 : decode cX9_advance 102 = .ok (.aload_n 0, 1) := dk_42 (ck1_s (r := 38) dT_cX9_advance_1 rfl dg_cX9_advance_1549.2.1)
theorem dX9_advance_103 : decode cX9_advance 103 = .ok (.getfield 15, 3) := dk_180 (ck3_s (r := 39) dT_cX9_advance_1 rfl dg_cX9_advance_1549.2.2.1)
theorem dX9_advance_106 : decode cX9_advance 106 = .ok (.if_icmp .ge 27, 3) := dk_162 (ck3s_s (r := 42) dT_cX9_advance_1 rfl dg_cX9_advance_1549.2.2.2.1)
theorem dX9_advance_109 : decode cX9_advance 109 = .ok (.aload_n 0, 1) := dk_42 (ck1_s (r := 45) dT_cX9_advance_1 rfl dg_cX9_advance_1549.2.2.2.2.1)
theorem dX9_advance_110 : decode cX9_advance 110 = .ok (.aload_n 0, 1) := dk_42 (ck1_s (r := 46) dT_cX9_advance_1 rfl dg_cX9_advance_1549.2.2.2.2.2.1)
theorem dX9_advance_111 : decode cX9_advance 111 = .ok (.getfield 19, 3) := dk_180 (ck3_s (r := 47) dT_cX9_advance_1 rfl dg_cX9_advance_1549.2.2.2.2.2.2.1)
theorem dX9_advance_114 : decode cX9_advance 114 = .ok (.invokevirtual 31, 3) := dk_182 (ck3_s (r := 50) dT_cX9_advance_1 rfl dg_cX9_advance_1549.2.2.2.2.2.2.2)
theorem dg_cX9_advance_1550 : ck3sL dS_cX9_advance_1 53 153 16 = true ∧ ck1L dS_cX9_advance_1 56 42 = true ∧ ck1L dS_cX9_advance_1 57 89 = true ∧ ck3L dS_cX9_advance_1 58 180 19 = true ∧ ck1L dS_cX9_advance_1 61 4 = true ∧ ck1L dS_cX9_advance_1 62 96 = true ∧ ck3L dS_cX9_advance_1 63 181 19 = true ∧ ck3sL dS_cX9_advance_2 2 167 (-32) = true := by decide +kernel
theorem dX9_advance_117 : decode cX9_advance 117 = .ok (.ifCond .eq 16, 3) := dk_153 (ck3s_s (r := 53) dT_cX9_advance_1 rfl dg_cX9_advance_1550.1)
theorem dX9_advance_120 : decode cX9_advance 120 = .ok (.aload_n 0, 1) := dk_42 (ck1_s (r := 56) dT_cX9_advance_1 rfl dg_cX9_advance_1550.2.1)
theorem dX9_advance_121 : decode cX9_advance 121 = .ok (.dup, 1) := dk_89 (ck1_s (r := 57) dT_cX9_advance_1 rfl dg_cX9_advance_1550.2.2.1)
theorem dX9_advance_122 : decode cX9_advance 122 = .ok (.getfield 19, 3) := dk_180 (ck3_s (r := 58) dT_cX9_advance_1 rfl dg_cX9_advance_1550.2.2.2.1)
theorem dX9_advance_125 : decode cX9_advance 125 = .ok (.iconst 1, 1) := dk_4 (ck1_s (r := 61) dT_cX9_advance_1 rfl dg_cX9_advance_1550.2.2.2.2.1)
theorem dX9_advance_126 : decode cX9_advance 126 = .ok (.iadd, 1) := dk_96 (ck1_s (r := 62) dT_cX9_advance_1 rfl dg_cX9_advance_1550.2.2.2.2.2.1)
theorem dX9_advance_127 : decode cX9_advance 127 = .ok (.putfield 19, 3) := dk_181 (ck3_s (r := 63) dT_cX9_advance_1 rfl dg_cX9_advance_1550.2.2.2.2.2.2.1)
theorem dX9_advance_130 : decode cX9_advance 130 = .ok (.goto (-32), 3) := dk_167 (ck3s_s (r := 2) dT_cX9_advance_2 rfl dg_cX9_advance_1550.2.2.2.2.2.2.2)
theorem dg_cX9_advance_1551 : ck1L dS_cX9_advance_2 5 42 = true ∧ ck1L dS_cX9_advance_2 6 42 = true ∧ ck3L dS_cX9_advance_2 7 180 19 = true ∧ ck1L dS_cX9_advance_2 10 42 = true ∧ ck3L dS_cX9_advance_2 11 180 25 = true ∧ ck1L dS_cX9_advance_2 14 100 = true ∧ ck2sL dS_cX9_advance_2 15 16 8 = true ∧ ck3sL dS_cX9_advance_2 17 164 7 = true := by decide +kernel
theorem dX9_advance_133 : decode cX9_advance 133 = .ok (.aload_n 0, 1) := dk_42 (ck1_s (r := 5) dT_cX9_advance_2 rfl dg_cX9_advance_1551.1)
theorem dX9_advance_134 : decode cX9_advance 134 = .ok (.aload_n 0, 1) := dk_42 (ck1_s (r := 6) dT_cX9_advance_2 rfl dg_cX9_advance_1551.2.1)
theorem dX9_advance_135 : decode cX9_advance 135 = .ok (.getfield 19, 3) := dk_180 (ck3_s (r := 7) dT_cX9_advance_2 rfl dg_cX9_advance_1551.2.2.1)
theorem dX9_advance_138 : decode cX9_advance 138 = .ok (.aload_n 0, 1) := dk_42 (ck1_s (r := 10) dT_cX9_advance_2 rfl dg_cX9_advance_1551.2.2.2.1)
theorem dX9_advance_139 : decode cX9_advance 139 = .ok (.getfield 25, 3) := dk_180 (ck3_s (r := 11) dT_cX9_advance_2 rfl dg_cX9_advance_1551.2.2.2.2.1)
theorem dX9_advance_142 : decode cX9_advance 142 = .ok (.isub, 1) := dk_100 (ck1_s (r := 14) dT_cX9_advance_2 rfl dg_cX9_advance_1551.2.2.2.2.2.1)
theorem dX9_advance_143 : decode cX9_advance 143 = .ok (.bipush 8, 2) := dk_16 (ck2s_s (r := 15) dT_cX9_advance_2 rfl dg_cX9_advance_1551.2.2.2.2.2.2.1)
theorem dX9_advance_145 : decode cX9_advance 145 = .ok (.if_icmp .le 7, 3) := dk_164 (ck3s_s (r := 17) dT_cX9_advance_2 rfl dg_cX9_advance_1551.2.2.2.2.2.2.2)
theorem dg_cX9_advance_1552 : ck1L dS_cX9_advance_2 20 4 = true ∧ ck3sL dS_cX9_advance_2 21 167 7 = true ∧ ck1L dS_cX9_advance_2 24 42 = true ∧ ck3L dS_cX9_advance_2 25 182 35 = true ∧ ck3L dS_cX9_advance_2 28 181 28 = true ∧ ck3sL dS_cX9_advance_2 31 167 163 = true ∧ ck1L dS_cX9_advance_2 34 42 = true ∧ ck1L dS_cX9_advance_2 35 42 = true := by decide +kernel
theorem dX9_advance_148 : decode cX9_advance 148 = .ok (.iconst 1, 1) := dk_4 (ck1_s (r := 20) dT_cX9_advance_2 rfl dg_cX9_advance_1552.1)
theorem dX9_advance_149 : decode cX9_advance 149 = .ok (.goto 7, 3) := dk_167 (ck3s_s (r := 21) dT_cX9_advance_2 rfl dg_cX9_advance_1552.2.1)
theorem dX9_advance_152 : decode cX9_advance 152 = .ok (.aload_n 0, 1) := dk_42 (ck1_s (r := 24) dT_cX9_advance_2 rfl dg_cX9_advance_1552.2.2.1)
theorem dX9_advance_153 : decode cX9_advance 153 = .ok (.invokevirtual 35, 3) := dk_182 (ck3_s (r := 25) dT_cX9_advance_2 rfl dg_cX9_advance_1552.2.2.2.1)
theorem dX9_advance_156 : decode cX9_advance 156 = .ok (.putfield 28, 3) := dk_181 (ck3_s (r := 28) dT_cX9_advance_2 rfl dg_cX9_advance_1552.2.2.2.2.1)
theorem dX9_advance_159 : decode cX9_advance 159 = .ok (.goto 163, 3) := dk_167 (ck3s_s (r := 31) dT_cX9_advance_2 rfl dg_cX9_advance_1552.2.2.2.2.2.1)
theorem dX9_advance_162 : decode cX9_advance 162 = .ok (.aload_n 0, 1) := dk_42 (ck1_s (r := 34) dT_cX9_advance_2 rfl dg_cX9_advance_1552.2.2.2.2.2.2.1)
theorem dX9_advance_163 : decode cX9_advance 163 = .ok (.aload_n 0, 1) := dk_42 (ck1_s (r := 35) dT_cX9_advance_2 rfl dg_cX9_advance_1552.2.2.2.2.2.2.2)
theorem dg_cX9_advance_1553 : ck3L dS_cX9_advance_2 36 180 25 = true ∧ ck3L dS_cX9_advance_2 39 182 39 = true ∧ ck3sL dS_cX9_advance_2 42 153 103 = true ∧ ck1L dS_cX9_advance_2 45 42 = true ∧ ck1L dS_cX9_advance_2 46 3 = true ∧ ck3L dS_cX9_advance_2 47 181 42 = true ∧ ck1L dS_cX9_advance_2 50 42 = true ∧ ck3L dS_cX9_advance_2 51 180 19 = true := by decide +kernel
theorem dX9_advance_164 : decode cX9_advance 164 = .ok (.getfield 25, 3) := dk_180 (ck3_s (r := 36) dT_cX9_advance_2 rfl dg_cX9_advance_1553.1)
theorem dX9_advance_167 : decode cX9_advance 167 = .ok (.invokevirtual 39, 3) := dk_182 (ck3_s (r := 39) dT_cX9_advance_2 rfl dg_cX9_advance_1553.2.1)
theorem dX9_advance_170 : decode cX9_advance 170 = .ok (.ifCond .eq 103, 3) := dk_153 (ck3s_s (r := 42) dT_cX9_advance_2 rfl dg_cX9_advance_1553.2.2.1)
theorem dX9_advance_173 : decode cX9_advance 173 = .ok (.aload_n 0, 1) := dk_42 (ck1_s (r := 45) dT_cX9_advance_2 rfl dg_cX9_advance_1553.2.2.2.1)
theorem dX9_advance_174 : decode cX9_advance 174 = .ok (.iconst 0, 1) := dk_3 (ck1_s (r := 46) dT_cX9_advance_2 rfl dg_cX9_advance_1553.2.2.2.2.1)
theorem dX9_advance_175 : decode cX9_advance 175 = .ok (.putfield 42, 3) := dk_181 (ck3_s (r := 47) dT_cX9_advance_2 rfl dg_cX9_advance_1553.2.2.2.2.2.1)
theorem dX9_advance_178 : decode cX9_advance 178 = .ok (.aload_n 0, 1) := dk_42 (ck1_s (r := 50) dT_cX9_advance_2 rfl dg_cX9_advance_1553.2.2.2.2.2.2.1)
theorem dX9_advance_179 : decode cX9_advance 179 = .ok (.getfield 19, 3) := dk_180 (ck3_s (r := 51) dT_cX9_advance_2 rfl dg_cX9_advance_1553.2.2.2.2.2.2.2)
theorem dg_cX9_advance_1554 : ck1L dS_cX9_advance_2 54 42 = true ∧ ck3L dS_cX9_advance_2 55 180 15 = true ∧ ck3sL dS_cX9_advance_2 58 162 51 = true ∧ ck1L dS_cX9_advance_2 61 42 = true ∧ ck1L dS_cX9_advance_2 62 42 = true ∧ ck3L dS_cX9_advance_2 63 180 19 = true ∧ ck3L dS_cX9_advance_3 2 182 39 = true ∧ ck3sL dS_cX9_advance_3 5 153 40 = true := by decide +kernel
theorem dX9_advance_182 : decode cX9_advance 182 = .ok (.aload_n 0, 1) := dk_42 (ck1_s (r := 54) dT_cX9_advance_2 rfl dg_cX9_advance_1554.1)
theorem dX9_advance_183 : decode cX9_advance 183 = .ok (.getfield 15, 3) := dk_180 (ck3_s (r := 55) dT_cX9_advance_2 rfl dg_cX9_advance_1554.2.1)
theorem dX9_advance_186 : decode cX9_advance 186 = .ok (.if_icmp .ge 51, 3) := dk_162 (ck3s_s (r := 58) dT_cX9_advance_2 rfl dg_cX9_advance_1554.2.2.1)
theorem dX9_advance_189 : decode cX9_advance 189 = .ok (.aload_n 0, 1) := dk_42 (ck1_s (r := 61) dT_cX9_advance_2 rfl dg_cX9_advance_1554.2.2.2.1)
theorem dX9_advance_190 : decode cX9_advance 190 = .ok (.aload_n 0, 1) := dk_42 (ck1_s (r := 62) dT_cX9_advance_2 rfl dg_cX9_advance_1554.2.2.2.2.1)
theorem dX9_advance_191 : decode cX9_advance 191 = .ok (.getfield 19, 3) := dk_180 (ck3_s (r := 63) dT_cX9_advance_2 rfl dg_cX9_advance_1554.2.2.2.2.2.1)
theorem dX9_advance_194 : decode cX9_advance 194 = .ok (.invokevirtual 39, 3) := dk_182 (ck3_s (r := 2) dT_cX9_advance_3 rfl dg_cX9_advance_1554.2.2.2.2.2.2.1)
theorem dX9_advance_197 : decode cX9_advance 197 = .ok (.ifCond .eq 40, 3) := dk_153 (ck3s_s (r := 5) dT_cX9_advance_3 rfl dg_cX9_advance_1554.2.2.2.2.2.2.2)
theorem dg_cX9_advance_1555 : ck1L dS_cX9_advance_3 8 42 = true ∧ ck1L dS_cX9_advance_3 9 42 = true ∧ ck3L dS_cX9_advance_3 10 180 42 = true ∧ ck2sL dS_cX9_advance_3 13 16 10 = true ∧ ck1L dS_cX9_advance_3 15 104 = true ∧ ck1L dS_cX9_advance_3 16 42 = true ∧ ck3L dS_cX9_advance_3 17 180 9 = true ∧ ck1L dS_cX9_advance_3 20 42 = true := by decide +kernel
theorem dX9_advance_200 : decode cX9_advance 200 = .ok (.aload_n 0, 1) := dk_42 (ck1_s (r := 8) dT_cX9_advance_3 rfl dg_cX9_advance_1555.1)
theorem dX9_advance_201 : decode cX9_advance 201 = .ok (.aload_n 0, 1) := dk_42 (ck1_s (r := 9) dT_cX9_advance_3 rfl dg_cX9_advance_1555.2.1)
theorem dX9_advance_202 : decode cX9_advance 202 = .ok (.getfield 42, 3) := dk_180 (ck3_s (r := 10) dT_cX9_advance_3 rfl dg_cX9_advance_1555.2.2.1)
theorem dX9_advance_205 : decode cX9_advance 205 = .ok (.bipush 10, 2) := dk_16 (ck2s_s (r := 13) dT_cX9_advance_3 rfl dg_cX9_advance_1555.2.2.2.1)
theorem dX9_advance_207 : decode cX9_advance 207 = .ok (.imul, 1) := dk_104 (ck1_s (r := 15) dT_cX9_advance_3 rfl dg_cX9_advance_1555.2.2.2.2.1)
theorem dX9_advance_208 : decode cX9_advance 208 = .ok (.aload_n 0, 1) := dk_42 (ck1_s (r := 16) dT_cX9_advance_3 rfl dg_cX9_advance_1555.2.2.2.2.2.1)
theorem dX9_advance_209 : decode cX9_advance 209 = .ok (.getfield 9, 3) := dk_180 (ck3_s (r := 17) dT_cX9_advance_3 rfl dg_cX9_advance_1555.2.2.2.2.2.2.1)
theorem dX9_advance_212 : decode cX9_advance 212 = .ok (.aload_n 0, 1) := dk_42 (ck1_s (r := 20) dT_cX9_advance_3 rfl dg_cX9_advance_1555.2.2.2.2.2.2.2)
theorem dg_cX9_advance_1556 : ck3L dS_cX9_advance_3 21 180 19 = true ∧ ck1L dS_cX9_advance_3 24 51 = true ∧ ck1L dS_cX9_advance_3 25 96 = true ∧ ck2sL dS_cX9_advance_3 26 16 48 = true ∧ ck1L dS_cX9_advance_3 28 100 = true ∧ ck3L dS_cX9_advance_3 29 181 42 = true ∧ ck1L dS_cX9_advance_3 32 42 = true ∧ ck1L dS_cX9_advance_3 33 89 = true := by decide +kernel
theorem dX9_advance_213 : decode cX9_advance 213 = .ok (.getfield 19, 3) := dk_180 (ck3_s (r := 21) dT_cX9_advance_3 rfl dg_cX9_advance_1556.1)
theorem dX9_advance_216 : decode cX9_advance 216 = .ok (.baload, 1) := dk_51 (ck1_s (r := 24) dT_cX9_advance_3 rfl dg_cX9_advance_1556.2.1)
theorem dX9_advance_217 : decode cX9_advance 217 = .ok (.iadd, 1) := dk_96 (ck1_s (r := 25) dT_cX9_advance_3 rfl dg_cX9_advance_1556.2.2.1)
theorem dX9_advance_218 : decode cX9_advance 218 = .ok (.bipush 48, 2) := dk_16 (ck2s_s (r := 26) dT_cX9_advance_3 rfl dg_cX9_advance_1556.2.2.2.1)
theorem dX9_advance_220 : decode cX9_advance 220 = .ok (.isub, 1) := dk_100 (ck1_s (r := 28) dT_cX9_advance_3 rfl dg_cX9_advance_1556.2.2.2.2.1)
theorem dX9_advance_221 : decode cX9_advance 221 = .ok (.putfield 42, 3) := dk_181 (ck3_s (r := 29) dT_cX9_advance_3 rfl dg_cX9_advance_1556.2.2.2.2.2.1)
theorem dX9_advance_224 : decode cX9_advance 224 = .ok (.aload_n 0, 1) := dk_42 (ck1_s (r := 32) dT_cX9_advance_3 rfl dg_cX9_advance_1556.2.2.2.2.2.2.1)
theorem dX9_advance_225 : decode cX9_advance 225 = .ok (.dup, 1) := dk_89 (ck1_s (r := 33) dT_cX9_advance_3 rfl dg_cX9_advance_1556.2.2.2.2.2.2.2)
theorem dg_cX9_advance_1557 : ck3L dS_cX9_advance_3 34 180 19 = true ∧ ck1L dS_cX9_advance_3 37 4 = true ∧ ck1L dS_cX9_advance_3 38 96 = true ∧ ck3L dS_cX9_advance_3 39 181 19 = true ∧ ck3sL dS_cX9_advance_3 42 167 (-56) = true ∧ ck1L dS_cX9_advance_3 45 42 = true ∧ ck1L dS_cX9_advance_3 46 42 = true ∧ ck3L dS_cX9_advance_3 47 180 19 = true := by decide +kernel
theorem dX9_advance_226 : decode cX9_advance 226 = .ok (.getfield 19, 3) := dk_180 (ck3_s (r := 34) dT_cX9_advance_3 rfl dg_cX9_advance_1557.1)
theorem dX9_advance_229 : decode cX9_advance 229 = .ok (.iconst 1, 1) := dk_4 (ck1_s (r := 37) dT_cX9_advance_3 rfl dg_cX9_advance_1557.2.1)
theorem dX9_advance_230 : decode cX9_advance 230 = .ok (.iadd, 1) := dk_96 (ck1_s (r := 38) dT_cX9_advance_3 rfl dg_cX9_advance_1557.2.2.1)
theorem dX9_advance_231 : decode cX9_advance 231 = .ok (.putfield 19, 3) := dk_181 (ck3_s (r := 39) dT_cX9_advance_3 rfl dg_cX9_advance_1557.2.2.2.1)
theorem dX9_advance_234 : decode cX9_advance 234 = .ok (.goto (-56), 3) := dk_167 (ck3s_s (r := 42) dT_cX9_advance_3 rfl dg_cX9_advance_1557.2.2.2.2.1)
theorem dX9_advance_237 : decode cX9_advance 237 = .ok (.aload_n 0, 1) := dk_42 (ck1_s (r := 45) dT_cX9_advance_3 rfl dg_cX9_advance_1557.2.2.2.2.2.1)
theorem dX9_advance_238 : decode cX9_advance 238 = .ok (.aload_n 0, 1) := dk_42 (ck1_s (r := 46) dT_cX9_advance_3 rfl dg_cX9_advance_1557.2.2.2.2.2.2.1)
theorem dX9_advance_239 : decode cX9_advance 239 = .ok (.getfield 19, 3) := dk_180 (ck3_s (r := 47) dT_cX9_advance_3 rfl dg_cX9_advance_1557.2.2.2.2.2.2.2)
theorem dg_cX9_advance_1558 : ck1L dS_cX9_advance_3 50 42 = true ∧ ck3L dS_cX9_advance_3 51 180 25 = true ∧ ck1L dS_cX9_advance_3 54 100 = true ∧ ck1L dS_cX9_advance_3 55 7 = true ∧ ck3sL dS_cX9_advance_3 56 163 14 = true ∧ ck1L dS_cX9_advance_3 59 42 = true ∧ ck1L dS_cX9_advance_3 60 42 = true ∧ ck3L dS_cX9_advance_3 61 180 19 = true := by decide +kernel
theorem dX9_advance_242 : decode cX9_advance 242 = .ok (.aload_n 0, 1) := dk_42 (ck1_s (r := 50) dT_cX9_advance_3 rfl dg_cX9_advance_1558.1)
theorem dX9_advance_243 : decode cX9_advance 243 = .ok (.getfield 25, 3) := dk_180 (ck3_s (r := 51) dT_cX9_advance_3 rfl dg_cX9_advance_1558.2.1)
theorem dX9_advance_246 : decode cX9_advance 246 = .ok (.isub, 1) := dk_100 (ck1_s (r := 54) dT_cX9_advance_3 rfl dg_cX9_advance_1558.2.2.1)
theorem dX9_advance_247 : decode cX9_advance 247 = .ok (.iconst 4, 1) := dk_7 (ck1_s (r := 55) dT_cX9_advance_3 rfl dg_cX9_advance_1558.2.2.2.1)
theorem dX9_advance_248 : decode cX9_advance 248 = .ok (.if_icmp .gt 14, 3) := dk_163 (ck3s_s (r := 56) dT_cX9_advance_3 rfl dg_cX9_advance_1558.2.2.2.2.1)
theorem dX9_advance_251 : decode cX9_advance 251 = .ok (.aload_n 0, 1) := dk_42 (ck1_s (r := 59) dT_cX9_advance_3 rfl dg_cX9_advance_1558.2.2.2.2.2.1)
theorem dX9_advance_252 : decode cX9_advance 252 = .ok (.aload_n 0, 1) := dk_42 (ck1_s (r := 60) dT_cX9_advance_3 rfl dg_cX9_advance_1558.2.2.2.2.2.2.1)
theorem dX9_advance_253 : decode cX9_advance 253 = .ok (.getfield 19, 3) := dk_180 (ck3_s (r := 61) dT_cX9_advance_3 rfl dg_cX9_advance_1558.2.2.2.2.2.2.2)
theorem dg_cX9_advance_1559 : ck3L dS_cX9_advance_4 0 182 31 = true ∧ ck3sL dS_cX9_advance_4 3 153 7 = true ∧ ck1L dS_cX9_advance_4 6 4 = true ∧ ck3sL dS_cX9_advance_4 7 167 4 = true ∧ ck1L dS_cX9_advance_4 10 5 = true ∧ ck3L dS_cX9_advance_4 11 181 28 = true ∧ ck3sL dS_cX9_advance_4 14 167 52 = true ∧ ck1L dS_cX9_advance_4 17 42 = true := by decide +kernel
theorem dX9_advance_256 : decode cX9_advance 256 = .ok (.invokevirtual 31, 3) := dk_182 (ck3_s (r := 0) dT_cX9_advance_4 rfl dg_cX9_advance_1559.1)
theorem dX9_advance_259 : decode cX9_advance 259 = .ok (.ifCond .eq 7, 3) := dk_153 (ck3s_s (r := 3) dT_cX9_advance_4 rfl dg_cX9_advance_1559.2.1)
theorem dX9_advance_262 : decode cX9_advance 262 = .ok (.iconst 1, 1) := dk_4 (ck1_s (r := 6) dT_cX9_advance_4 rfl dg_cX9_advance_1559.2.2.1)
theorem dX9_advance_263 : decode cX9_advance 263 = .ok (.goto 4, 3) := dk_167 (ck3s_s (r := 7) dT_cX9_advance_4 rfl dg_cX9_advance_1559.2.2.2.1)
theorem dX9_advance_266 : decode cX9_advance 266 = .ok (.iconst 2, 1) := dk_5 (ck1_s (r := 10) dT_cX9_advance_4 rfl dg_cX9_advance_1559.2.2.2.2.1)
theorem dX9_advance_267 : decode cX9_advance 267 = .ok (.putfield 28, 3) := dk_181 (ck3_s (r := 11) dT_cX9_advance_4 rfl dg_cX9_advance_1559.2.2.2.2.2.1)
theorem dX9_advance_270 : decode cX9_advance 270 = .ok (.goto 52, 3) := dk_167 (ck3s_s (r := 14) dT_cX9_advance_4 rfl dg_cX9_advance_1559.2.2.2.2.2.2.1)
theorem dX9_advance_273 : decode cX9_advance 273 = .ok (.aload_n 0, 1) := dk_42 (ck1_s (r := 17) dT_cX9_advance_4 rfl dg_cX9_advance_1559.2.2.2.2.2.2.2)
theorem dg_cX9_advance_1560 : ck1L dS_cX9_advance_4 18 89 = true ∧ ck3L dS_cX9_advance_4 19 180 19 = true ∧ ck1L dS_cX9_advance_4 22 4 = true ∧ ck1L dS_cX9_advance_4 23 96 = true ∧ ck3L dS_cX9_advance_4 24 181 19 = true ∧ ck1L dS_cX9_advance_4 27 42 = true ∧ ck2L dS_cX9_advance_4 28 18 45 = true ∧ ck1L dS_cX9_advance_4 30 42 = true := by decide +kernel
theorem dX9_advance_274 : decode cX9_advance 274 = .ok (.dup, 1) := dk_89 (ck1_s (r := 18) dT_cX9_advance_4 rfl dg_cX9_advance_1560.1)
theorem dX9_advance_275 : decode cX9_advance 275 = .ok (.getfield 19, 3) := dk_180 (ck3_s (r := 19) dT_cX9_advance_4 rfl dg_cX9_advance_1560.2.1)
theorem dX9_advance_278 : decode cX9_advance 278 = .ok (.iconst 1, 1) := dk_4 (ck1_s (r := 22) dT_cX9_advance_4 rfl dg_cX9_advance_1560.2.2.1)
theorem dX9_advance_279 : decode cX9_advance 279 = .ok (.iadd, 1) := dk_96 (ck1_s (r := 23) dT_cX9_advance_4 rfl dg_cX9_advance_1560.2.2.2.1)
theorem dX9_advance_280 : decode cX9_advance 280 = .ok (.putfield 19, 3) := dk_181 (ck3_s (r := 24) dT_cX9_advance_4 rfl dg_cX9_advance_1560.2.2.2.2.1)
theorem dX9_advance_283 : decode cX9_advance 283 = .ok (.aload_n 0, 1) := dk_42 (ck1_s (r := 27) dT_cX9_advance_4 rfl dg_cX9_advance_1560.2.2.2.2.2.1)
theorem dX9_advance_284 : decode cX9_advance 284 = .ok (.ldc 45, 2) := dk_18 (ck2_s (r := 28) dT_cX9_advance_4 rfl dg_cX9_advance_1560.2.2.2.2.2.2.1)
theorem dX9_advance_286 : decode cX9_advance 286 = .ok (.aload_n 0, 1) := dk_42 (ck1_s (r := 30) dT_cX9_advance_4 rfl dg_cX9_advance_1560.2.2.2.2.2.2.2)
theorem dg_cX9_advance_1561 : ck3L dS_cX9_advance_4 31 180 9 = true ∧ ck1L dS_cX9_advance_4 34 42 = true ∧ ck3L dS_cX9_advance_4 35 180 25 = true ∧ ck1L dS_cX9_advance_4 38 51 = true ∧ ck3sL dS_cX9_advance_4 39 17 255 = true ∧ ck1L dS_cX9_advance_4 42 126 = true ∧ ck1L dS_cX9_advance_4 43 146 = true ∧ ck3L dS_cX9_advance_4 44 182 47 = true := by decide +kernel
theorem dX9_advance_287 : decode cX9_advance 287 = .ok (.getfield 9, 3) := dk_180 (ck3_s (r := 31) dT_cX9_advance_4 rfl dg_cX9_advance_1561.1)
theorem dX9_advance_290 : decode cX9_advance 290 = .ok (.aload_n 0, 1) := dk_42 (ck1_s (r := 34) dT_cX9_advance_4 rfl dg_cX9_advance_1561.2.1)
theorem dX9_advance_291 : decode cX9_advance 291 = .ok (.getfield 25, 3) := dk_180 (ck3_s (r := 35) dT_cX9_advance_4 rfl dg_cX9_advance_1561.2.2.1)
theorem dX9_advance_294 : decode cX9_advance 294 = .ok (.baload, 1) := dk_51 (ck1_s (r := 38) dT_cX9_advance_4 rfl dg_cX9_advance_1561.2.2.2.1)
theorem dX9_advance_295 : decode cX9_advance 295 = .ok (.sipush 255, 3) := dk_17 (ck3s_s (r := 39) dT_cX9_advance_4 rfl dg_cX9_advance_1561.2.2.2.2.1)
theorem dX9_advance_298 : decode cX9_advance 298 = .ok (.iand, 1) := dk_126 (ck1_s (r := 42) dT_cX9_advance_4 rfl dg_cX9_advance_1561.2.2.2.2.2.1)
theorem dX9_advance_299 : decode cX9_advance 299 = .ok (.i2c, 1) := dk_146 (ck1_s (r := 43) dT_cX9_advance_4 rfl dg_cX9_advance_1561.2.2.2.2.2.2.1)
theorem dX9_advance_300 : decode cX9_advance 300 = .ok (.invokevirtual 47, 3) := dk_182 (ck3_s (r := 44) dT_cX9_advance_4 rfl dg_cX9_advance_1561.2.2.2.2.2.2.2)
theorem dg_cX9_advance_1562 : ck3sL dS_cX9_advance_4 47 155 15 = true ∧ ck1L dS_cX9_advance_4 50 42 = true ∧ ck3L dS_cX9_advance_4 51 180 9 = true ∧ ck1L dS_cX9_advance_4 54 42 = true ∧ ck3L dS_cX9_advance_4 55 180 25 = true ∧ ck1L dS_cX9_advance_4 58 51 = true ∧ ck3sL dS_cX9_advance_4 59 167 4 = true ∧ ck1L dS_cX9_advance_4 62 4 = true := by decide +kernel
theorem dX9_advance_303 : decode cX9_advance 303 = .ok (.ifCond .lt 15, 3) := dk_155 (ck3s_s (r := 47) dT_cX9_advance_4 rfl dg_cX9_advance_1562.1)
theorem dX9_advance_306 : decode cX9_advance 306 = .ok (.aload_n 0, 1) := dk_42 (ck1_s (r := 50) dT_cX9_advance_4 rfl dg_cX9_advance_1562.2.1)
theorem dX9_advance_307 : decode cX9_advance 307 = .ok (.getfield 9, 3) := dk_180 (ck3_s (r := 51) dT_cX9_advance_4 rfl dg_cX9_advance_1562.2.2.1)
theorem dX9_advance_310 : decode cX9_advance 310 = .ok (.aload_n 0, 1) := dk_42 (ck1_s (r := 54) dT_cX9_advance_4 rfl dg_cX9_advance_1562.2.2.2.1)
theorem dX9_advance_311 : decode cX9_advance 311 = .ok (.getfield 25, 3) := dk_180 (ck3_s (r := 55) dT_cX9_advance_4 rfl dg_cX9_advance_1562.2.2.2.2.1)
theorem dX9_advance_314 : decode cX9_advance 314 = .ok (.baload, 1) := dk_51 (ck1_s (r := 58) dT_cX9_advance_4 rfl dg_cX9_advance_1562.2.2.2.2.2.1)
theorem dX9_advance_315 : decode cX9_advance 315 = .ok (.goto 4, 3) := dk_167 (ck3s_s (r := 59) dT_cX9_advance_4 rfl dg_cX9_advance_1562.2.2.2.2.2.2.1)
theorem dX9_advance_318 : decode cX9_advance 318 = .ok (.iconst 1, 1) := dk_4 (ck1_s (r := 62) dT_cX9_advance_4 rfl dg_cX9_advance_1562.2.2.2.2.2.2.2)
theorem dg_cX9_advance_1563 : ck3L dS_cX9_advance_4 63 181 28 = true ∧ ck1L dS_cX9_advance_5 2 177 = true := by decide +kernel
theorem dX9_advance_319 : decode cX9_advance 319 = .ok (.putfield 28, 3) := dk_181 (ck3_s (r := 63) dT_cX9_advance_4 rfl dg_cX9_advance_1563.1)
theorem dX9_advance_322 : decode cX9_advance 322 = .ok (.return_, 1) := dk_177 (ck1_s (r := 2) dT_cX9_advance_5 rfl dg_cX9_advance_1563.2)
theorem dg_cX9_append_1564 : ck2s cX9_append 0 16 24 = true ∧ ck1 cX9_append 2 61 = true ∧ ck1 cX9_append 3 28 = true ∧ ck3s cX9_append 4 155 42 = true ∧ ck1 cX9_append 7 42 = true ∧ ck3 cX9_append 8 180 15 = true ∧ ck3s cX9_append 11 17 1600 = true ∧ ck3s cX9_append 14 162 32 = true := by decide +kernel
theorem dX9_append_0 : decode cX9_append 0 = .ok (.bipush 24, 2) := dk_16 dg_cX9_append_1564.1
theorem dX9_append_2 : decode cX9_append 2 = .ok (.istore_n 2, 1) := dk_61 dg_cX9_append_1564.2.1
theorem dX9_append_3 : decode cX9_append 3 = .ok (.iload_n 2, 1) := dk_28 dg_cX9_append_1564.2.2.1
theorem dX9_append_4 : decode cX9_append 4 = .ok (.ifCond .lt 42, 3) := dk_155 dg_cX9_append_1564.2.2.2.1
theorem dX9_append_7 : decode cX9_append 7 = .ok (.aload_n 0, 1) := dk_42 dg_cX9_append_1564.2.2.2.2.1
theorem dX9_append_8 : decode cX9_append 8 = .ok (.getfield 15, 3) := dk_180 dg_cX9_append_1564.2.2.2.2.2.1
theorem dX9_append_11 : decode cX9_append 11 = .ok (.sipush 1600, 3) := dk_17 dg_cX9_append_1564.2.2.2.2.2.2.1
theorem dX9_append_14 : decode cX9_append 14 = .ok (.if_icmp .ge 32, 3) := dk_162 dg_cX9_append_1564.2.2.2.2.2.2.2
theorem dg_cX9_append_1565 : ck1 cX9_append 17 42 = true ∧ ck3 cX9_append 18 180 9 = true ∧ ck1 cX9_append 21 42 = true ∧ ck3 cX9_append 22 180 15 = true ∧ ck1 cX9_append 25 27 = true ∧ ck1 cX9_append 26 28 = true ∧ ck1 cX9_append 27 122 = true ∧ ck1 cX9_append 28 145 = true := by decide +kernel
theorem dX9_append_17 : decode cX9_append 17 = .ok (.aload_n 0, 1) := dk_42 dg_cX9_append_1565.1
theorem dX9_append_18 : decode cX9_append 18 = .ok (.getfield 9, 3) := dk_180 dg_cX9_append_1565.2.1
theorem dX9_append_21 : decode cX9_append 21 = .ok (.aload_n 0, 1) := dk_42 dg_cX9_append_1565.2.2.1
theorem dX9_append_22 : decode cX9_append 22 = .ok (.getfield 15, 3) := dk_180 dg_cX9_append_1565.2.2.2.1
theorem dX9_append_25 : decode cX9_append 25 = .ok (.iload_n 1, 1) := dk_27 dg_cX9_append_1565.2.2.2.2.1
theorem dX9_append_26 : decode cX9_append 26 = .ok (.iload_n 2, 1) := dk_28 dg_cX9_append_1565.2.2.2.2.2.1
theorem dX9_append_27 : decode cX9_append 27 = .ok (.ishr, 1) := dk_122 dg_cX9_append_1565.2.2.2.2.2.2.1
theorem dX9_append_28 : decode cX9_append 28 = .ok (.i2b, 1) := dk_145 dg_cX9_append_1565.2.2.2.2.2.2.2
theorem dg_cX9_append_1566 : ck1 cX9_append 29 84 = true ∧ ck1 cX9_append 30 42 = true ∧ ck1 cX9_append 31 89 = true ∧ ck3 cX9_append 32 180 15 = true ∧ ck1 cX9_append 35 4 = true ∧ ck1 cX9_append 36 96 = true ∧ ck3 cX9_append 37 181 15 = true ∧ ck3i cX9_append 40 132 2 (-8) = true := by decide +kernel
theorem dX9_append_29 : decode cX9_append 29 = .ok (.bastore, 1) := dk_84 dg_cX9_append_1566.1
theorem dX9_append_30 : decode cX9_append 30 = .ok (.aload_n 0, 1) := dk_42 dg_cX9_append_1566.2.1
theorem dX9_append_31 : decode cX9_append 31 = .ok (.dup, 1) := dk_89 dg_cX9_append_1566.2.2.1
theorem dX9_append_32 : decode cX9_append 32 = .ok (.getfield 15, 3) := dk_180 dg_cX9_append_1566.2.2.2.1
theorem dX9_append_35 : decode cX9_append 35 = .ok (.iconst 1, 1) := dk_4 dg_cX9_append_1566.2.2.2.2.1
theorem dX9_append_36 : decode cX9_append 36 = .ok (.iadd, 1) := dk_96 dg_cX9_append_1566.2.2.2.2.2.1
theorem dX9_append_37 : decode cX9_append 37 = .ok (.putfield 15, 3) := dk_181 dg_cX9_append_1566.2.2.2.2.2.2.1
theorem dX9_append_40 : decode cX9_append 40 = .ok (.iinc 2 (-8), 3) := dk_132 dg_cX9_append_1566.2.2.2.2.2.2.2
theorem dg_cX9_append_1567 : ck3s cX9_append 43 167 (-40) = true ∧ ck1 cX9_append 46 177 = true := by decide +kernel
theorem dX9_append_43 : decode cX9_append 43 = .ok (.goto (-40), 3) := dk_167 dg_cX9_append_1567.1
theorem dX9_append_46 : decode cX9_append 46 = .ok (.return_, 1) := dk_177 dg_cX9_append_1567.2
theorem dg_cX9_hasRoom_1568 : ck1 cX9_hasRoom 0 42 = true ∧ ck3 cX9_hasRoom 1 180 15 = true ∧ ck2s cX9_hasRoom 4 16 20 = true ∧ ck1 cX9_hasRoom 6 96 = true ∧ ck3s cX9_hasRoom 7 17 1600 = true ∧ ck3s cX9_hasRoom 10 163 7 = true ∧ ck1 cX9_hasRoom 13 4 = true ∧ ck3s cX9_hasRoom 14 167 4 = true := by decide +kernel
theorem dX9_hasRoom_0 : decode cX9_hasRoom 0 = .ok (.aload_n 0, 1) := dk_42 dg_cX9_hasRoom_1568.1
theorem dX9_hasRoom_1 : decode cX9_hasRoom 1 = .ok (.getfield 15, 3) := dk_180 dg_cX9_hasRoom_1568.2.1
theorem dX9_hasRoom_4 : decode cX9_hasRoom 4 = .ok (.bipush 20, 2) := dk_16 dg_cX9_hasRoom_1568.2.2.1
theorem dX9_hasRoom_6 : decode cX9_hasRoom 6 = .ok (.iadd, 1) := dk_96 dg_cX9_hasRoom_1568.2.2.2.1
theorem dX9_hasRoom_7 : decode cX9_hasRoom 7 = .ok (.sipush 1600, 3) := dk_17 dg_cX9_hasRoom_1568.2.2.2.2.1
theorem dX9_hasRoom_10 : decode cX9_hasRoom 10 = .ok (.if_icmp .gt 7, 3) := dk_163 dg_cX9_hasRoom_1568.2.2.2.2.2.1
theorem dX9_hasRoom_13 : decode cX9_hasRoom 13 = .ok (.iconst 1, 1) := dk_4 dg_cX9_hasRoom_1568.2.2.2.2.2.2.1
theorem dX9_hasRoom_14 : decode cX9_hasRoom 14 = .ok (.goto 4, 3) := dk_167 dg_cX9_hasRoom_1568.2.2.2.2.2.2.2
theorem dg_cX9_hasRoom_1569 : ck1 cX9_hasRoom 17 3 = true ∧ ck1 cX9_hasRoom 18 172 = true := by decide +kernel
theorem dX9_hasRoom_17 : decode cX9_hasRoom 17 = .ok (.iconst 0, 1) := dk_3 dg_cX9_hasRoom_1569.1
theorem dX9_hasRoom_18 : decode cX9_hasRoom 18 = .ok (.ireturn, 1) := dk_172 dg_cX9_hasRoom_1569.2
theorem dg_cX9_init_1570 : ck1 cX9_init 0 42 = true ∧ ck3 cX9_init 1 183 3 = true ∧ ck1 cX9_init 4 42 = true ∧ ck3s cX9_init 5 17 1600 = true := by decide +kernel
theorem dX9_init_0 : decode cX9_init 0 = .ok (.aload_n 0, 1) := dk_42 dg_cX9_init_1570.1
theorem dX9_init_1 : decode cX9_init 1 = .ok (.invokespecial 3, 3) := dk_183 dg_cX9_init_1570.2.1
theorem dX9_init_4 : decode cX9_init 4 = .ok (.aload_n 0, 1) := dk_42 dg_cX9_init_1570.2.2.1
theorem dX9_init_5 : decode cX9_init 5 = .ok (.sipush 1600, 3) := dk_17 dg_cX9_init_1570.2.2.2
theorem dX9_init_8 : decode cX9_init 8 = .ok (.newarray .byte, 2) := by decide +kernel
theorem dg_cX9_init_1571 : ck3 cX9_init 10 181 9 = true ∧ ck1 cX9_init 13 177 = true := by decide +kernel
theorem dX9_init_10 : decode cX9_init 10 = .ok (.putfield 9, 3) := dk_181 dg_cX9_init_1571.1
theorem dX9_init_13 : decode cX9_init 13 = .ok (.return_, 1) := dk_177 dg_cX9_init_1571.2
theorem dg_cX9_isDigit_1572 : ck1 cX9_isDigit 0 27 = true ∧ ck3s cX9_isDigit 1 155 37 = true ∧ ck1 cX9_isDigit 4 27 = true ∧ ck1 cX9_isDigit 5 42 = true ∧ ck3 cX9_isDigit 6 180 15 = true ∧ ck3s cX9_isDigit 9 162 29 = true ∧ ck1 cX9_isDigit 12 42 = true ∧ ck3 cX9_isDigit 13 180 9 = true := by decide +kernel
theorem dX9_isDigit_0 : decode cX9_isDigit 0 = .ok (.iload_n 1, 1) := dk_27 dg_cX9_isDigit_1572.1
theorem dX9_isDigit_1 : decode cX9_isDigit 1 = .ok (.ifCond .lt 37, 3) := dk_155 dg_cX9_isDigit_1572.2.1
theorem dX9_isDigit_4 : decode cX9_isDigit 4 = .ok (.iload_n 1, 1) := dk_27 dg_cX9_isDigit_1572.2.2.1
theorem dX9_isDigit_5 : decode cX9_isDigit 5 = .ok (.aload_n 0, 1) := dk_42 dg_cX9_isDigit_1572.2.2.2.1
theorem dX9_isDigit_6 : decode cX9_isDigit 6 = .ok (.getfield 15, 3) := dk_180 dg_cX9_isDigit_1572.2.2.2.2.1
theorem dX9_isDigit_9 : decode cX9_isDigit 9 = .ok (.if_icmp .ge 29, 3) := dk_162 dg_cX9_isDigit_1572.2.2.2.2.2.1
theorem dX9_isDigit_12 : decode cX9_isDigit 12 = .ok (.aload_n 0, 1) := dk_42 dg_cX9_isDigit_1572.2.2.2.2.2.2.1
theorem dX9_isDigit_13 : decode cX9_isDigit 13 = .ok (.getfield 9, 3) := dk_180 dg_cX9_isDigit_1572.2.2.2.2.2.2.2
theorem dg_cX9_isDigit_1573 : ck1 cX9_isDigit 16 27 = true ∧ ck1 cX9_isDigit 17 51 = true ∧ ck2s cX9_isDigit 18 16 48 = true ∧ ck3s cX9_isDigit 20 161 18 = true ∧ ck1 cX9_isDigit 23 42 = true ∧ ck3 cX9_isDigit 24 180 9 = true ∧ ck1 cX9_isDigit 27 27 = true ∧ ck1 cX9_isDigit 28 51 = true := by decide +kernel
theorem dX9_isDigit_16 : decode cX9_isDigit 16 = .ok (.iload_n 1, 1) := dk_27 dg_cX9_isDigit_1573.1
theorem dX9_isDigit_17 : decode cX9_isDigit 17 = .ok (.baload, 1) := dk_51 dg_cX9_isDigit_1573.2.1
theorem dX9_isDigit_18 : decode cX9_isDigit 18 = .ok (.bipush 48, 2) := dk_16 dg_cX9_isDigit_1573.2.2.1
theorem dX9_isDigit_20 : decode cX9_isDigit 20 = .ok (.if_icmp .lt 18, 3) := dk_161 dg_cX9_isDigit_1573.2.2.2.1
theorem dX9_isDigit_23 : decode cX9_isDigit 23 = .ok (.aload_n 0, 1) := dk_42 dg_cX9_isDigit_1573.2.2.2.2.1
theorem dX9_isDigit_24 : decode cX9_isDigit 24 = .ok (.getfield 9, 3) := dk_180 dg_cX9_isDigit_1573.2.2.2.2.2.1
theorem dX9_isDigit_27 : decode cX9_isDigit 27 = .ok (.iload_n 1, 1) := dk_27 dg_cX9_isDigit_1573.2.2.2.2.2.2.1
theorem dX9_isDigit_28 : decode cX9_isDigit 28 = .ok (.baload, 1) := dk_51 dg_cX9_isDigit_1573.2.2.2.2.2.2.2
theorem dg_cX9_isDigit_1574 : ck2s cX9_isDigit 29 16 57 = true ∧ ck3s cX9_isDigit 31 163 7 = true ∧ ck1 cX9_isDigit 34 4 = true ∧ ck3s cX9_isDigit 35 167 4 = true ∧ ck1 cX9_isDigit 38 3 = true ∧ ck1 cX9_isDigit 39 172 = true := by decide +kernel
theorem dX9_isDigit_29 : decode cX9_isDigit 29 = .ok (.bipush 57, 2) := dk_16 dg_cX9_isDigit_1574.1
theorem dX9_isDigit_31 : decode cX9_isDigit 31 = .ok (.if_icmp .gt 7, 3) := dk_163 dg_cX9_isDigit_1574.2.1
theorem dX9_isDigit_34 : decode cX9_isDigit 34 = .ok (.iconst 1, 1) := dk_4 dg_cX9_isDigit_1574.2.2.1
theorem dX9_isDigit_35 : decode cX9_isDigit 35 = .ok (.goto 4, 3) := dk_167 dg_cX9_isDigit_1574.2.2.2.1
theorem dX9_isDigit_38 : decode cX9_isDigit 38 = .ok (.iconst 0, 1) := dk_3 dg_cX9_isDigit_1574.2.2.2.2.1
theorem dX9_isDigit_39 : decode cX9_isDigit 39 = .ok (.ireturn, 1) := dk_172 dg_cX9_isDigit_1574.2.2.2.2.2
theorem dg_cX9_isLetter_1575 : ck1 cX9_isLetter 0 27 = true ∧ ck3s cX9_isLetter 1 155 37 = true ∧ ck1 cX9_isLetter 4 27 = true ∧ ck1 cX9_isLetter 5 42 = true ∧ ck3 cX9_isLetter 6 180 15 = true ∧ ck3s cX9_isLetter 9 162 29 = true ∧ ck1 cX9_isLetter 12 42 = true ∧ ck3 cX9_isLetter 13 180 9 = true := by decide +kernel
theorem dX9_isLetter_0 : decode cX9_isLetter 0 = .ok (.iload_n 1, 1) := dk_27 dg_cX9_isLetter_1575.1
theorem dX9_isLetter_1 : decode cX9_isLetter 1 = .ok (.ifCond .lt 37, 3) := dk_155 dg_cX9_isLetter_1575.2.1
theorem dX9_isLetter_4 : decode cX9_isLetter 4 = .ok (.iload_n 1, 1) := dk_27 dg_cX9_isLetter_1575.2.2.1
theorem dX9_isLetter_5 : decode cX9_isLetter 5 = .ok (.aload_n 0, 1) := dk_42 dg_cX9_isLetter_1575.2.2.2.1
theorem dX9_isLetter_6 : decode cX9_isLetter 6 = .ok (.getfield 15, 3) := dk_180 dg_cX9_isLetter_1575.2.2.2.2.1
theorem dX9_isLetter_9 : decode cX9_isLetter 9 = .ok (.if_icmp .ge 29, 3) := dk_162 dg_cX9_isLetter_1575.2.2.2.2.2.1
theorem dX9_isLetter_12 : decode cX9_isLetter 12 = .ok (.aload_n 0, 1) := dk_42 dg_cX9_isLetter_1575.2.2.2.2.2.2.1
theorem dX9_isLetter_13 : decode cX9_isLetter 13 = .ok (.getfield 9, 3) := dk_180 dg_cX9_isLetter_1575.2.2.2.2.2.2.2
theorem dg_cX9_isLetter_1576 : ck1 cX9_isLetter 16 27 = true ∧ ck1 cX9_isLetter 17 51 = true ∧ ck2s cX9_isLetter 18 16 97 = true ∧ ck3s cX9_isLetter 20 161 18 = true ∧ ck1 cX9_isLetter 23 42 = true ∧ ck3 cX9_isLetter 24 180 9 = true ∧ ck1 cX9_isLetter 27 27 = true ∧ ck1 cX9_isLetter 28 51 = true := by decide +kernel
theorem dX9_isLetter_16 : decode cX9_isLetter 16 = .ok (.iload_n 1, 1) := dk_27 dg_cX9_isLetter_1576.1
theorem dX9_isLetter_17 : decode cX9_isLetter 17 = .ok (.baload, 1) := dk_51 dg_cX9_isLetter_1576.2.1
theorem dX9_isLetter_18 : decode cX9_isLetter 18 = .ok (.bipush 97, 2) := dk_16 dg_cX9_isLetter_1576.2.2.1
theorem dX9_isLetter_20 : decode cX9_isLetter 20 = .ok (.if_icmp .lt 18, 3) := dk_161 dg_cX9_isLetter_1576.2.2.2.1
theorem dX9_isLetter_23 : decode cX9_isLetter 23 = .ok (.aload_n 0, 1) := dk_42 dg_cX9_isLetter_1576.2.2.2.2.1
theorem dX9_isLetter_24 : decode cX9_isLetter 24 = .ok (.getfield 9, 3) := dk_180 dg_cX9_isLetter_1576.2.2.2.2.2.1
theorem dX9_isLetter_27 : decode cX9_isLetter 27 = .ok (.iload_n 1, 1) := dk_27 dg_cX9_isLetter_1576.2.2.2.2.2.2.1
theorem dX9_isLetter_28 : decode cX9_isLetter 28 = .ok (.baload, 1) := dk_51 dg_cX9_isLetter_1576.2.2.2.2.2.2.2
theorem dg_cX9_isLetter_1577 : ck2s cX9_isLetter 29 16 122 = true ∧ ck3s cX9_isLetter 31 163 7 = true ∧ ck1 cX9_isLetter 34 4 = true ∧ ck3s cX9_isLetter 35 167 4 = true ∧ ck1 cX9_isLetter 38 3 = true ∧ ck1 cX9_isLetter 39 172 = true := by decide +kernel
theorem dX9_isLetter_29 : decode cX9_isLetter 29 = .ok (.bipush 122, 2) := dk_16 dg_cX9_isLetter_1577.1
theorem dX9_isLetter_31 : decode cX9_isLetter 31 = .ok (.if_icmp .gt 7, 3) := dk_163 dg_cX9_isLetter_1577.2.1
theorem dX9_isLetter_34 : decode cX9_isLetter 34 = .ok (.iconst 1, 1) := dk_4 dg_cX9_isLetter_1577.2.2.1
theorem dX9_isLetter_35 : decode cX9_isLetter 35 = .ok (.goto 4, 3) := dk_167 dg_cX9_isLetter_1577.2.2.2.1
theorem dX9_isLetter_38 : decode cX9_isLetter 38 = .ok (.iconst 0, 1) := dk_3 dg_cX9_isLetter_1577.2.2.2.2.1
theorem dX9_isLetter_39 : decode cX9_isLetter 39 = .ok (.ireturn, 1) := dk_172 dg_cX9_isLetter_1577.2.2.2.2.2
theorem dg_cX9_rewind_1578 : ck1 cX9_rewind 0 42 = true ∧ ck1 cX9_rewind 1 3 = true ∧ ck3 cX9_rewind 2 181 19 = true ∧ ck1 cX9_rewind 5 42 = true ∧ ck3 cX9_rewind 6 182 22 = true ∧ ck1 cX9_rewind 9 177 = true := by decide +kernel
theorem dX9_rewind_0 : decode cX9_rewind 0 = .ok (.aload_n 0, 1) := dk_42 dg_cX9_rewind_1578.1
theorem dX9_rewind_1 : decode cX9_rewind 1 = .ok (.iconst 0, 1) := dk_3 dg_cX9_rewind_1578.2.1
theorem dX9_rewind_2 : decode cX9_rewind 2 = .ok (.putfield 19, 3) := dk_181 dg_cX9_rewind_1578.2.2.1
theorem dX9_rewind_5 : decode cX9_rewind 5 = .ok (.aload_n 0, 1) := dk_42 dg_cX9_rewind_1578.2.2.2.1
theorem dX9_rewind_6 : decode cX9_rewind 6 = .ok (.invokevirtual 22, 3) := dk_182 dg_cX9_rewind_1578.2.2.2.2.1
theorem dX9_rewind_9 : decode cX9_rewind 9 = .ok (.return_, 1) := dk_177 dg_cX9_rewind_1578.2.2.2.2.2
theorem dg_cX9_sameWord_1579 : ck1 cX9_sameWord 0 3 = true ∧ ck1 cX9_sameWord 1 62 = true ∧ ck1 cX9_sameWord 2 29 = true ∧ ck2s cX9_sameWord 3 16 8 = true ∧ ck3s cX9_sameWord 5 163 73 = true ∧ ck1 cX9_sameWord 8 42 = true ∧ ck1 cX9_sameWord 9 27 = true ∧ ck1 cX9_sameWord 10 29 = true := by decide +kernel
theorem dX9_sameWord_0 : decode cX9_sameWord 0 = .ok (.iconst 0, 1) := dk_3 dg_cX9_sameWord_1579.1
theorem dX9_sameWord_1 : decode cX9_sameWord 1 = .ok (.istore_n 3, 1) := dk_62 dg_cX9_sameWord_1579.2.1
theorem dX9_sameWord_2 : decode cX9_sameWord 2 = .ok (.iload_n 3, 1) := dk_29 dg_cX9_sameWord_1579.2.2.1
theorem dX9_sameWord_3 : decode cX9_sameWord 3 = .ok (.bipush 8, 2) := dk_16 dg_cX9_sameWord_1579.2.2.2.1
theorem dX9_sameWord_5 : decode cX9_sameWord 5 = .ok (.if_icmp .gt 73, 3) := dk_163 dg_cX9_sameWord_1579.2.2.2.2.1
theorem dX9_sameWord_8 : decode cX9_sameWord 8 = .ok (.aload_n 0, 1) := dk_42 dg_cX9_sameWord_1579.2.2.2.2.2.1
theorem dX9_sameWord_9 : decode cX9_sameWord 9 = .ok (.iload_n 1, 1) := dk_27 dg_cX9_sameWord_1579.2.2.2.2.2.2.1
theorem dX9_sameWord_10 : decode cX9_sameWord 10 = .ok (.iload_n 3, 1) := dk_29 dg_cX9_sameWord_1579.2.2.2.2.2.2.2
theorem dg_cX9_sameWord_1580 : ck1 cX9_sameWord 11 96 = true ∧ ck3 cX9_sameWord 12 182 31 = true ∧ ck3s cX9_sameWord 15 153 13 = true ∧ ck1 cX9_sameWord 18 42 = true ∧ ck1 cX9_sameWord 19 28 = true ∧ ck1 cX9_sameWord 20 29 = true ∧ ck1 cX9_sameWord 21 96 = true ∧ ck3 cX9_sameWord 22 182 31 = true := by decide +kernel
theorem dX9_sameWord_11 : decode cX9_sameWord 11 = .ok (.iadd, 1) := dk_96 dg_cX9_sameWord_1580.1
theorem dX9_sameWord_12 : decode cX9_sameWord 12 = .ok (.invokevirtual 31, 3) := dk_182 dg_cX9_sameWord_1580.2.1
theorem dX9_sameWord_15 : decode cX9_sameWord 15 = .ok (.ifCond .eq 13, 3) := dk_153 dg_cX9_sameWord_1580.2.2.1
theorem dX9_sameWord_18 : decode cX9_sameWord 18 = .ok (.aload_n 0, 1) := dk_42 dg_cX9_sameWord_1580.2.2.2.1
theorem dX9_sameWord_19 : decode cX9_sameWord 19 = .ok (.iload_n 2, 1) := dk_28 dg_cX9_sameWord_1580.2.2.2.2.1
theorem dX9_sameWord_20 : decode cX9_sameWord 20 = .ok (.iload_n 3, 1) := dk_29 dg_cX9_sameWord_1580.2.2.2.2.2.1
theorem dX9_sameWord_21 : decode cX9_sameWord 21 = .ok (.iadd, 1) := dk_96 dg_cX9_sameWord_1580.2.2.2.2.2.2.1
theorem dX9_sameWord_22 : decode cX9_sameWord 22 = .ok (.invokevirtual 31, 3) := dk_182 dg_cX9_sameWord_1580.2.2.2.2.2.2.2
theorem dg_cX9_sameWord_1581 : ck3s cX9_sameWord 25 154 26 = true ∧ ck1 cX9_sameWord 28 42 = true ∧ ck1 cX9_sameWord 29 27 = true ∧ ck1 cX9_sameWord 30 29 = true ∧ ck1 cX9_sameWord 31 96 = true ∧ ck3 cX9_sameWord 32 182 31 = true ∧ ck1 cX9_sameWord 35 42 = true ∧ ck1 cX9_sameWord 36 28 = true := by decide +kernel
theorem dX9_sameWord_25 : decode cX9_sameWord 25 = .ok (.ifCond .ne 26, 3) := dk_154 dg_cX9_sameWord_1581.1
theorem dX9_sameWord_28 : decode cX9_sameWord 28 = .ok (.aload_n 0, 1) := dk_42 dg_cX9_sameWord_1581.2.1
theorem dX9_sameWord_29 : decode cX9_sameWord 29 = .ok (.iload_n 1, 1) := dk_27 dg_cX9_sameWord_1581.2.2.1
theorem dX9_sameWord_30 : decode cX9_sameWord 30 = .ok (.iload_n 3, 1) := dk_29 dg_cX9_sameWord_1581.2.2.2.1
theorem dX9_sameWord_31 : decode cX9_sameWord 31 = .ok (.iadd, 1) := dk_96 dg_cX9_sameWord_1581.2.2.2.2.1
theorem dX9_sameWord_32 : decode cX9_sameWord 32 = .ok (.invokevirtual 31, 3) := dk_182 dg_cX9_sameWord_1581.2.2.2.2.2.1
theorem dX9_sameWord_35 : decode cX9_sameWord 35 = .ok (.aload_n 0, 1) := dk_42 dg_cX9_sameWord_1581.2.2.2.2.2.2.1
theorem dX9_sameWord_36 : decode cX9_sameWord 36 = .ok (.iload_n 2, 1) := dk_28 dg_cX9_sameWord_1581.2.2.2.2.2.2.2
theorem dg_cX9_sameWord_1582 : ck1 cX9_sameWord 37 29 = true ∧ ck1 cX9_sameWord 38 96 = true ∧ ck3 cX9_sameWord 39 182 31 = true ∧ ck3s cX9_sameWord 42 160 7 = true ∧ ck1 cX9_sameWord 45 4 = true ∧ ck3s cX9_sameWord 46 167 4 = true ∧ ck1 cX9_sameWord 49 3 = true ∧ ck1 cX9_sameWord 50 172 = true := by decide +kernel
theorem dX9_sameWord_37 : decode cX9_sameWord 37 = .ok (.iload_n 3, 1) := dk_29 dg_cX9_sameWord_1582.1
theorem dX9_sameWord_38 : decode cX9_sameWord 38 = .ok (.iadd, 1) := dk_96 dg_cX9_sameWord_1582.2.1
theorem dX9_sameWord_39 : decode cX9_sameWord 39 = .ok (.invokevirtual 31, 3) := dk_182 dg_cX9_sameWord_1582.2.2.1
theorem dX9_sameWord_42 : decode cX9_sameWord 42 = .ok (.if_icmp .ne 7, 3) := dk_160 dg_cX9_sameWord_1582.2.2.2.1
theorem dX9_sameWord_45 : decode cX9_sameWord 45 = .ok (.iconst 1, 1) := dk_4 dg_cX9_sameWord_1582.2.2.2.2.1
theorem dX9_sameWord_46 : decode cX9_sameWord 46 = .ok (.goto 4, 3) := dk_167 dg_cX9_sameWord_1582.2.2.2.2.2.1
theorem dX9_sameWord_49 : decode cX9_sameWord 49 = .ok (.iconst 0, 1) := dk_3 dg_cX9_sameWord_1582.2.2.2.2.2.2.1
theorem dX9_sameWord_50 : decode cX9_sameWord 50 = .ok (.ireturn, 1) := dk_172 dg_cX9_sameWord_1582.2.2.2.2.2.2.2
theorem dg_cX9_sameWord_1583 : ck1 cX9_sameWord 51 42 = true ∧ ck3 cX9_sameWord 52 180 9 = true ∧ ck1 cX9_sameWord 55 27 = true ∧ ck1 cX9_sameWord 56 29 = true ∧ ck1 cX9_sameWord 57 96 = true ∧ ck1 cX9_sameWord 58 51 = true ∧ ck1 cX9_sameWord 59 42 = true ∧ ck3 cX9_sameWord 60 180 9 = true := by decide +kernel
theorem dX9_sameWord_51 : decode cX9_sameWord 51 = .ok (.aload_n 0, 1) := dk_42 dg_cX9_sameWord_1583.1
theorem dX9_sameWord_52 : decode cX9_sameWord 52 = .ok (.getfield 9, 3) := dk_180 dg_cX9_sameWord_1583.2.1
theorem dX9_sameWord_55 : decode cX9_sameWord 55 = .ok (.iload_n 1, 1) := dk_27 dg_cX9_sameWord_1583.2.2.1
theorem dX9_sameWord_56 : decode cX9_sameWord 56 = .ok (.iload_n 3, 1) := dk_29 dg_cX9_sameWord_1583.2.2.2.1
theorem dX9_sameWord_57 : decode cX9_sameWord 57 = .ok (.iadd, 1) := dk_96 dg_cX9_sameWord_1583.2.2.2.2.1
theorem dX9_sameWord_58 : decode cX9_sameWord 58 = .ok (.baload, 1) := dk_51 dg_cX9_sameWord_1583.2.2.2.2.2.1
theorem dX9_sameWord_59 : decode cX9_sameWord 59 = .ok (.aload_n 0, 1) := dk_42 dg_cX9_sameWord_1583.2.2.2.2.2.2.1
theorem dX9_sameWord_60 : decode cX9_sameWord 60 = .ok (.getfield 9, 3) := dk_180 dg_cX9_sameWord_1583.2.2.2.2.2.2.2
theorem dg_cX9_sameWord_1584 : ck1 cX9_sameWord 63 28 = true := by decide +kernel
theorem dX9_sameWord_63 : decode cX9_sameWord 63 = .ok (.iload_n 2, 1) := dk_28 dg_cX9_sameWord_1584
def dS_cX9_sameWord_1 : List UInt8 := 29 :: 96 :: 51 :: 159 :: 0 :: 5 :: 3 :: 172 :: 132 :: 3 :: 1 :: 167 :: 255 :: 183 :: 4 :: 172 :: []
def dS_cX9_sameWord_0 : List UInt8 := 3 :: 62 :: 29 :: 16 :: 8 :: 163 :: 0 :: 73 :: 42 :: 27 :: 29 :: 96 :: 182 :: 0 :: 31 :: 153 :: 0 :: 13 :: 42 :: 28 :: 29 :: 96 :: 182 :: 0 :: 31 :: 154 :: 0 :: 26 :: 42 :: 27 :: 29 :: 96 :: 182 :: 0 :: 31 :: 42 :: 28 :: 29 :: 96 :: 182 :: 0 :: 31 :: 160 :: 0 :: 7 :: 4 :: 167 :: 0 :: 4 :: 3 :: 172 :: 42 :: 180 :: 0 :: 9 :: 27 :: 29 :: 96 :: 51 :: 42 :: 180 :: 0 :: 9 :: 28 :: dS_cX9_sameWord_1
theorem dT_cX9_sameWord_0 : cX9_sameWord.data.toList.drop 0 = dS_cX9_sameWord_0 := by decide +kernel
theorem dT_cX9_sameWord_1 : cX9_sameWord.data.toList.drop 64 = dS_cX9_sameWord_1 := ck_nx dT_cX9_sameWord_0 (by decide +kernel) rfl
theorem dg_cX9_sameWord_1585 : ck1L dS_cX9_sameWord_1 0 29 = true ∧ ck1L dS_cX9_sameWord_1 1 96 = true ∧ ck1L dS_cX9_sameWord_1 2 51 = true ∧ ck3sL dS_cX9_sameWord_1 3 159 5 = true ∧ ck1L dS_cX9_sameWord_1 6 3 = true ∧ ck1L dS_cX9_sameWord_1 7 172 = true ∧ ck3iL dS_cX9_sameWord_1 8 132 3 1 = true ∧ ck3sL dS_cX9_sameWord_1 11 167 (-73) = true := by decide +kernel
theorem dX9_sameWord_64 : decode cX9_sameWord 64 = .ok (.iload_n 3, 1) := dk_29 (ck1_s (r := 0) dT_cX9_sameWord_1 rfl dg_cX9_sameWord_1585.1)
theorem dX9_sameWord_65 : decode cX9_sameWord 65 = .ok (.iadd, 1) := dk_96 (ck1_s (r := 1) dT_cX9_sameWord_1 rfl dg_cX9_sameWord_1585.2.1)
theorem dX9_sameWord_66 : decode cX9_sameWord 66 = .ok (.baload, 1) := dk_51 (ck1_s (r := 2) dT_cX9_sameWord_1 rfl dg_cX9_sameWord_1585.2.2.1)
theorem dX9_sameWord_67 : decode cX9_sameWord 67 = .ok (.if_icmp .eq 5, 3) := dk_159 (ck3s_s (r := 3) dT_cX9_sameWord_1 rfl dg_cX9_sameWord_1585.2.2.2.1)
theorem dX9_sameWord_70 : decode cX9_sameWord 70 = .ok (.iconst 0, 1) := dk_3 (ck1_s (r := 6) dT_cX9_sameWord_1 rfl dg_cX9_sameWord_1585.2.2.2.2.1)
theorem dX9_sameWord_71 : decode cX9_sameWord 71 = .ok (.ireturn, 1) := dk_172 (ck1_s (r := 7) dT_cX9_sameWord_1 rfl dg_cX9_sameWord_1585.2.2.2.2.2.1)
theorem dX9_sameWord_72 : decode cX9_sameWord 72 = .ok (.iinc 3 1, 3) := dk_132 (ck3i_s (r := 8) dT_cX9_sameWord_1 rfl dg_cX9_sameWord_1585.2.2.2.2.2.2.1)
theorem dX9_sameWord_75 : decode cX9_sameWord 75 = .ok (.goto (-73), 3) := dk_167 (ck3s_s (r := 11) dT_cX9_sameWord_1 rfl dg_cX9_sameWord_1585.2.2.2.2.2.2.2)
theorem dg_cX9_sameWord_1586 : ck1L dS_cX9_sameWord_1 14 4 = true ∧ ck1L dS_cX9_sameWord_1 15 172 = true := by decide +kernel
theorem dX9_sameWord_78 : decode cX9_sameWord 78 = .ok (.iconst 1, 1) := dk_4 (ck1_s (r := 14) dT_cX9_sameWord_1 rfl dg_cX9_sameWord_1586.1)
theorem dX9_sameWord_79 : decode cX9_sameWord 79 = .ok (.ireturn, 1) := dk_172 (ck1_s (r := 15) dT_cX9_sameWord_1 rfl dg_cX9_sameWord_1586.2)
theorem dg_cX9_wordKind_1587 : ck2s cX9_wordKind 0 16 101 = true ∧ ck1 cX9_wordKind 2 60 = true ∧ ck1 cX9_wordKind 3 3 = true ∧ ck1 cX9_wordKind 4 61 = true ∧ ck1 cX9_wordKind 5 4 = true ∧ ck1 cX9_wordKind 6 62 = true ∧ ck1 cX9_wordKind 7 3 = true ∧ ck2 cX9_wordKind 8 54 4 = true := by decide +kernel
theorem dX9_wordKind_0 : decode cX9_wordKind 0 = .ok (.bipush 101, 2) := dk_16 dg_cX9_wordKind_1587.1
theorem dX9_wordKind_2 : decode cX9_wordKind 2 = .ok (.istore_n 1, 1) := dk_60 dg_cX9_wordKind_1587.2.1
theorem dX9_wordKind_3 : decode cX9_wordKind 3 = .ok (.iconst 0, 1) := dk_3 dg_cX9_wordKind_1587.2.2.1
theorem dX9_wordKind_4 : decode cX9_wordKind 4 = .ok (.istore_n 2, 1) := dk_61 dg_cX9_wordKind_1587.2.2.2.1
theorem dX9_wordKind_5 : decode cX9_wordKind 5 = .ok (.iconst 1, 1) := dk_4 dg_cX9_wordKind_1587.2.2.2.2.1
theorem dX9_wordKind_6 : decode cX9_wordKind 6 = .ok (.istore_n 3, 1) := dk_62 dg_cX9_wordKind_1587.2.2.2.2.2.1
theorem dX9_wordKind_7 : decode cX9_wordKind 7 = .ok (.iconst 0, 1) := dk_3 dg_cX9_wordKind_1587.2.2.2.2.2.2.1
theorem dX9_wordKind_8 : decode cX9_wordKind 8 = .ok (.istore 4, 2) := dk_54 dg_cX9_wordKind_1587.2.2.2.2.2.2.2
theorem dg_cX9_wordKind_1588 : ck2 cX9_wordKind 10 21 4 = true ∧ ck2 cX9_wordKind 12 18 53 = true ∧ ck3 cX9_wordKind 14 182 55 = true ∧ ck3s cX9_wordKind 17 162 95 = true ∧ ck2 cX9_wordKind 20 18 53 = true ∧ ck2 cX9_wordKind 22 21 4 = true ∧ ck3 cX9_wordKind 24 182 58 = true ∧ ck2 cX9_wordKind 27 54 5 = true := by decide +kernel
theorem dX9_wordKind_10 : decode cX9_wordKind 10 = .ok (.iload 4, 2) := dk_21 dg_cX9_wordKind_1588.1
theorem dX9_wordKind_12 : decode cX9_wordKind 12 = .ok (.ldc 53, 2) := dk_18 dg_cX9_wordKind_1588.2.1
theorem dX9_wordKind_14 : decode cX9_wordKind 14 = .ok (.invokevirtual 55, 3) := dk_182 dg_cX9_wordKind_1588.2.2.1
theorem dX9_wordKind_17 : decode cX9_wordKind 17 = .ok (.if_icmp .ge 95, 3) := dk_162 dg_cX9_wordKind_1588.2.2.2.1
theorem dX9_wordKind_20 : decode cX9_wordKind 20 = .ok (.ldc 53, 2) := dk_18 dg_cX9_wordKind_1588.2.2.2.2.1
theorem dX9_wordKind_22 : decode cX9_wordKind 22 = .ok (.iload 4, 2) := dk_21 dg_cX9_wordKind_1588.2.2.2.2.2.1
theorem dX9_wordKind_24 : decode cX9_wordKind 24 = .ok (.invokevirtual 58, 3) := dk_182 dg_cX9_wordKind_1588.2.2.2.2.2.2.1
theorem dX9_wordKind_27 : decode cX9_wordKind 27 = .ok (.istore 5, 2) := dk_54 dg_cX9_wordKind_1588.2.2.2.2.2.2.2
theorem dg_cX9_wordKind_1589 : ck1 cX9_wordKind 29 42 = true ∧ ck3 cX9_wordKind 30 180 25 = true ∧ ck2 cX9_wordKind 33 21 4 = true ∧ ck1 cX9_wordKind 35 96 = true ∧ ck1 cX9_wordKind 36 28 = true ∧ ck1 cX9_wordKind 37 100 = true ∧ ck2 cX9_wordKind 38 54 6 = true ∧ ck2 cX9_wordKind 40 21 5 = true := by decide +kernel
theorem dX9_wordKind_29 : decode cX9_wordKind 29 = .ok (.aload_n 0, 1) := dk_42 dg_cX9_wordKind_1589.1
theorem dX9_wordKind_30 : decode cX9_wordKind 30 = .ok (.getfield 25, 3) := dk_180 dg_cX9_wordKind_1589.2.1
theorem dX9_wordKind_33 : decode cX9_wordKind 33 = .ok (.iload 4, 2) := dk_21 dg_cX9_wordKind_1589.2.2.1
theorem dX9_wordKind_35 : decode cX9_wordKind 35 = .ok (.iadd, 1) := dk_96 dg_cX9_wordKind_1589.2.2.2.1
theorem dX9_wordKind_36 : decode cX9_wordKind 36 = .ok (.iload_n 2, 1) := dk_28 dg_cX9_wordKind_1589.2.2.2.2.1
theorem dX9_wordKind_37 : decode cX9_wordKind 37 = .ok (.isub, 1) := dk_100 dg_cX9_wordKind_1589.2.2.2.2.2.1
theorem dX9_wordKind_38 : decode cX9_wordKind 38 = .ok (.istore 6, 2) := dk_54 dg_cX9_wordKind_1589.2.2.2.2.2.2.1
theorem dX9_wordKind_40 : decode cX9_wordKind 40 = .ok (.iload 5, 2) := dk_21 dg_cX9_wordKind_1589.2.2.2.2.2.2.2
theorem dg_cX9_wordKind_1590 : ck2s cX9_wordKind 42 16 32 = true ∧ ck3s cX9_wordKind 44 159 37 = true ∧ ck1 cX9_wordKind 47 29 = true ∧ ck3s cX9_wordKind 48 153 28 = true ∧ ck2 cX9_wordKind 51 21 6 = true ∧ ck1 cX9_wordKind 53 42 = true ∧ ck3 cX9_wordKind 54 180 19 = true ∧ ck3s cX9_wordKind 57 162 19 = true := by decide +kernel
theorem dX9_wordKind_42 : decode cX9_wordKind 42 = .ok (.bipush 32, 2) := dk_16 dg_cX9_wordKind_1590.1
theorem dX9_wordKind_44 : decode cX9_wordKind 44 = .ok (.if_icmp .eq 37, 3) := dk_159 dg_cX9_wordKind_1590.2.1
theorem dX9_wordKind_47 : decode cX9_wordKind 47 = .ok (.iload_n 3, 1) := dk_29 dg_cX9_wordKind_1590.2.2.1
theorem dX9_wordKind_48 : decode cX9_wordKind 48 = .ok (.ifCond .eq 28, 3) := dk_153 dg_cX9_wordKind_1590.2.2.2.1
theorem dX9_wordKind_51 : decode cX9_wordKind 51 = .ok (.iload 6, 2) := dk_21 dg_cX9_wordKind_1590.2.2.2.2.1
theorem dX9_wordKind_53 : decode cX9_wordKind 53 = .ok (.aload_n 0, 1) := dk_42 dg_cX9_wordKind_1590.2.2.2.2.2.1
theorem dX9_wordKind_54 : decode cX9_wordKind 54 = .ok (.getfield 19, 3) := dk_180 dg_cX9_wordKind_1590.2.2.2.2.2.2.1
theorem dX9_wordKind_57 : decode cX9_wordKind 57 = .ok (.if_icmp .ge 19, 3) := dk_162 dg_cX9_wordKind_1590.2.2.2.2.2.2.2
theorem dg_cX9_wordKind_1591 : ck1 cX9_wordKind 60 42 = true ∧ ck3 cX9_wordKind 61 180 9 = true := by decide +kernel
theorem dX9_wordKind_60 : decode cX9_wordKind 60 = .ok (.aload_n 0, 1) := dk_42 dg_cX9_wordKind_1591.1
theorem dX9_wordKind_61 : decode cX9_wordKind 61 = .ok (.getfield 9, 3) := dk_180 dg_cX9_wordKind_1591.2
def dS_cX9_wordKind_1 : List UInt8 := 21 :: 6 :: 51 :: 21 :: 5 :: 160 :: 0 :: 7 :: 4 :: 167 :: 0 :: 4 :: 3 :: 62 :: 167 :: 0 :: 28 :: 29 :: 153 :: 0 :: 14 :: 21 :: 6 :: 42 :: 180 :: 0 :: 19 :: 160 :: 0 :: 5 :: 27 :: 172 :: 132 :: 1 :: 1 :: 21 :: 4 :: 4 :: 96 :: 61 :: 4 :: 62 :: 132 :: 4 :: 1 :: 167 :: 255 :: 157 :: 6 :: 172 :: []
def dS_cX9_wordKind_0 : List UInt8 := 16 :: 101 :: 60 :: 3 :: 61 :: 4 :: 62 :: 3 :: 54 :: 4 :: 21 :: 4 :: 18 :: 53 :: 182 :: 0 :: 55 :: 162 :: 0 :: 95 :: 18 :: 53 :: 21 :: 4 :: 182 :: 0 :: 58 :: 54 :: 5 :: 42 :: 180 :: 0 :: 25 :: 21 :: 4 :: 96 :: 28 :: 100 :: 54 :: 6 :: 21 :: 5 :: 16 :: 32 :: 159 :: 0 :: 37 :: 29 :: 153 :: 0 :: 28 :: 21 :: 6 :: 42 :: 180 :: 0 :: 19 :: 162 :: 0 :: 19 :: 42 :: 180 :: 0 :: 9 :: dS_cX9_wordKind_1
theorem dT_cX9_wordKind_0 : cX9_wordKind.data.toList.drop 0 = dS_cX9_wordKind_0 := by decide +kernel
theorem dT_cX9_wordKind_1 : cX9_wordKind.data.toList.drop 64 = dS_cX9_wordKind_1 := ck_nx dT_cX9_wordKind_0 (by decide +kernel) rfl
theorem dg_cX9_wordKind_1592 : ck2L dS_cX9_wordKind_1 0 21 6 = true ∧ ck1L dS_cX9_wordKind_1 2 51 = true ∧ ck2L dS_cX9_wordKind_1 3 21 5 = true ∧ ck3sL dS_cX9_wordKind_1 5 160 7 = true ∧ ck1L dS_cX9_wordKind_1 8 4 = true ∧ ck3sL dS_cX9_wordKind_1 9 167 4 = true ∧ ck1L dS_cX9_wordKind_1 12 3 = true ∧ ck1L dS_cX9_wordKind_1 13 62 = true := by decide +kernel
theorem dX9_wordKind_64 : decode cX9_wordKind 64 = .ok (.iload 6, 2) := dk_21 (ck2_s (r := 0) dT_cX9_wordKind_1 rfl dg_cX9_wordKind_1592.1)
theorem dX9_wordKind_66 : decode cX9_wordKind 66 = .ok (.baload, 1) := dk_51 (ck1_s (r := 2) dT_cX9_wordKind_1 rfl dg_cX9_wordKind_1592.2.1)
theorem dX9_wordKind_67 : decode cX9_wordKind 67 = .ok (.iload 5, 2) := dk_21 (ck2_s (r := 3) dT_cX9_wordKind_1 rfl dg_cX9_wordKind_1592.2.2.1)
theorem dX9_wordKind_69 : decode cX9_wordKind 69 = .ok (.if_icmp .ne 7, 3) := dk_160 (ck3s_s (r := 5) dT_cX9_wordKind_1 rfl dg_cX9_wordKind_1592.2.2.2.1)
theorem dX9_wordKind_72 : decode cX9_wordKind 72 = .ok (.iconst 1, 1) := dk_4 (ck1_s (r := 8) dT_cX9_wordKind_1 rfl dg_cX9_wordKind_1592.2.2.2.2.1)
theorem dX9_wordKind_73 : decode cX9_wordKind 73 = .ok (.goto 4, 3) := dk_167 (ck3s_s (r := 9) dT_cX9_wordKind_1 rfl dg_cX9_wordKind_1592.2.2.2.2.2.1)
theorem dX9_wordKind_76 : decode cX9_wordKind 76 = .ok (.iconst 0, 1) := dk_3 (ck1_s (r := 12) dT_cX9_wordKind_1 rfl dg_cX9_wordKind_1592.2.2.2.2.2.2.1)
theorem dX9_wordKind_77 : decode cX9_wordKind 77 = .ok (.istore_n 3, 1) := dk_62 (ck1_s (r := 13) dT_cX9_wordKind_1 rfl dg_cX9_wordKind_1592.2.2.2.2.2.2.2)
theorem dg_cX9_wordKind_1593 : ck3sL dS_cX9_wordKind_1 14 167 28 = true ∧ ck1L dS_cX9_wordKind_1 17 29 = true ∧ ck3sL dS_cX9_wordKind_1 18 153 14 = true ∧ ck2L dS_cX9_wordKind_1 21 21 6 = true ∧ ck1L dS_cX9_wordKind_1 23 42 = true ∧ ck3L dS_cX9_wordKind_1 24 180 19 = true ∧ ck3sL dS_cX9_wordKind_1 27 160 5 = true ∧ ck1L dS_cX9_wordKind_1 30 27 = true := by decide +kernel
theorem dX9_wordKind_78 : decode cX9_wordKind 78 = .ok (.goto 28, 3) := dk_167 (ck3s_s (r := 14) dT_cX9_wordKind_1 rfl dg_cX9_wordKind_1593.1)
theorem dX9_wordKind_81 : decode cX9_wordKind 81 = .ok (.iload_n 3, 1) := dk_29 (ck1_s (r := 17) dT_cX9_wordKind_1 rfl dg_cX9_wordKind_1593.2.1)
theorem dX9_wordKind_82 : decode cX9_wordKind 82 = .ok (.ifCond .eq 14, 3) := dk_153 (ck3s_s (r := 18) dT_cX9_wordKind_1 rfl dg_cX9_wordKind_1593.2.2.1)
theorem dX9_wordKind_85 : decode cX9_wordKind 85 = .ok (.iload 6, 2) := dk_21 (ck2_s (r := 21) dT_cX9_wordKind_1 rfl dg_cX9_wordKind_1593.2.2.2.1)
theorem dX9_wordKind_87 : decode cX9_wordKind 87 = .ok (.aload_n 0, 1) := dk_42 (ck1_s (r := 23) dT_cX9_wordKind_1 rfl dg_cX9_wordKind_1593.2.2.2.2.1)
theorem dX9_wordKind_88 : decode cX9_wordKind 88 = .ok (.getfield 19, 3) := dk_180 (ck3_s (r := 24) dT_cX9_wordKind_1 rfl dg_cX9_wordKind_1593.2.2.2.2.2.1)
theorem dX9_wordKind_91 : decode cX9_wordKind 91 = .ok (.if_icmp .ne 5, 3) := dk_160 (ck3s_s (r := 27) dT_cX9_wordKind_1 rfl dg_cX9_wordKind_1593.2.2.2.2.2.2.1)
theorem dX9_wordKind_94 : decode cX9_wordKind 94 = .ok (.iload_n 1, 1) := dk_27 (ck1_s (r := 30) dT_cX9_wordKind_1 rfl dg_cX9_wordKind_1593.2.2.2.2.2.2.2)
theorem dg_cX9_wordKind_1594 : ck1L dS_cX9_wordKind_1 31 172 = true ∧ ck3iL dS_cX9_wordKind_1 32 132 1 1 = true ∧ ck2L dS_cX9_wordKind_1 35 21 4 = true ∧ ck1L dS_cX9_wordKind_1 37 4 = true ∧ ck1L dS_cX9_wordKind_1 38 96 = true ∧ ck1L dS_cX9_wordKind_1 39 61 = true ∧ ck1L dS_cX9_wordKind_1 40 4 = true ∧ ck1L dS_cX9_wordKind_1 41 62 = true := by decide +kernel
theorem dX9_wordKind_95 : decode cX9_wordKind 95 = .ok (.ireturn, 1) := dk_172 (ck1_s (r := 31) dT_cX9_wordKind_1 rfl dg_cX9_wordKind_1594.1)
theorem dX9_wordKind_96 : decode cX9_wordKind 96 = .ok (.iinc 1 1, 3) := dk_132 (ck3i_s (r := 32) dT_cX9_wordKind_1 rfl dg_cX9_wordKind_1594.2.1)
theorem dX9_wordKind_99 : decode cX9_wordKind 99 = .ok (.iload 4, 2) := dk_21 (ck2_s (r := 35) dT_cX9_wordKind_1 rfl dg_cX9_wordKind_1594.2.2.1)
theorem dX9_wordKind_101 : decode cX9_wordKind 101 = .ok (.iconst 1, 1) := dk_4 (ck1_s (r := 37) dT_cX9_wordKind_1 rfl dg_cX9_wordKind_1594.2.2.2.1)
theorem dX9_wordKind_102 : decode cX9_wordKind 102 = .ok (.iadd, 1) := dk_96 (ck1_s (r := 38) dT_cX9_wordKind_1 rfl dg_cX9_wordKind_1594.2.2.2.2.1)
theorem dX9_wordKind_103 : decode cX9_wordKind 103 = .ok (.istore_n 2, 1) := dk_61 (ck1_s (r := 39) dT_cX9_wordKind_1 rfl dg_cX9_wordKind_1594.2.2.2.2.2.1)
theorem dX9_wordKind_104 : decode cX9_wordKind 104 = .ok (.iconst 1, 1) := dk_4 (ck1_s (r := 40) dT_cX9_wordKind_1 rfl dg_cX9_wordKind_1594.2.2.2.2.2.2.1)
theorem dX9_wordKind_105 : decode cX9_wordKind 105 = .ok (.istore_n 3, 1) := dk_62 (ck1_s (r := 41) dT_cX9_wordKind_1 rfl dg_cX9_wordKind_1594.2.2.2.2.2.2.2)
theorem dg_cX9_wordKind_1595 : ck3iL dS_cX9_wordKind_1 42 132 4 1 = true ∧ ck3sL dS_cX9_wordKind_1 45 167 (-99) = true ∧ ck1L dS_cX9_wordKind_1 48 6 = true ∧ ck1L dS_cX9_wordKind_1 49 172 = true := by decide +kernel
theorem dX9_wordKind_106 : decode cX9_wordKind 106 = .ok (.iinc 4 1, 3) := dk_132 (ck3i_s (r := 42) dT_cX9_wordKind_1 rfl dg_cX9_wordKind_1595.1)
theorem dX9_wordKind_109 : decode cX9_wordKind 109 = .ok (.goto (-99), 3) := dk_167 (ck3s_s (r := 45) dT_cX9_wordKind_1 rfl dg_cX9_wordKind_1595.2.1)
theorem dX9_wordKind_112 : decode cX9_wordKind 112 = .ok (.iconst 3, 1) := dk_6 (ck1_s (r := 48) dT_cX9_wordKind_1 rfl dg_cX9_wordKind_1595.2.2.1)
theorem dX9_wordKind_113 : decode cX9_wordKind 113 = .ok (.ireturn, 1) := dk_172 (ck1_s (r := 49) dT_cX9_wordKind_1 rfl dg_cX9_wordKind_1595.2.2.2)
