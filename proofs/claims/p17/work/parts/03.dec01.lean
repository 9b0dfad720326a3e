theorem dX10_turn_52 : decode cX10_turn 52 = .ok (.invokevirtual 170, 3) := dk_182 dg_cX10_turn_352.2.2.2.2.2.2.1
theorem dX10_turn_55 : decode cX10_turn 55 = .ok (.aload_n 0, 1) := dk_42 dg_cX10_turn_352.2.2.2.2.2.2.2
theorem dg_cX10_turn_353 : ck3 cX10_turn 56 180 46 = true ∧ ck3 cX10_turn 59 182 160 = true ∧ ck1 cX10_turn 62 28 = true ∧ ck1 cX10_turn 63 172 = true := by decide +kernel
theorem dX10_turn_56 : decode cX10_turn 56 = .ok (.getfield 46, 3) := dk_180 dg_cX10_turn_353.1
theorem dX10_turn_59 : decode cX10_turn 59 = .ok (.invokevirtual 160, 3) := dk_182 dg_cX10_turn_353.2.1
theorem dX10_turn_62 : decode cX10_turn 62 = .ok (.iload_n 2, 1) := dk_28 dg_cX10_turn_353.2.2.1
theorem dX10_turn_63 : decode cX10_turn 63 = .ok (.ireturn, 1) := dk_172 dg_cX10_turn_353.2.2.2
theorem dg_cX10_turning_354 : ck1 cX10_turning 0 42 = true ∧ ck3 cX10_turning 1 180 55 = true ∧ ck3 cX10_turning 4 182 258 = true ∧ ck1 cX10_turning 7 172 = true := by decide +kernel
theorem dX10_turning_0 : decode cX10_turning 0 = .ok (.aload_n 0, 1) := dk_42 dg_cX10_turning_354.1
theorem dX10_turning_1 : decode cX10_turning 1 = .ok (.getfield 55, 3) := dk_180 dg_cX10_turning_354.2.1
theorem dX10_turning_4 : decode cX10_turning 4 = .ok (.invokevirtual 258, 3) := dk_182 dg_cX10_turning_354.2.2.1
theorem dX10_turning_7 : decode cX10_turning 7 = .ok (.ireturn, 1) := dk_172 dg_cX10_turning_354.2.2.2
theorem dg_cX10_undo_355 : ck1 cX10_undo 0 42 = true ∧ ck3 cX10_undo 1 180 46 = true ∧ ck3 cX10_undo 4 182 174 = true ∧ ck1 cX10_undo 7 172 = true := by decide +kernel
theorem dX10_undo_0 : decode cX10_undo 0 = .ok (.aload_n 0, 1) := dk_42 dg_cX10_undo_355.1
theorem dX10_undo_1 : decode cX10_undo 1 = .ok (.getfield 46, 3) := dk_180 dg_cX10_undo_355.2.1
theorem dX10_undo_4 : decode cX10_undo 4 = .ok (.invokevirtual 174, 3) := dk_182 dg_cX10_undo_355.2.2.1
theorem dX10_undo_7 : decode cX10_undo 7 = .ok (.ireturn, 1) := dk_172 dg_cX10_undo_355.2.2.2
theorem dg_cX10_untell_356 : ck1 cX10_untell 0 42 = true ∧ ck3 cX10_untell 1 180 76 = true ∧ ck1 cX10_untell 4 27 = true ∧ ck1 cX10_untell 5 42 = true ∧ ck3 cX10_untell 6 180 288 = true ∧ ck3 cX10_untell 9 182 295 = true ∧ ck1 cX10_untell 12 172 = true := by decide +kernel
theorem dX10_untell_0 : decode cX10_untell 0 = .ok (.aload_n 0, 1) := dk_42 dg_cX10_untell_356.1
theorem dX10_untell_1 : decode cX10_untell 1 = .ok (.getfield 76, 3) := dk_180 dg_cX10_untell_356.2.1
theorem dX10_untell_4 : decode cX10_untell 4 = .ok (.iload_n 1, 1) := dk_27 dg_cX10_untell_356.2.2.1
theorem dX10_untell_5 : decode cX10_untell 5 = .ok (.aload_n 0, 1) := dk_42 dg_cX10_untell_356.2.2.2.1
theorem dX10_untell_6 : decode cX10_untell 6 = .ok (.getfield 288, 3) := dk_180 dg_cX10_untell_356.2.2.2.2.1
theorem dX10_untell_9 : decode cX10_untell 9 = .ok (.invokevirtual 295, 3) := dk_182 dg_cX10_untell_356.2.2.2.2.2.1
theorem dX10_untell_12 : decode cX10_untell 12 = .ok (.ireturn, 1) := dk_172 dg_cX10_untell_356.2.2.2.2.2.2
theorem dg_cX10_widen_357 : ck1 cX10_widen 0 42 = true ∧ ck3 cX10_widen 1 180 37 = true ∧ ck1 cX10_widen 4 4 = true ∧ ck1 cX10_widen 5 27 = true ∧ ck3 cX10_widen 6 182 144 = true ∧ ck1 cX10_widen 9 28 = true ∧ ck1 cX10_widen 10 96 = true ∧ ck1 cX10_widen 11 62 = true := by decide +kernel
theorem dX10_widen_0 : decode cX10_widen 0 = .ok (.aload_n 0, 1) := dk_42 dg_cX10_widen_357.1
theorem dX10_widen_1 : decode cX10_widen 1 = .ok (.getfield 37, 3) := dk_180 dg_cX10_widen_357.2.1
theorem dX10_widen_4 : decode cX10_widen 4 = .ok (.iconst 1, 1) := dk_4 dg_cX10_widen_357.2.2.1
theorem dX10_widen_5 : decode cX10_widen 5 = .ok (.iload_n 1, 1) := dk_27 dg_cX10_widen_357.2.2.2.1
theorem dX10_widen_6 : decode cX10_widen 6 = .ok (.invokevirtual 144, 3) := dk_182 dg_cX10_widen_357.2.2.2.2.1
theorem dX10_widen_9 : decode cX10_widen 9 = .ok (.iload_n 2, 1) := dk_28 dg_cX10_widen_357.2.2.2.2.2.1
theorem dX10_widen_10 : decode cX10_widen 10 = .ok (.iadd, 1) := dk_96 dg_cX10_widen_357.2.2.2.2.2.2.1
theorem dX10_widen_11 : decode cX10_widen 11 = .ok (.istore_n 3, 1) := dk_62 dg_cX10_widen_357.2.2.2.2.2.2.2
theorem dg_cX10_widen_358 : ck1 cX10_widen 12 42 = true ∧ ck3 cX10_widen 13 180 37 = true ∧ ck1 cX10_widen 16 5 = true ∧ ck1 cX10_widen 17 27 = true ∧ ck3 cX10_widen 18 182 144 = true ∧ ck1 cX10_widen 21 28 = true ∧ ck1 cX10_widen 22 100 = true ∧ ck2 cX10_widen 23 54 4 = true := by decide +kernel
theorem dX10_widen_12 : decode cX10_widen 12 = .ok (.aload_n 0, 1) := dk_42 dg_cX10_widen_358.1
theorem dX10_widen_13 : decode cX10_widen 13 = .ok (.getfield 37, 3) := dk_180 dg_cX10_widen_358.2.1
theorem dX10_widen_16 : decode cX10_widen 16 = .ok (.iconst 2, 1) := dk_5 dg_cX10_widen_358.2.2.1
theorem dX10_widen_17 : decode cX10_widen 17 = .ok (.iload_n 1, 1) := dk_27 dg_cX10_widen_358.2.2.2.1
theorem dX10_widen_18 : decode cX10_widen 18 = .ok (.invokevirtual 144, 3) := dk_182 dg_cX10_widen_358.2.2.2.2.1
theorem dX10_widen_21 : decode cX10_widen 21 = .ok (.iload_n 2, 1) := dk_28 dg_cX10_widen_358.2.2.2.2.2.1
theorem dX10_widen_22 : decode cX10_widen 22 = .ok (.isub, 1) := dk_100 dg_cX10_widen_358.2.2.2.2.2.2.1
theorem dX10_widen_23 : decode cX10_widen 23 = .ok (.istore 4, 2) := dk_54 dg_cX10_widen_358.2.2.2.2.2.2.2
theorem dg_cX10_widen_359 : ck1 cX10_widen 25 29 = true ∧ ck2s cX10_widen 26 16 99 = true ∧ ck3s cX10_widen 28 163 10 = true ∧ ck2 cX10_widen 31 21 4 = true ∧ ck2s cX10_widen 33 16 99 = true ∧ ck3s cX10_widen 35 164 5 = true ∧ ck1 cX10_widen 38 2 = true ∧ ck1 cX10_widen 39 172 = true := by decide +kernel
theorem dX10_widen_25 : decode cX10_widen 25 = .ok (.iload_n 3, 1) := dk_29 dg_cX10_widen_359.1
theorem dX10_widen_26 : decode cX10_widen 26 = .ok (.bipush 99, 2) := dk_16 dg_cX10_widen_359.2.1
theorem dX10_widen_28 : decode cX10_widen 28 = .ok (.if_icmp .gt 10, 3) := dk_163 dg_cX10_widen_359.2.2.1
theorem dX10_widen_31 : decode cX10_widen 31 = .ok (.iload 4, 2) := dk_21 dg_cX10_widen_359.2.2.2.1
theorem dX10_widen_33 : decode cX10_widen 33 = .ok (.bipush 99, 2) := dk_16 dg_cX10_widen_359.2.2.2.2.1
theorem dX10_widen_35 : decode cX10_widen 35 = .ok (.if_icmp .le 5, 3) := dk_164 dg_cX10_widen_359.2.2.2.2.2.1
theorem dX10_widen_38 : decode cX10_widen 38 = .ok (.iconst (-1), 1) := dk_2 dg_cX10_widen_359.2.2.2.2.2.2.1
theorem dX10_widen_39 : decode cX10_widen 39 = .ok (.ireturn, 1) := dk_172 dg_cX10_widen_359.2.2.2.2.2.2.2
theorem dg_cX10_widen_360 : ck1 cX10_widen 40 42 = true ∧ ck3 cX10_widen 41 180 37 = true ∧ ck1 cX10_widen 44 4 = true ∧ ck1 cX10_widen 45 27 = true ∧ ck1 cX10_widen 46 29 = true ∧ ck3 cX10_widen 47 182 170 = true ∧ ck1 cX10_widen 50 42 = true ∧ ck3 cX10_widen 51 180 37 = true := by decide +kernel
theorem dX10_widen_40 : decode cX10_widen 40 = .ok (.aload_n 0, 1) := dk_42 dg_cX10_widen_360.1
theorem dX10_widen_41 : decode cX10_widen 41 = .ok (.getfield 37, 3) := dk_180 dg_cX10_widen_360.2.1
theorem dX10_widen_44 : decode cX10_widen 44 = .ok (.iconst 1, 1) := dk_4 dg_cX10_widen_360.2.2.1
theorem dX10_widen_45 : decode cX10_widen 45 = .ok (.iload_n 1, 1) := dk_27 dg_cX10_widen_360.2.2.2.1
theorem dX10_widen_46 : decode cX10_widen 46 = .ok (.iload_n 3, 1) := dk_29 dg_cX10_widen_360.2.2.2.2.1
theorem dX10_widen_47 : decode cX10_widen 47 = .ok (.invokevirtual 170, 3) := dk_182 dg_cX10_widen_360.2.2.2.2.2.1
theorem dX10_widen_50 : decode cX10_widen 50 = .ok (.aload_n 0, 1) := dk_42 dg_cX10_widen_360.2.2.2.2.2.2.1
theorem dX10_widen_51 : decode cX10_widen 51 = .ok (.getfield 37, 3) := dk_180 dg_cX10_widen_360.2.2.2.2.2.2.2
theorem dg_cX10_widen_361 : ck1 cX10_widen 54 5 = true ∧ ck1 cX10_widen 55 27 = true ∧ ck2 cX10_widen 56 21 4 = true ∧ ck3 cX10_widen 58 182 170 = true ∧ ck1 cX10_widen 61 42 = true ∧ ck3 cX10_widen 62 180 46 = true := by decide +kernel
theorem dX10_widen_54 : decode cX10_widen 54 = .ok (.iconst 2, 1) := dk_5 dg_cX10_widen_361.1
theorem dX10_widen_55 : decode cX10_widen 55 = .ok (.iload_n 1, 1) := dk_27 dg_cX10_widen_361.2.1
theorem dX10_widen_56 : decode cX10_widen 56 = .ok (.iload 4, 2) := dk_21 dg_cX10_widen_361.2.2.1
theorem dX10_widen_58 : decode cX10_widen 58 = .ok (.invokevirtual 170, 3) := dk_182 dg_cX10_widen_361.2.2.2.1
theorem dX10_widen_61 : decode cX10_widen 61 = .ok (.aload_n 0, 1) := dk_42 dg_cX10_widen_361.2.2.2.2.1
theorem dX10_widen_62 : decode cX10_widen 62 = .ok (.getfield 46, 3) := dk_180 dg_cX10_widen_361.2.2.2.2.2
def dS_cX10_widen_1 : List UInt8 := 46 :: 182 :: 0 :: 160 :: 29 :: 172 :: []
def dS_cX10_widen_0 : List UInt8 := 42 :: 180 :: 0 :: 37 :: 4 :: 27 :: 182 :: 0 :: 144 :: 28 :: 96 :: 62 :: 42 :: 180 :: 0 :: 37 :: 5 :: 27 :: 182 :: 0 :: 144 :: 28 :: 100 :: 54 :: 4 :: 29 :: 16 :: 99 :: 163 :: 0 :: 10 :: 21 :: 4 :: 16 :: 99 :: 164 :: 0 :: 5 :: 2 :: 172 :: 42 :: 180 :: 0 :: 37 :: 4 :: 27 :: 29 :: 182 :: 0 :: 170 :: 42 :: 180 :: 0 :: 37 :: 5 :: 27 :: 21 :: 4 :: 182 :: 0 :: 170 :: 42 :: 180 :: 0 :: dS_cX10_widen_1
theorem dT_cX10_widen_0 : cX10_widen.data.toList.drop 0 = dS_cX10_widen_0 := by decide +kernel
theorem dT_cX10_widen_1 : cX10_widen.data.toList.drop 64 = dS_cX10_widen_1 := ck_nx dT_cX10_widen_0 (by decide +kernel) rfl
theorem dg_cX10_widen_362 : ck3L dS_cX10_widen_1 1 182 160 = true ∧ ck1L dS_cX10_widen_1 4 29 = true ∧ ck1L dS_cX10_widen_1 5 172 = true := by decide +kernel
theorem dX10_widen_65 : decode cX10_widen 65 = .ok (.invokevirtual 160, 3) := dk_182 (ck3_s (r := 1) dT_cX10_widen_1 rfl dg_cX10_widen_362.1)
theorem dX10_widen_68 : decode cX10_widen 68 = .ok (.iload_n 3, 1) := dk_29 (ck1_s (r := 4) dT_cX10_widen_1 rfl dg_cX10_widen_362.2.1)
theorem dX10_widen_69 : decode cX10_widen 69 = .ok (.ireturn, 1) := dk_172 (ck1_s (r := 5) dT_cX10_widen_1 rfl dg_cX10_widen_362.2.2)
theorem dg_cX10_will_363 : ck1 cX10_will 0 42 = true ∧ ck3 cX10_will 1 180 28 = true ∧ ck1 cX10_will 4 27 = true ∧ ck3 cX10_will 5 182 120 = true ∧ ck3s cX10_will 8 153 22 = true ∧ ck1 cX10_will 11 28 = true ∧ ck3s cX10_will 12 155 18 = true ∧ ck1 cX10_will 15 28 = true := by decide +kernel
theorem dX10_will_0 : decode cX10_will 0 = .ok (.aload_n 0, 1) := dk_42 dg_cX10_will_363.1
theorem dX10_will_1 : decode cX10_will 1 = .ok (.getfield 28, 3) := dk_180 dg_cX10_will_363.2.1
theorem dX10_will_4 : decode cX10_will 4 = .ok (.iload_n 1, 1) := dk_27 dg_cX10_will_363.2.2.1
theorem dX10_will_5 : decode cX10_will 5 = .ok (.invokevirtual 120, 3) := dk_182 dg_cX10_will_363.2.2.2.1
theorem dX10_will_8 : decode cX10_will 8 = .ok (.ifCond .eq 22, 3) := dk_153 dg_cX10_will_363.2.2.2.2.1
theorem dX10_will_11 : decode cX10_will 11 = .ok (.iload_n 2, 1) := dk_28 dg_cX10_will_363.2.2.2.2.2.1
theorem dX10_will_12 : decode cX10_will 12 = .ok (.ifCond .lt 18, 3) := dk_155 dg_cX10_will_363.2.2.2.2.2.2.1
theorem dX10_will_15 : decode cX10_will 15 = .ok (.iload_n 2, 1) := dk_28 dg_cX10_will_363.2.2.2.2.2.2.2
theorem dg_cX10_will_364 : ck2s cX10_will 16 16 60 = true ∧ ck3s cX10_will 18 163 12 = true ∧ ck1 cX10_will 21 29 = true ∧ ck3s cX10_will 22 155 8 = true ∧ ck1 cX10_will 25 29 = true ∧ ck1 cX10_will 26 4 = true ∧ ck3s cX10_will 27 164 6 = true ∧ ck2s cX10_will 30 16 (-2) = true := by decide +kernel
theorem dX10_will_16 : decode cX10_will 16 = .ok (.bipush 60, 2) := dk_16 dg_cX10_will_364.1
theorem dX10_will_18 : decode cX10_will 18 = .ok (.if_icmp .gt 12, 3) := dk_163 dg_cX10_will_364.2.1
theorem dX10_will_21 : decode cX10_will 21 = .ok (.iload_n 3, 1) := dk_29 dg_cX10_will_364.2.2.1
theorem dX10_will_22 : decode cX10_will 22 = .ok (.ifCond .lt 8, 3) := dk_155 dg_cX10_will_364.2.2.2.1
theorem dX10_will_25 : decode cX10_will 25 = .ok (.iload_n 3, 1) := dk_29 dg_cX10_will_364.2.2.2.2.1
theorem dX10_will_26 : decode cX10_will 26 = .ok (.iconst 1, 1) := dk_4 dg_cX10_will_364.2.2.2.2.2.1
theorem dX10_will_27 : decode cX10_will 27 = .ok (.if_icmp .le 6, 3) := dk_164 dg_cX10_will_364.2.2.2.2.2.2.1
theorem dX10_will_30 : decode cX10_will 30 = .ok (.bipush (-2), 2) := dk_16 dg_cX10_will_364.2.2.2.2.2.2.2
theorem dg_cX10_will_365 : ck1 cX10_will 32 172 = true ∧ ck1 cX10_will 33 42 = true ∧ ck3 cX10_will 34 180 55 = true ∧ ck1 cX10_will 37 27 = true ∧ ck1 cX10_will 38 28 = true ∧ ck1 cX10_will 39 29 = true ∧ ck1 cX10_will 40 4 = true ∧ ck3s cX10_will 41 160 13 = true := by decide +kernel
theorem dX10_will_32 : decode cX10_will 32 = .ok (.ireturn, 1) := dk_172 dg_cX10_will_365.1
theorem dX10_will_33 : decode cX10_will 33 = .ok (.aload_n 0, 1) := dk_42 dg_cX10_will_365.2.1
theorem dX10_will_34 : decode cX10_will 34 = .ok (.getfield 55, 3) := dk_180 dg_cX10_will_365.2.2.1
theorem dX10_will_37 : decode cX10_will 37 = .ok (.iload_n 1, 1) := dk_27 dg_cX10_will_365.2.2.2.1
theorem dX10_will_38 : decode cX10_will 38 = .ok (.iload_n 2, 1) := dk_28 dg_cX10_will_365.2.2.2.2.1
theorem dX10_will_39 : decode cX10_will 39 = .ok (.iload_n 3, 1) := dk_29 dg_cX10_will_365.2.2.2.2.2.1
theorem dX10_will_40 : decode cX10_will 40 = .ok (.iconst 1, 1) := dk_4 dg_cX10_will_365.2.2.2.2.2.2.1
theorem dX10_will_41 : decode cX10_will 41 = .ok (.if_icmp .ne 13, 3) := dk_160 dg_cX10_will_365.2.2.2.2.2.2.2
theorem dg_cX10_will_366 : ck1 cX10_will 44 42 = true ∧ ck3 cX10_will 45 180 28 = true ∧ ck3 cX10_will 48 180 154 = true ∧ ck3s cX10_will 51 167 4 = true ∧ ck1 cX10_will 54 3 = true ∧ ck3 cX10_will 55 182 180 = true ∧ ck1 cX10_will 58 172 = true := by decide +kernel
theorem dX10_will_44 : decode cX10_will 44 = .ok (.aload_n 0, 1) := dk_42 dg_cX10_will_366.1
theorem dX10_will_45 : decode cX10_will 45 = .ok (.getfield 28, 3) := dk_180 dg_cX10_will_366.2.1
theorem dX10_will_48 : decode cX10_will 48 = .ok (.getfield 154, 3) := dk_180 dg_cX10_will_366.2.2.1
theorem dX10_will_51 : decode cX10_will 51 = .ok (.goto 4, 3) := dk_167 dg_cX10_will_366.2.2.2.1
theorem dX10_will_54 : decode cX10_will 54 = .ok (.iconst 0, 1) := dk_3 dg_cX10_will_366.2.2.2.2.1
theorem dX10_will_55 : decode cX10_will 55 = .ok (.invokevirtual 180, 3) := dk_182 dg_cX10_will_366.2.2.2.2.2.1
theorem dX10_will_58 : decode cX10_will 58 = .ok (.ireturn, 1) := dk_172 dg_cX10_will_366.2.2.2.2.2.2
theorem dg_cX10_wings_367 : ck1 cX10_wings 0 27 = true ∧ ck3s cX10_wings 1 155 8 = true ∧ ck1 cX10_wings 4 27 = true ∧ ck1 cX10_wings 5 4 = true ∧ ck3s cX10_wings 6 164 5 = true ∧ ck1 cX10_wings 9 2 = true ∧ ck1 cX10_wings 10 172 = true ∧ ck1 cX10_wings 11 42 = true := by decide +kernel
theorem dX10_wings_0 : decode cX10_wings 0 = .ok (.iload_n 1, 1) := dk_27 dg_cX10_wings_367.1
theorem dX10_wings_1 : decode cX10_wings 1 = .ok (.ifCond .lt 8, 3) := dk_155 dg_cX10_wings_367.2.1
theorem dX10_wings_4 : decode cX10_wings 4 = .ok (.iload_n 1, 1) := dk_27 dg_cX10_wings_367.2.2.1
theorem dX10_wings_5 : decode cX10_wings 5 = .ok (.iconst 1, 1) := dk_4 dg_cX10_wings_367.2.2.2.1
theorem dX10_wings_6 : decode cX10_wings 6 = .ok (.if_icmp .le 5, 3) := dk_164 dg_cX10_wings_367.2.2.2.2.1
theorem dX10_wings_9 : decode cX10_wings 9 = .ok (.iconst (-1), 1) := dk_2 dg_cX10_wings_367.2.2.2.2.2.1
theorem dX10_wings_10 : decode cX10_wings 10 = .ok (.ireturn, 1) := dk_172 dg_cX10_wings_367.2.2.2.2.2.2.1
theorem dX10_wings_11 : decode cX10_wings 11 = .ok (.aload_n 0, 1) := dk_42 dg_cX10_wings_367.2.2.2.2.2.2.2
theorem dg_cX10_wings_368 : ck3 cX10_wings 12 180 62 = true ∧ ck3 cX10_wings 15 182 243 = true ∧ ck1 cX10_wings 18 61 = true ∧ ck1 cX10_wings 19 27 = true ∧ ck1 cX10_wings 20 4 = true ∧ ck3s cX10_wings 21 160 7 = true ∧ ck1 cX10_wings 24 28 = true ∧ ck3s cX10_wings 25 167 11 = true := by decide +kernel
theorem dX10_wings_12 : decode cX10_wings 12 = .ok (.getfield 62, 3) := dk_180 dg_cX10_wings_368.1
theorem dX10_wings_15 : decode cX10_wings 15 = .ok (.invokevirtual 243, 3) := dk_182 dg_cX10_wings_368.2.1
theorem dX10_wings_18 : decode cX10_wings 18 = .ok (.istore_n 2, 1) := dk_61 dg_cX10_wings_368.2.2.1
theorem dX10_wings_19 : decode cX10_wings 19 = .ok (.iload_n 1, 1) := dk_27 dg_cX10_wings_368.2.2.2.1
theorem dX10_wings_20 : decode cX10_wings 20 = .ok (.iconst 1, 1) := dk_4 dg_cX10_wings_368.2.2.2.2.1
theorem dX10_wings_21 : decode cX10_wings 21 = .ok (.if_icmp .ne 7, 3) := dk_160 dg_cX10_wings_368.2.2.2.2.2.1
theorem dX10_wings_24 : decode cX10_wings 24 = .ok (.iload_n 2, 1) := dk_28 dg_cX10_wings_368.2.2.2.2.2.2.1
theorem dX10_wings_25 : decode cX10_wings 25 = .ok (.goto 11, 3) := dk_167 dg_cX10_wings_368.2.2.2.2.2.2.2
theorem dg_cX10_wings_369 : ck1 cX10_wings 28 42 = true ∧ ck3 cX10_wings 29 180 62 = true ∧ ck1 cX10_wings 32 28 = true ∧ ck3 cX10_wings 33 182 246 = true ∧ ck1 cX10_wings 36 172 = true := by decide +kernel
theorem dX10_wings_28 : decode cX10_wings 28 = .ok (.aload_n 0, 1) := dk_42 dg_cX10_wings_369.1
theorem dX10_wings_29 : decode cX10_wings 29 = .ok (.getfield 62, 3) := dk_180 dg_cX10_wings_369.2.1
theorem dX10_wings_32 : decode cX10_wings 32 = .ok (.iload_n 2, 1) := dk_28 dg_cX10_wings_369.2.2.1
theorem dX10_wings_33 : decode cX10_wings 33 = .ok (.invokevirtual 246, 3) := dk_182 dg_cX10_wings_369.2.2.2.1
theorem dX10_wings_36 : decode cX10_wings 36 = .ok (.ireturn, 1) := dk_172 dg_cX10_wings_369.2.2.2.2
theorem dg_cX11_about_370 : ck1 cX11_about 0 27 = true := by decide +kernel
theorem dX11_about_0 : decode cX11_about 0 = .ok (.iload_n 1, 1) := dk_27 dg_cX11_about_370
theorem dX11_about_1 : decode cX11_about 1 = .ok (.tableswitch 147 0 13 #[71, 76, 81, 86, 91, 96, 104, 112, 117, 122, 127, 132, 137, 142], 71) := by decide +kernel
def dS_cX11_about_2 : List UInt8 := 42 :: 180 :: 2 :: 15 :: 172 :: 42 :: 180 :: 0 :: 139 :: 172 :: 42 :: 180 :: 1 :: 140 :: 172 :: 42 :: 180 :: 1 :: 158 :: 172 :: 2 :: 172 :: []
def dS_cX11_about_1 : List UInt8 := 0 :: 0 :: 0 :: 137 :: 0 :: 0 :: 0 :: 142 :: 42 :: 180 :: 1 :: 131 :: 172 :: 42 :: 180 :: 1 :: 134 :: 172 :: 42 :: 180 :: 0 :: 84 :: 172 :: 42 :: 180 :: 0 :: 87 :: 172 :: 42 :: 180 :: 0 :: 90 :: 172 :: 42 :: 180 :: 0 :: 93 :: 16 :: 37 :: 46 :: 172 :: 42 :: 180 :: 0 :: 93 :: 16 :: 38 :: 46 :: 172 :: 42 :: 180 :: 1 :: 149 :: 172 :: 42 :: 180 :: 1 :: 152 :: 172 :: 42 :: 180 :: 1 :: 155 :: 172 :: dS_cX11_about_2
def dS_cX11_about_0 : List UInt8 := 27 :: 170 :: 0 :: 0 :: 0 :: 0 :: 0 :: 147 :: 0 :: 0 :: 0 :: 0 :: 0 :: 0 :: 0 :: 13 :: 0 :: 0 :: 0 :: 71 :: 0 :: 0 :: 0 :: 76 :: 0 :: 0 :: 0 :: 81 :: 0 :: 0 :: 0 :: 86 :: 0 :: 0 :: 0 :: 91 :: 0 :: 0 :: 0 :: 96 :: 0 :: 0 :: 0 :: 104 :: 0 :: 0 :: 0 :: 112 :: 0 :: 0 :: 0 :: 117 :: 0 :: 0 :: 0 :: 122 :: 0 :: 0 :: 0 :: 127 :: 0 :: 0 :: 0 :: 132 :: dS_cX11_about_1
theorem dT_cX11_about_0 : cX11_about.data.toList.drop 0 = dS_cX11_about_0 := by decide +kernel
theorem dT_cX11_about_1 : cX11_about.data.toList.drop 64 = dS_cX11_about_1 := ck_nx dT_cX11_about_0 (by decide +kernel) rfl
theorem dT_cX11_about_2 : cX11_about.data.toList.drop 128 = dS_cX11_about_2 := ck_nx dT_cX11_about_1 (by decide +kernel) rfl
theorem dg_cX11_about_371 : ck1L dS_cX11_about_1 8 42 = true ∧ ck3L dS_cX11_about_1 9 180 387 = true ∧ ck1L dS_cX11_about_1 12 172 = true ∧ ck1L dS_cX11_about_1 13 42 = true ∧ ck3L dS_cX11_about_1 14 180 390 = true ∧ ck1L dS_cX11_about_1 17 172 = true ∧ ck1L dS_cX11_about_1 18 42 = true ∧ ck3L dS_cX11_about_1 19 180 84 = true := by decide +kernel
theorem dX11_about_72 : decode cX11_about 72 = .ok (.aload_n 0, 1) := dk_42 (ck1_s (r := 8) dT_cX11_about_1 rfl dg_cX11_about_371.1)
theorem dX11_about_73 : decode cX11_about 73 = .ok (.getfield 387, 3) := dk_180 (ck3_s (r := 9) dT_cX11_about_1 rfl dg_cX11_about_371.2.1)
theorem dX11_about_76 : decode cX11_about 76 = .ok (.ireturn, 1) := dk_172 (ck1_s (r := 12) dT_cX11_about_1 rfl dg_cX11_about_371.2.2.1)
theorem dX11_about_77 : decode cX11_about 77 = .ok (.aload_n 0, 1) := dk_42 (ck1_s (r := 13) dT_cX11_about_1 rfl dg_cX11_about_371.2.2.2.1)
theorem dX11_about_78 : decode cX11_about 78 = .ok (.getfield 390, 3) := dk_180 (ck3_s (r := 14) dT_cX11_about_1 rfl dg_cX11_about_371.2.2.2.2.1)
theorem dX11_about_81 : decode cX11_about 81 = .ok (.ireturn, 1) := dk_172 (ck1_s (r := 17) dT_cX11_about_1 rfl dg_cX11_about_371.2.2.2.2.2.1)
theorem dX11_about_82 : decode cX11_about 82 = .ok (.aload_n 0, 1) := dk_42 (ck1_s (r := 18) dT_cX11_about_1 rfl dg_cX11_about_371.2.2.2.2.2.2.1)
theorem dX11_about_83 : decode cX11_about 83 = .ok (.getfield 84, 3) := dk_180 (ck3_s (r := 19) dT_cX11_about_1 rfl dg_cX11_about_371.2.2.2.2.2.2.2)
theorem dg_cX11_about_372 : ck1L dS_cX11_about_1 22 172 = true ∧ ck1L dS_cX11_about_1 23 42 = true ∧ ck3L dS_cX11_about_1 24 180 87 = true ∧ ck1L dS_cX11_about_1 27 172 = true ∧ ck1L dS_cX11_about_1 28 42 = true ∧ ck3L dS_cX11_about_1 29 180 90 = true ∧ ck1L dS_cX11_about_1 32 172 = true ∧ ck1L dS_cX11_about_1 33 42 = true := by decide +kernel
theorem dX11_about_86 : decode cX11_about 86 = .ok (.ireturn, 1) := dk_172 (ck1_s (r := 22) dT_cX11_about_1 rfl dg_cX11_about_372.1)
theorem dX11_about_87 : decode cX11_about 87 = .ok (.aload_n 0, 1) := dk_42 (ck1_s (r := 23) dT_cX11_about_1 rfl dg_cX11_about_372.2.1)
theorem dX11_about_88 : decode cX11_about 88 = .ok (.getfield 87, 3) := dk_180 (ck3_s (r := 24) dT_cX11_about_1 rfl dg_cX11_about_372.2.2.1)
theorem dX11_about_91 : decode cX11_about 91 = .ok (.ireturn, 1) := dk_172 (ck1_s (r := 27) dT_cX11_about_1 rfl dg_cX11_about_372.2.2.2.1)
theorem dX11_about_92 : decode cX11_about 92 = .ok (.aload_n 0, 1) := dk_42 (ck1_s (r := 28) dT_cX11_about_1 rfl dg_cX11_about_372.2.2.2.2.1)
theorem dX11_about_93 : decode cX11_about 93 = .ok (.getfield 90, 3) := dk_180 (ck3_s (r := 29) dT_cX11_about_1 rfl dg_cX11_about_372.2.2.2.2.2.1)
theorem dX11_about_96 : decode cX11_about 96 = .ok (.ireturn, 1) := dk_172 (ck1_s (r := 32) dT_cX11_about_1 rfl dg_cX11_about_372.2.2.2.2.2.2.1)
theorem dX11_about_97 : decode cX11_about 97 = .ok (.aload_n 0, 1) := dk_42 (ck1_s (r := 33) dT_cX11_about_1 rfl dg_cX11_about_372.2.2.2.2.2.2.2)
theorem dg_cX11_about_373 : ck3L dS_cX11_about_1 34 180 93 = true ∧ ck2sL dS_cX11_about_1 37 16 37 = true ∧ ck1L dS_cX11_about_1 39 46 = true ∧ ck1L dS_cX11_about_1 40 172 = true ∧ ck1L dS_cX11_about_1 41 42 = true ∧ ck3L dS_cX11_about_1 42 180 93 = true ∧ ck2sL dS_cX11_about_1 45 16 38 = true ∧ ck1L dS_cX11_about_1 47 46 = true := by decide +kernel
theorem dX11_about_98 : decode cX11_about 98 = .ok (.getfield 93, 3) := dk_180 (ck3_s (r := 34) dT_cX11_about_1 rfl dg_cX11_about_373.1)
theorem dX11_about_101 : decode cX11_about 101 = .ok (.bipush 37, 2) := dk_16 (ck2s_s (r := 37) dT_cX11_about_1 rfl dg_cX11_about_373.2.1)
theorem dX11_about_103 : decode cX11_about 103 = .ok (.iaload, 1) := dk_46 (ck1_s (r := 39) dT_cX11_about_1 rfl dg_cX11_about_373.2.2.1)
theorem dX11_about_104 : decode cX11_about 104 = .ok (.ireturn, 1) := dk_172 (ck1_s (r := 40) dT_cX11_about_1 rfl dg_cX11_about_373.2.2.2.1)
theorem dX11_about_105 : decode cX11_about 105 = .ok (.aload_n 0, 1) := dk_42 (ck1_s (r := 41) dT_cX11_about_1 rfl dg_cX11_about_373.2.2.2.2.1)
theorem dX11_about_106 : decode cX11_about 106 = .ok (.getfield 93, 3) := dk_180 (ck3_s (r := 42) dT_cX11_about_1 rfl dg_cX11_about_373.2.2.2.2.2.1)
theorem dX11_about_109 : decode cX11_about 109 = .ok (.bipush 38, 2) := dk_16 (ck2s_s (r := 45) dT_cX11_about_1 rfl dg_cX11_about_373.2.2.2.2.2.2.1)
theorem dX11_about_111 : decode cX11_about 111 = .ok (.iaload, 1) := dk_46 (ck1_s (r := 47) dT_cX11_about_1 rfl dg_cX11_about_373.2.2.2.2.2.2.2)
theorem dg_cX11_about_374 : ck1L dS_cX11_about_1 48 172 = true ∧ ck1L dS_cX11_about_1 49 42 = true ∧ ck3L dS_cX11_about_1 50 180 405 = true ∧ ck1L dS_cX11_about_1 53 172 = true ∧ ck1L dS_cX11_about_1 54 42 = true ∧ ck3L dS_cX11_about_1 55 180 408 = true ∧ ck1L dS_cX11_about_1 58 172 = true ∧ ck1L dS_cX11_about_1 59 42 = true := by decide +kernel
theorem dX11_about_112 : decode cX11_about 112 = .ok (.ireturn, 1) := dk_172 (ck1_s (r := 48) dT_cX11_about_1 rfl dg_cX11_about_374.1)
theorem dX11_about_113 : decode cX11_about 113 = .ok (.aload_n 0, 1) := dk_42 (ck1_s (r := 49) dT_cX11_about_1 rfl dg_cX11_about_374.2.1)
theorem dX11_about_114 : decode cX11_about 114 = .ok (.getfield 405, 3) := dk_180 (ck3_s (r := 50) dT_cX11_about_1 rfl dg_cX11_about_374.2.2.1)
theorem dX11_about_117 : decode cX11_about 117 = .ok (.ireturn, 1) := dk_172 (ck1_s (r := 53) dT_cX11_about_1 rfl dg_cX11_about_374.2.2.2.1)
theorem dX11_about_118 : decode cX11_about 118 = .ok (.aload_n 0, 1) := dk_42 (ck1_s (r := 54) dT_cX11_about_1 rfl dg_cX11_about_374.2.2.2.2.1)
theorem dX11_about_119 : decode cX11_about 119 = .ok (.getfield 408, 3) := dk_180 (ck3_s (r := 55) dT_cX11_about_1 rfl dg_cX11_about_374.2.2.2.2.2.1)
theorem dX11_about_122 : decode cX11_about 122 = .ok (.ireturn, 1) := dk_172 (ck1_s (r := 58) dT_cX11_about_1 rfl dg_cX11_about_374.2.2.2.2.2.2.1)
theorem dX11_about_123 : decode cX11_about 123 = .ok (.aload_n 0, 1) := dk_42 (ck1_s (r := 59) dT_cX11_about_1 rfl dg_cX11_about_374.2.2.2.2.2.2.2)
theorem dg_cX11_about_375 : ck3L dS_cX11_about_1 60 180 411 = true ∧ ck1L dS_cX11_about_1 63 172 = true ∧ ck1L dS_cX11_about_2 0 42 = true ∧ ck3L dS_cX11_about_2 1 180 527 = true ∧ ck1L dS_cX11_about_2 4 172 = true ∧ ck1L dS_cX11_about_2 5 42 = true ∧ ck3L dS_cX11_about_2 6 180 139 = true ∧ ck1L dS_cX11_about_2 9 172 = true := by decide +kernel
theorem dX11_about_124 : decode cX11_about 124 = .ok (.getfield 411, 3) := dk_180 (ck3_s (r := 60) dT_cX11_about_1 rfl dg_cX11_about_375.1)
theorem dX11_about_127 : decode cX11_about 127 = .ok (.ireturn, 1) := dk_172 (ck1_s (r := 63) dT_cX11_about_1 rfl dg_cX11_about_375.2.1)
theorem dX11_about_128 : decode cX11_about 128 = .ok (.aload_n 0, 1) := dk_42 (ck1_s (r := 0) dT_cX11_about_2 rfl dg_cX11_about_375.2.2.1)
theorem dX11_about_129 : decode cX11_about 129 = .ok (.getfield 527, 3) := dk_180 (ck3_s (r := 1) dT_cX11_about_2 rfl dg_cX11_about_375.2.2.2.1)
theorem dX11_about_132 : decode cX11_about 132 = .ok (.ireturn, 1) := dk_172 (ck1_s (r := 4) dT_cX11_about_2 rfl dg_cX11_about_375.2.2.2.2.1)
theorem dX11_about_133 : decode cX11_about 133 = .ok (.aload_n 0, 1) := dk_42 (ck1_s (r := 5) dT_cX11_about_2 rfl dg_cX11_about_375.2.2.2.2.2.1)
theorem dX11_about_134 : decode cX11_about 134 = .ok (.getfield 139, 3) := dk_180 (ck3_s (r := 6) dT_cX11_about_2 rfl dg_cX11_about_375.2.2.2.2.2.2.1)
theorem dX11_about_137 : decode cX11_about 137 = .ok (.ireturn, 1) := dk_172 (ck1_s (r := 9) dT_cX11_about_2 rfl dg_cX11_about_375.2.2.2.2.2.2.2)
theorem dg_cX11_about_376 : ck1L dS_cX11_about_2 10 42 = true ∧ ck3L dS_cX11_about_2 11 180 396 = true ∧ ck1L dS_cX11_about_2 14 172 = true ∧ ck1L dS_cX11_about_2 15 42 = true ∧ ck3L dS_cX11_about_2 16 180 414 = true ∧ ck1L dS_cX11_about_2 19 172 = true ∧ ck1L dS_cX11_about_2 20 2 = true ∧ ck1L dS_cX11_about_2 21 172 = true := by decide +kernel
theorem dX11_about_138 : decode cX11_about 138 = .ok (.aload_n 0, 1) := dk_42 (ck1_s (r := 10) dT_cX11_about_2 rfl dg_cX11_about_376.1)
theorem dX11_about_139 : decode cX11_about 139 = .ok (.getfield 396, 3) := dk_180 (ck3_s (r := 11) dT_cX11_about_2 rfl dg_cX11_about_376.2.1)
theorem dX11_about_142 : decode cX11_about 142 = .ok (.ireturn, 1) := dk_172 (ck1_s (r := 14) dT_cX11_about_2 rfl dg_cX11_about_376.2.2.1)
theorem dX11_about_143 : decode cX11_about 143 = .ok (.aload_n 0, 1) := dk_42 (ck1_s (r := 15) dT_cX11_about_2 rfl dg_cX11_about_376.2.2.2.1)
theorem dX11_about_144 : decode cX11_about 144 = .ok (.getfield 414, 3) := dk_180 (ck3_s (r := 16) dT_cX11_about_2 rfl dg_cX11_about_376.2.2.2.2.1)
theorem dX11_about_147 : decode cX11_about 147 = .ok (.ireturn, 1) := dk_172 (ck1_s (r := 19) dT_cX11_about_2 rfl dg_cX11_about_376.2.2.2.2.2.1)
theorem dX11_about_148 : decode cX11_about 148 = .ok (.iconst (-1), 1) := dk_2 (ck1_s (r := 20) dT_cX11_about_2 rfl dg_cX11_about_376.2.2.2.2.2.2.1)
theorem dX11_about_149 : decode cX11_about 149 = .ok (.ireturn, 1) := dk_172 (ck1_s (r := 21) dT_cX11_about_2 rfl dg_cX11_about_376.2.2.2.2.2.2.2)
theorem dg_cX11_act_377 : ck1 cX11_act 0 42 = true ∧ ck3 cX11_act 1 180 405 = true ∧ ck2s cX11_act 4 16 40 = true ∧ ck3s cX11_act 6 160 43 = true ∧ ck1 cX11_act 9 3 = true ∧ ck1 cX11_act 10 60 = true ∧ ck1 cX11_act 11 27 = true ∧ ck3s cX11_act 12 17 1521 = true := by decide +kernel
theorem dX11_act_0 : decode cX11_act 0 = .ok (.aload_n 0, 1) := dk_42 dg_cX11_act_377.1
theorem dX11_act_1 : decode cX11_act 1 = .ok (.getfield 405, 3) := dk_180 dg_cX11_act_377.2.1
theorem dX11_act_4 : decode cX11_act 4 = .ok (.bipush 40, 2) := dk_16 dg_cX11_act_377.2.2.1
theorem dX11_act_6 : decode cX11_act 6 = .ok (.if_icmp .ne 43, 3) := dk_160 dg_cX11_act_377.2.2.2.1
theorem dX11_act_9 : decode cX11_act 9 = .ok (.iconst 0, 1) := dk_3 dg_cX11_act_377.2.2.2.2.1
theorem dX11_act_10 : decode cX11_act 10 = .ok (.istore_n 1, 1) := dk_60 dg_cX11_act_377.2.2.2.2.2.1
theorem dX11_act_11 : decode cX11_act 11 = .ok (.iload_n 1, 1) := dk_27 dg_cX11_act_377.2.2.2.2.2.2.1
theorem dX11_act_12 : decode cX11_act 12 = .ok (.sipush 1521, 3) := dk_17 dg_cX11_act_377.2.2.2.2.2.2.2
theorem dg_cX11_act_378 : ck3s cX11_act 15 162 24 = true ∧ ck1 cX11_act 18 42 = true ∧ ck3 cX11_act 19 180 99 = true ∧ ck1 cX11_act 22 27 = true ∧ ck1 cX11_act 23 42 = true ∧ ck3 cX11_act 24 180 99 = true ∧ ck2s cX11_act 27 16 39 = true ∧ ck1 cX11_act 29 27 = true := by decide +kernel
theorem dX11_act_15 : decode cX11_act 15 = .ok (.if_icmp .ge 24, 3) := dk_162 dg_cX11_act_378.1
theorem dX11_act_18 : decode cX11_act 18 = .ok (.aload_n 0, 1) := dk_42 dg_cX11_act_378.2.1
theorem dX11_act_19 : decode cX11_act 19 = .ok (.getfield 99, 3) := dk_180 dg_cX11_act_378.2.2.1
theorem dX11_act_22 : decode cX11_act 22 = .ok (.iload_n 1, 1) := dk_27 dg_cX11_act_378.2.2.2.1
theorem dX11_act_23 : decode cX11_act 23 = .ok (.aload_n 0, 1) := dk_42 dg_cX11_act_378.2.2.2.2.1
theorem dX11_act_24 : decode cX11_act 24 = .ok (.getfield 99, 3) := dk_180 dg_cX11_act_378.2.2.2.2.2.1
theorem dX11_act_27 : decode cX11_act 27 = .ok (.bipush 39, 2) := dk_16 dg_cX11_act_378.2.2.2.2.2.2.1
theorem dX11_act_29 : decode cX11_act 29 = .ok (.iload_n 1, 1) := dk_27 dg_cX11_act_378.2.2.2.2.2.2.2
theorem dg_cX11_act_379 : ck1 cX11_act 30 96 = true ∧ ck1 cX11_act 31 46 = true ∧ ck1 cX11_act 32 79 = true ∧ ck3i cX11_act 33 132 1 1 = true ∧ ck3s cX11_act 36 167 (-25) = true ∧ ck1 cX11_act 39 42 = true ∧ ck1 cX11_act 40 89 = true ∧ ck3 cX11_act 41 180 405 = true := by decide +kernel
theorem dX11_act_30 : decode cX11_act 30 = .ok (.iadd, 1) := dk_96 dg_cX11_act_379.1
theorem dX11_act_31 : decode cX11_act 31 = .ok (.iaload, 1) := dk_46 dg_cX11_act_379.2.1
theorem dX11_act_32 : decode cX11_act 32 = .ok (.iastore, 1) := dk_79 dg_cX11_act_379.2.2.1
theorem dX11_act_33 : decode cX11_act 33 = .ok (.iinc 1 1, 3) := dk_132 dg_cX11_act_379.2.2.2.1
theorem dX11_act_36 : decode cX11_act 36 = .ok (.goto (-25), 3) := dk_167 dg_cX11_act_379.2.2.2.2.1
theorem dX11_act_39 : decode cX11_act 39 = .ok (.aload_n 0, 1) := dk_42 dg_cX11_act_379.2.2.2.2.2.1
theorem dX11_act_40 : decode cX11_act 40 = .ok (.dup, 1) := dk_89 dg_cX11_act_379.2.2.2.2.2.2.1
theorem dX11_act_41 : decode cX11_act 41 = .ok (.getfield 405, 3) := dk_180 dg_cX11_act_379.2.2.2.2.2.2.2
theorem dg_cX11_act_380 : ck1 cX11_act 44 4 = true ∧ ck1 cX11_act 45 100 = true ∧ ck3 cX11_act 46 181 405 = true ∧ ck1 cX11_act 49 3 = true ∧ ck1 cX11_act 50 60 = true ∧ ck1 cX11_act 51 27 = true ∧ ck2s cX11_act 52 16 39 = true ∧ ck3s cX11_act 54 162 29 = true := by decide +kernel
theorem dX11_act_44 : decode cX11_act 44 = .ok (.iconst 1, 1) := dk_4 dg_cX11_act_380.1
theorem dX11_act_45 : decode cX11_act 45 = .ok (.isub, 1) := dk_100 dg_cX11_act_380.2.1
theorem dX11_act_46 : decode cX11_act 46 = .ok (.putfield 405, 3) := dk_181 dg_cX11_act_380.2.2.1
theorem dX11_act_49 : decode cX11_act 49 = .ok (.iconst 0, 1) := dk_3 dg_cX11_act_380.2.2.2.1
theorem dX11_act_50 : decode cX11_act 50 = .ok (.istore_n 1, 1) := dk_60 dg_cX11_act_380.2.2.2.2.1
theorem dX11_act_51 : decode cX11_act 51 = .ok (.iload_n 1, 1) := dk_27 dg_cX11_act_380.2.2.2.2.2.1
theorem dX11_act_52 : decode cX11_act 52 = .ok (.bipush 39, 2) := dk_16 dg_cX11_act_380.2.2.2.2.2.2.1
theorem dX11_act_54 : decode cX11_act 54 = .ok (.if_icmp .ge 29, 3) := dk_162 dg_cX11_act_380.2.2.2.2.2.2.2
theorem dg_cX11_act_381 : ck1 cX11_act 57 42 = true ∧ ck3 cX11_act 58 180 99 = true ∧ ck2s cX11_act 61 16 39 = true ∧ ck1 cX11_act 63 42 = true := by decide +kernel
theorem dX11_act_57 : decode cX11_act 57 = .ok (.aload_n 0, 1) := dk_42 dg_cX11_act_381.1
theorem dX11_act_58 : decode cX11_act 58 = .ok (.getfield 99, 3) := dk_180 dg_cX11_act_381.2.1
theorem dX11_act_61 : decode cX11_act 61 = .ok (.bipush 39, 2) := dk_16 dg_cX11_act_381.2.2.1
theorem dX11_act_63 : decode cX11_act 63 = .ok (.aload_n 0, 1) := dk_42 dg_cX11_act_381.2.2.2
def dS_cX11_act_1 : List UInt8 := 180 :: 1 :: 149 :: 104 :: 27 :: 96 :: 42 :: 180 :: 0 :: 93 :: 27 :: 46 :: 79 :: 132 :: 1 :: 1 :: 167 :: 255 :: 227 :: 42 :: 89 :: 180 :: 1 :: 149 :: 4 :: 96 :: 181 :: 1 :: 149 :: 42 :: 3 :: 181 :: 1 :: 152 :: 42 :: 182 :: 1 :: 193 :: 177 :: []
def dS_cX11_act_0 : List UInt8 := 42 :: 180 :: 1 :: 149 :: 16 :: 40 :: 160 :: 0 :: 43 :: 3 :: 60 :: 27 :: 17 :: 5 :: 241 :: 162 :: 0 :: 24 :: 42 :: 180 :: 0 :: 99 :: 27 :: 42 :: 180 :: 0 :: 99 :: 16 :: 39 :: 27 :: 96 :: 46 :: 79 :: 132 :: 1 :: 1 :: 167 :: 255 :: 231 :: 42 :: 89 :: 180 :: 1 :: 149 :: 4 :: 100 :: 181 :: 1 :: 149 :: 3 :: 60 :: 27 :: 16 :: 39 :: 162 :: 0 :: 29 :: 42 :: 180 :: 0 :: 99 :: 16 :: 39 :: 42 :: dS_cX11_act_1
theorem dT_cX11_act_0 : cX11_act.data.toList.drop 0 = dS_cX11_act_0 := by decide +kernel
theorem dT_cX11_act_1 : cX11_act.data.toList.drop 64 = dS_cX11_act_1 := ck_nx dT_cX11_act_0 (by decide +kernel) rfl
theorem dg_cX11_act_382 : ck3L dS_cX11_act_1 0 180 405 = true ∧ ck1L dS_cX11_act_1 3 104 = true ∧ ck1L dS_cX11_act_1 4 27 = true ∧ ck1L dS_cX11_act_1 5 96 = true ∧ ck1L dS_cX11_act_1 6 42 = true ∧ ck3L dS_cX11_act_1 7 180 93 = true ∧ ck1L dS_cX11_act_1 10 27 = true ∧ ck1L dS_cX11_act_1 11 46 = true := by decide +kernel
theorem dX11_act_64 : decode cX11_act 64 = .ok (.getfield 405, 3) := dk_180 (ck3_s (r := 0) dT_cX11_act_1 rfl dg_cX11_act_382.1)
theorem dX11_act_67 : decode cX11_act 67 = .ok (.imul, 1) := dk_104 (ck1_s (r := 3) dT_cX11_act_1 rfl dg_cX11_act_382.2.1)
theorem dX11_act_68 : decode cX11_act 68 = .ok (.iload_n 1, 1) := dk_27 (ck1_s (r := 4) dT_cX11_act_1 rfl dg_cX11_act_382.2.2.1)
theorem dX11_act_69 : decode cX11_act 69 = .ok (.iadd, 1) := dk_96 (ck1_s (r := 5) dT_cX11_act_1 rfl dg_cX11_act_382.2.2.2.1)
theorem dX11_act_70 : decode cX11_act 70 = .ok (.aload_n 0, 1) := dk_42 (ck1_s (r := 6) dT_cX11_act_1 rfl dg_cX11_act_382.2.2.2.2.1)
theorem dX11_act_71 : decode cX11_act 71 = .ok (.getfield 93, 3) := dk_180 (ck3_s (r := 7) dT_cX11_act_1 rfl dg_cX11_act_382.2.2.2.2.2.1)
theorem dX11_act_74 : decode cX11_act 74 = .ok (.iload_n 1, 1) := dk_27 (ck1_s (r := 10) dT_cX11_act_1 rfl dg_cX11_act_382.2.2.2.2.2.2.1)
theorem dX11_act_75 : decode cX11_act 75 = .ok (.iaload, 1) := dk_46 (ck1_s (r := 11) dT_cX11_act_1 rfl dg_cX11_act_382.2.2.2.2.2.2.2)
theorem dg_cX11_act_383 : ck1L dS_cX11_act_1 12 79 = true ∧ ck3iL dS_cX11_act_1 13 132 1 1 = true ∧ ck3sL dS_cX11_act_1 16 167 (-29) = true ∧ ck1L dS_cX11_act_1 19 42 = true ∧ ck1L dS_cX11_act_1 20 89 = true ∧ ck3L dS_cX11_act_1 21 180 405 = true ∧ ck1L dS_cX11_act_1 24 4 = true ∧ ck1L dS_cX11_act_1 25 96 = true := by decide +kernel
theorem dX11_act_76 : decode cX11_act 76 = .ok (.iastore, 1) := dk_79 (ck1_s (r := 12) dT_cX11_act_1 rfl dg_cX11_act_383.1)
theorem dX11_act_77 : decode cX11_act 77 = .ok (.iinc 1 1, 3) := dk_132 (ck3i_s (r := 13) dT_cX11_act_1 rfl dg_cX11_act_383.2.1)
theorem dX11_act_80 : decode cX11_act 80 = .ok (.goto (-29), 3) := dk_167 (ck3s_s (r := 16) dT_cX11_act_1 rfl dg_cX11_act_383.2.2.1)
theorem dX11_act_83 : decode cX11_act 83 = .ok (.aload_n 0, 1) := dk_42 (ck1_s (r := 19) dT_cX11_act_1 rfl dg_cX11_act_383.2.2.2.1)
theorem dX11_act_84 : decode cX11_act 84 = .ok (.dup, 1) := dk_89 (ck1_s (r := 20) dT_cX11_act_1 rfl dg_cX11_act_383.2.2.2.2.1)
theorem dX11_act_85 : decode cX11_act 85 = .ok (.getfield 405, 3) := dk_180 (ck3_s (r := 21) dT_cX11_act_1 rfl dg_cX11_act_383.2.2.2.2.2.1)
theorem dX11_act_88 : decode cX11_act 88 = .ok (.iconst 1, 1) := dk_4 (ck1_s (r := 24) dT_cX11_act_1 rfl dg_cX11_act_383.2.2.2.2.2.2.1)
theorem dX11_act_89 : decode cX11_act 89 = .ok (.iadd, 1) := dk_96 (ck1_s (r := 25) dT_cX11_act_1 rfl dg_cX11_act_383.2.2.2.2.2.2.2)
theorem dg_cX11_act_384 : ck3L dS_cX11_act_1 26 181 405 = true ∧ ck1L dS_cX11_act_1 29 42 = true ∧ ck1L dS_cX11_act_1 30 3 = true ∧ ck3L dS_cX11_act_1 31 181 408 = true ∧ ck1L dS_cX11_act_1 34 42 = true ∧ ck3L dS_cX11_act_1 35 182 449 = true ∧ ck1L dS_cX11_act_1 38 177 = true := by decide +kernel
theorem dX11_act_90 : decode cX11_act 90 = .ok (.putfield 405, 3) := dk_181 (ck3_s (r := 26) dT_cX11_act_1 rfl dg_cX11_act_384.1)
theorem dX11_act_93 : decode cX11_act 93 = .ok (.aload_n 0, 1) := dk_42 (ck1_s (r := 29) dT_cX11_act_1 rfl dg_cX11_act_384.2.1)
theorem dX11_act_94 : decode cX11_act 94 = .ok (.iconst 0, 1) := dk_3 (ck1_s (r := 30) dT_cX11_act_1 rfl dg_cX11_act_384.2.2.1)
theorem dX11_act_95 : decode cX11_act 95 = .ok (.putfield 408, 3) := dk_181 (ck3_s (r := 31) dT_cX11_act_1 rfl dg_cX11_act_384.2.2.2.1)
theorem dX11_act_98 : decode cX11_act 98 = .ok (.aload_n 0, 1) := dk_42 (ck1_s (r := 34) dT_cX11_act_1 rfl dg_cX11_act_384.2.2.2.2.1)
theorem dX11_act_99 : decode cX11_act 99 = .ok (.invokevirtual 449, 3) := dk_182 (ck3_s (r := 35) dT_cX11_act_1 rfl dg_cX11_act_384.2.2.2.2.2.1)
theorem dX11_act_102 : decode cX11_act 102 = .ok (.return_, 1) := dk_177 (ck1_s (r := 38) dT_cX11_act_1 rfl dg_cX11_act_384.2.2.2.2.2.2)
theorem dg_cX11_add_385 : ck1 cX11_add 0 42 = true ∧ ck3 cX11_add 1 180 21 = true ∧ ck1 cX11_add 4 42 = true ∧ ck3 cX11_add 5 180 253 = true ∧ ck1 cX11_add 8 27 = true ∧ ck1 cX11_add 9 79 = true ∧ ck1 cX11_add 10 42 = true ∧ ck3 cX11_add 11 180 24 = true := by decide +kernel
theorem dX11_add_0 : decode cX11_add 0 = .ok (.aload_n 0, 1) := dk_42 dg_cX11_add_385.1
theorem dX11_add_1 : decode cX11_add 1 = .ok (.getfield 21, 3) := dk_180 dg_cX11_add_385.2.1
theorem dX11_add_4 : decode cX11_add 4 = .ok (.aload_n 0, 1) := dk_42 dg_cX11_add_385.2.2.1
theorem dX11_add_5 : decode cX11_add 5 = .ok (.getfield 253, 3) := dk_180 dg_cX11_add_385.2.2.2.1
theorem dX11_add_8 : decode cX11_add 8 = .ok (.iload_n 1, 1) := dk_27 dg_cX11_add_385.2.2.2.2.1
theorem dX11_add_9 : decode cX11_add 9 = .ok (.iastore, 1) := dk_79 dg_cX11_add_385.2.2.2.2.2.1
theorem dX11_add_10 : decode cX11_add 10 = .ok (.aload_n 0, 1) := dk_42 dg_cX11_add_385.2.2.2.2.2.2.1
theorem dX11_add_11 : decode cX11_add 11 = .ok (.getfield 24, 3) := dk_180 dg_cX11_add_385.2.2.2.2.2.2.2
theorem dg_cX11_add_386 : ck1 cX11_add 14 42 = true ∧ ck3 cX11_add 15 180 253 = true ∧ ck1 cX11_add 18 28 = true ∧ ck1 cX11_add 19 79 = true ∧ ck1 cX11_add 20 42 = true ∧ ck1 cX11_add 21 89 = true ∧ ck3 cX11_add 22 180 253 = true ∧ ck1 cX11_add 25 4 = true := by decide +kernel
theorem dX11_add_14 : decode cX11_add 14 = .ok (.aload_n 0, 1) := dk_42 dg_cX11_add_386.1
theorem dX11_add_15 : decode cX11_add 15 = .ok (.getfield 253, 3) := dk_180 dg_cX11_add_386.2.1
theorem dX11_add_18 : decode cX11_add 18 = .ok (.iload_n 2, 1) := dk_28 dg_cX11_add_386.2.2.1
theorem dX11_add_19 : decode cX11_add 19 = .ok (.iastore, 1) := dk_79 dg_cX11_add_386.2.2.2.1
theorem dX11_add_20 : decode cX11_add 20 = .ok (.aload_n 0, 1) := dk_42 dg_cX11_add_386.2.2.2.2.1
theorem dX11_add_21 : decode cX11_add 21 = .ok (.dup, 1) := dk_89 dg_cX11_add_386.2.2.2.2.2.1
theorem dX11_add_22 : decode cX11_add 22 = .ok (.getfield 253, 3) := dk_180 dg_cX11_add_386.2.2.2.2.2.2.1
theorem dX11_add_25 : decode cX11_add 25 = .ok (.iconst 1, 1) := dk_4 dg_cX11_add_386.2.2.2.2.2.2.2
theorem dg_cX11_add_387 : ck1 cX11_add 26 96 = true ∧ ck3 cX11_add 27 181 253 = true ∧ ck1 cX11_add 30 177 = true := by decide +kernel
theorem dX11_add_26 : decode cX11_add 26 = .ok (.iadd, 1) := dk_96 dg_cX11_add_387.1
theorem dX11_add_27 : decode cX11_add 27 = .ok (.putfield 253, 3) := dk_181 dg_cX11_add_387.2.1
theorem dX11_add_30 : decode cX11_add 30 = .ok (.return_, 1) := dk_177 dg_cX11_add_387.2.2
theorem dg_cX11_areTaken_388 : ck1 cX11_areTaken 0 42 = true ∧ ck3 cX11_areTaken 1 180 63 = true ∧ ck1 cX11_areTaken 4 27 = true ∧ ck1 cX11_areTaken 5 46 = true ∧ ck1 cX11_areTaken 6 42 = true ∧ ck3 cX11_areTaken 7 180 63 = true ∧ ck1 cX11_areTaken 10 28 = true ∧ ck1 cX11_areTaken 11 46 = true := by decide +kernel
theorem dX11_areTaken_0 : decode cX11_areTaken 0 = .ok (.aload_n 0, 1) := dk_42 dg_cX11_areTaken_388.1
theorem dX11_areTaken_1 : decode cX11_areTaken 1 = .ok (.getfield 63, 3) := dk_180 dg_cX11_areTaken_388.2.1
theorem dX11_areTaken_4 : decode cX11_areTaken 4 = .ok (.iload_n 1, 1) := dk_27 dg_cX11_areTaken_388.2.2.1
theorem dX11_areTaken_5 : decode cX11_areTaken 5 = .ok (.iaload, 1) := dk_46 dg_cX11_areTaken_388.2.2.2.1
theorem dX11_areTaken_6 : decode cX11_areTaken 6 = .ok (.aload_n 0, 1) := dk_42 dg_cX11_areTaken_388.2.2.2.2.1
theorem dX11_areTaken_7 : decode cX11_areTaken 7 = .ok (.getfield 63, 3) := dk_180 dg_cX11_areTaken_388.2.2.2.2.2.1
theorem dX11_areTaken_10 : decode cX11_areTaken 10 = .ok (.iload_n 2, 1) := dk_28 dg_cX11_areTaken_388.2.2.2.2.2.2.1
theorem dX11_areTaken_11 : decode cX11_areTaken 11 = .ok (.iaload, 1) := dk_46 dg_cX11_areTaken_388.2.2.2.2.2.2.2
theorem dg_cX11_areTaken_389 : ck1 cX11_areTaken 12 100 = true ∧ ck3 cX11_areTaken 13 184 495 = true ∧ ck1 cX11_areTaken 16 42 = true ∧ ck3 cX11_areTaken 17 180 90 = true ∧ ck3s cX11_areTaken 20 163 7 = true ∧ ck1 cX11_areTaken 23 4 = true ∧ ck3s cX11_areTaken 24 167 4 = true ∧ ck1 cX11_areTaken 27 3 = true := by decide +kernel
theorem dX11_areTaken_12 : decode cX11_areTaken 12 = .ok (.isub, 1) := dk_100 dg_cX11_areTaken_389.1
theorem dX11_areTaken_13 : decode cX11_areTaken 13 = .ok (.invokestatic 495, 3) := dk_184 dg_cX11_areTaken_389.2.1
theorem dX11_areTaken_16 : decode cX11_areTaken 16 = .ok (.aload_n 0, 1) := dk_42 dg_cX11_areTaken_389.2.2.1
theorem dX11_areTaken_17 : decode cX11_areTaken 17 = .ok (.getfield 90, 3) := dk_180 dg_cX11_areTaken_389.2.2.2.1
theorem dX11_areTaken_20 : decode cX11_areTaken 20 = .ok (.if_icmp .gt 7, 3) := dk_163 dg_cX11_areTaken_389.2.2.2.2.1
theorem dX11_areTaken_23 : decode cX11_areTaken 23 = .ok (.iconst 1, 1) := dk_4 dg_cX11_areTaken_389.2.2.2.2.2.1
theorem dX11_areTaken_24 : decode cX11_areTaken 24 = .ok (.goto 4, 3) := dk_167 dg_cX11_areTaken_389.2.2.2.2.2.2.1
theorem dX11_areTaken_27 : decode cX11_areTaken 27 = .ok (.iconst 0, 1) := dk_3 dg_cX11_areTaken_389.2.2.2.2.2.2.2
theorem dg_cX11_areTaken_390 : ck1 cX11_areTaken 28 172 = true := by decide +kernel
theorem dX11_areTaken_28 : decode cX11_areTaken 28 = .ok (.ireturn, 1) := dk_172 dg_cX11_areTaken_390
theorem dg_cX11_ask_391 : ck1 cX11_ask 0 27 = true ∧ ck1 cX11_ask 1 3 = true ∧ ck1 cX11_ask 2 4 = true ∧ ck3 cX11_ask 3 184 417 = true ∧ ck3s cX11_ask 6 154 5 = true ∧ ck1 cX11_ask 9 2 = true ∧ ck1 cX11_ask 10 172 = true ∧ ck1 cX11_ask 11 42 = true := by decide +kernel
theorem dX11_ask_0 : decode cX11_ask 0 = .ok (.iload_n 1, 1) := dk_27 dg_cX11_ask_391.1
theorem dX11_ask_1 : decode cX11_ask 1 = .ok (.iconst 0, 1) := dk_3 dg_cX11_ask_391.2.1
theorem dX11_ask_2 : decode cX11_ask 2 = .ok (.iconst 1, 1) := dk_4 dg_cX11_ask_391.2.2.1
theorem dX11_ask_3 : decode cX11_ask 3 = .ok (.invokestatic 417, 3) := dk_184 dg_cX11_ask_391.2.2.2.1
theorem dX11_ask_6 : decode cX11_ask 6 = .ok (.ifCond .ne 5, 3) := dk_154 dg_cX11_ask_391.2.2.2.2.1
theorem dX11_ask_9 : decode cX11_ask 9 = .ok (.iconst (-1), 1) := dk_2 dg_cX11_ask_391.2.2.2.2.2.1
theorem dX11_ask_10 : decode cX11_ask 10 = .ok (.ireturn, 1) := dk_172 dg_cX11_ask_391.2.2.2.2.2.2.1
theorem dX11_ask_11 : decode cX11_ask 11 = .ok (.aload_n 0, 1) := dk_42 dg_cX11_ask_391.2.2.2.2.2.2.2
theorem dg_cX11_ask_392 : ck1 cX11_ask 12 28 = true ∧ ck3 cX11_ask 13 182 534 = true ∧ ck1 cX11_ask 16 62 = true ∧ ck1 cX11_ask 17 29 = true ∧ ck3s cX11_ask 18 154 5 = true ∧ ck1 cX11_ask 21 2 = true ∧ ck1 cX11_ask 22 172 = true ∧ ck1 cX11_ask 23 3 = true := by decide +kernel
theorem dX11_ask_12 : decode cX11_ask 12 = .ok (.iload_n 2, 1) := dk_28 dg_cX11_ask_392.1
theorem dX11_ask_13 : decode cX11_ask 13 = .ok (.invokevirtual 534, 3) := dk_182 dg_cX11_ask_392.2.1
theorem dX11_ask_16 : decode cX11_ask 16 = .ok (.istore_n 3, 1) := dk_62 dg_cX11_ask_392.2.2.1
theorem dX11_ask_17 : decode cX11_ask 17 = .ok (.iload_n 3, 1) := dk_29 dg_cX11_ask_392.2.2.2.1
theorem dX11_ask_18 : decode cX11_ask 18 = .ok (.ifCond .ne 5, 3) := dk_154 dg_cX11_ask_392.2.2.2.2.1
theorem dX11_ask_21 : decode cX11_ask 21 = .ok (.iconst (-1), 1) := dk_2 dg_cX11_ask_392.2.2.2.2.2.1
theorem dX11_ask_22 : decode cX11_ask 22 = .ok (.ireturn, 1) := dk_172 dg_cX11_ask_392.2.2.2.2.2.2.1
theorem dX11_ask_23 : decode cX11_ask 23 = .ok (.iconst 0, 1) := dk_3 dg_cX11_ask_392.2.2.2.2.2.2.2
theorem dg_cX11_ask_393 : ck2 cX11_ask 24 54 4 = true ∧ ck1 cX11_ask 26 4 = true ∧ ck2 cX11_ask 27 54 5 = true ∧ ck2 cX11_ask 29 21 5 = true ∧ ck2s cX11_ask 31 16 20 = true ∧ ck3s cX11_ask 33 163 35 = true ∧ ck1 cX11_ask 36 42 = true ∧ ck2 cX11_ask 37 21 5 = true := by decide +kernel
theorem dX11_ask_24 : decode cX11_ask 24 = .ok (.istore 4, 2) := dk_54 dg_cX11_ask_393.1
theorem dX11_ask_26 : decode cX11_ask 26 = .ok (.iconst 1, 1) := dk_4 dg_cX11_ask_393.2.1
theorem dX11_ask_27 : decode cX11_ask 27 = .ok (.istore 5, 2) := dk_54 dg_cX11_ask_393.2.2.1
theorem dX11_ask_29 : decode cX11_ask 29 = .ok (.iload 5, 2) := dk_21 dg_cX11_ask_393.2.2.2.1
theorem dX11_ask_31 : decode cX11_ask 31 = .ok (.bipush 20, 2) := dk_16 dg_cX11_ask_393.2.2.2.2.1
theorem dX11_ask_33 : decode cX11_ask 33 = .ok (.if_icmp .gt 35, 3) := dk_163 dg_cX11_ask_393.2.2.2.2.2.1
theorem dX11_ask_36 : decode cX11_ask 36 = .ok (.aload_n 0, 1) := dk_42 dg_cX11_ask_393.2.2.2.2.2.2.1
theorem dX11_ask_37 : decode cX11_ask 37 = .ok (.iload 5, 2) := dk_21 dg_cX11_ask_393.2.2.2.2.2.2.2
theorem dg_cX11_ask_394 : ck1 cX11_ask 39 29 = true ∧ ck3 cX11_ask 40 182 537 = true ∧ ck1 cX11_ask 43 42 = true ∧ ck2 cX11_ask 44 21 4 = true ∧ ck1 cX11_ask 46 29 = true ∧ ck3 cX11_ask 47 182 537 = true ∧ ck3s cX11_ask 50 162 8 = true ∧ ck2 cX11_ask 53 21 5 = true := by decide +kernel
theorem dX11_ask_39 : decode cX11_ask 39 = .ok (.iload_n 3, 1) := dk_29 dg_cX11_ask_394.1
theorem dX11_ask_40 : decode cX11_ask 40 = .ok (.invokevirtual 537, 3) := dk_182 dg_cX11_ask_394.2.1
theorem dX11_ask_43 : decode cX11_ask 43 = .ok (.aload_n 0, 1) := dk_42 dg_cX11_ask_394.2.2.1
theorem dX11_ask_44 : decode cX11_ask 44 = .ok (.iload 4, 2) := dk_21 dg_cX11_ask_394.2.2.2.1
theorem dX11_ask_46 : decode cX11_ask 46 = .ok (.iload_n 3, 1) := dk_29 dg_cX11_ask_394.2.2.2.2.1
theorem dX11_ask_47 : decode cX11_ask 47 = .ok (.invokevirtual 537, 3) := dk_182 dg_cX11_ask_394.2.2.2.2.2.1
theorem dX11_ask_50 : decode cX11_ask 50 = .ok (.if_icmp .ge 8, 3) := dk_162 dg_cX11_ask_394.2.2.2.2.2.2.1
theorem dX11_ask_53 : decode cX11_ask 53 = .ok (.iload 5, 2) := dk_21 dg_cX11_ask_394.2.2.2.2.2.2.2
theorem dg_cX11_ask_395 : ck3s cX11_ask 55 167 5 = true ∧ ck2 cX11_ask 58 21 4 = true ∧ ck2 cX11_ask 60 54 4 = true ∧ ck3i cX11_ask 62 132 5 1 = true := by decide +kernel
theorem dX11_ask_55 : decode cX11_ask 55 = .ok (.goto 5, 3) := dk_167 dg_cX11_ask_395.1
theorem dX11_ask_58 : decode cX11_ask 58 = .ok (.iload 4, 2) := dk_21 dg_cX11_ask_395.2.1
theorem dX11_ask_60 : decode cX11_ask 60 = .ok (.istore 4, 2) := dk_54 dg_cX11_ask_395.2.2.1
theorem dX11_ask_62 : decode cX11_ask 62 = .ok (.iinc 5 1, 3) := dk_132 dg_cX11_ask_395.2.2.2
def dS_cX11_ask_1 : List UInt8 := 1 :: 167 :: 255 :: 220 :: 27 :: 154 :: 0 :: 8 :: 21 :: 4 :: 167 :: 0 :: 10 :: 42 :: 21 :: 4 :: 29 :: 182 :: 2 :: 25 :: 172 :: []
def dS_cX11_ask_0 : List UInt8 := 27 :: 3 :: 4 :: 184 :: 1 :: 161 :: 154 :: 0 :: 5 :: 2 :: 172 :: 42 :: 28 :: 182 :: 2 :: 22 :: 62 :: 29 :: 154 :: 0 :: 5 :: 2 :: 172 :: 3 :: 54 :: 4 :: 4 :: 54 :: 5 :: 21 :: 5 :: 16 :: 20 :: 163 :: 0 :: 35 :: 42 :: 21 :: 5 :: 29 :: 182 :: 2 :: 25 :: 42 :: 21 :: 4 :: 29 :: 182 :: 2 :: 25 :: 162 :: 0 :: 8 :: 21 :: 5 :: 167 :: 0 :: 5 :: 21 :: 4 :: 54 :: 4 :: 132 :: 5 :: dS_cX11_ask_1
theorem dT_cX11_ask_0 : cX11_ask.data.toList.drop 0 = dS_cX11_ask_0 := by decide +kernel
theorem dT_cX11_ask_1 : cX11_ask.data.toList.drop 64 = dS_cX11_ask_1 := ck_nx dT_cX11_ask_0 (by decide +kernel) rfl
theorem dg_cX11_ask_396 : ck3sL dS_cX11_ask_1 1 167 (-36) = true ∧ ck1L dS_cX11_ask_1 4 27 = true ∧ ck3sL dS_cX11_ask_1 5 154 8 = true ∧ ck2L dS_cX11_ask_1 8 21 4 = true ∧ ck3sL dS_cX11_ask_1 10 167 10 = true ∧ ck1L dS_cX11_ask_1 13 42 = true ∧ ck2L dS_cX11_ask_1 14 21 4 = true ∧ ck1L dS_cX11_ask_1 16 29 = true := by decide +kernel
theorem dX11_ask_65 : decode cX11_ask 65 = .ok (.goto (-36), 3) := dk_167 (ck3s_s (r := 1) dT_cX11_ask_1 rfl dg_cX11_ask_396.1)
theorem dX11_ask_68 : decode cX11_ask 68 = .ok (.iload_n 1, 1) := dk_27 (ck1_s (r := 4) dT_cX11_ask_1 rfl dg_cX11_ask_396.2.1)
theorem dX11_ask_69 : decode cX11_ask 69 = .ok (.ifCond .ne 8, 3) := dk_154 (ck3s_s (r := 5) dT_cX11_ask_1 rfl dg_cX11_ask_396.2.2.1)
theorem dX11_ask_72 : decode cX11_ask 72 = .ok (.iload 4, 2) := dk_21 (ck2_s (r := 8) dT_cX11_ask_1 rfl dg_cX11_ask_396.2.2.2.1)
theorem dX11_ask_74 : decode cX11_ask 74 = .ok (.goto 10, 3) := dk_167 (ck3s_s (r := 10) dT_cX11_ask_1 rfl dg_cX11_ask_396.2.2.2.2.1)
theorem dX11_ask_77 : decode cX11_ask 77 = .ok (.aload_n 0, 1) := dk_42 (ck1_s (r := 13) dT_cX11_ask_1 rfl dg_cX11_ask_396.2.2.2.2.2.1)
theorem dX11_ask_78 : decode cX11_ask 78 = .ok (.iload 4, 2) := dk_21 (ck2_s (r := 14) dT_cX11_ask_1 rfl dg_cX11_ask_396.2.2.2.2.2.2.1)
theorem dX11_ask_80 : decode cX11_ask 80 = .ok (.iload_n 3, 1) := dk_29 (ck1_s (r := 16) dT_cX11_ask_1 rfl dg_cX11_ask_396.2.2.2.2.2.2.2)
theorem dg_cX11_ask_397 : ck3L dS_cX11_ask_1 17 182 537 = true ∧ ck1L dS_cX11_ask_1 20 172 = true := by decide +kernel
theorem dX11_ask_81 : decode cX11_ask 81 = .ok (.invokevirtual 537, 3) := dk_182 (ck3_s (r := 17) dT_cX11_ask_1 rfl dg_cX11_ask_397.1)
theorem dX11_ask_84 : decode cX11_ask 84 = .ok (.ireturn, 1) := dk_172 (ck1_s (r := 20) dT_cX11_ask_1 rfl dg_cX11_ask_397.2)
theorem dg_cX11_asked_398 : ck1 cX11_asked 0 42 = true ∧ ck3 cX11_asked 1 180 166 = true ∧ ck1 cX11_asked 4 4 = true ∧ ck3s cX11_asked 5 159 5 = true ∧ ck1 cX11_asked 8 2 = true ∧ ck1 cX11_asked 9 172 = true ∧ ck1 cX11_asked 10 42 = true ∧ ck3 cX11_asked 11 180 159 = true := by decide +kernel
theorem dX11_asked_0 : decode cX11_asked 0 = .ok (.aload_n 0, 1) := dk_42 dg_cX11_asked_398.1
theorem dX11_asked_1 : decode cX11_asked 1 = .ok (.getfield 166, 3) := dk_180 dg_cX11_asked_398.2.1
theorem dX11_asked_4 : decode cX11_asked 4 = .ok (.iconst 1, 1) := dk_4 dg_cX11_asked_398.2.2.1
theorem dX11_asked_5 : decode cX11_asked 5 = .ok (.if_icmp .eq 5, 3) := dk_159 dg_cX11_asked_398.2.2.2.1
theorem dX11_asked_8 : decode cX11_asked 8 = .ok (.iconst (-1), 1) := dk_2 dg_cX11_asked_398.2.2.2.2.1
theorem dX11_asked_9 : decode cX11_asked 9 = .ok (.ireturn, 1) := dk_172 dg_cX11_asked_398.2.2.2.2.2.1
theorem dX11_asked_10 : decode cX11_asked 10 = .ok (.aload_n 0, 1) := dk_42 dg_cX11_asked_398.2.2.2.2.2.2.1
theorem dX11_asked_11 : decode cX11_asked 11 = .ok (.getfield 159, 3) := dk_180 dg_cX11_asked_398.2.2.2.2.2.2.2
theorem dg_cX11_asked_399 : ck3 cX11_asked 14 20 208 = true ∧ ck1 cX11_asked 17 148 = true ∧ ck3s cX11_asked 18 154 5 = true ∧ ck1 cX11_asked 21 3 = true ∧ ck1 cX11_asked 22 172 = true ∧ ck1 cX11_asked 23 42 = true ∧ ck3 cX11_asked 24 180 159 = true ∧ ck3 cX11_asked 27 20 210 = true := by decide +kernel
theorem dX11_asked_14 : decode cX11_asked 14 = .ok (.ldc2_w 208, 3) := dk_20 dg_cX11_asked_399.1
theorem dX11_asked_17 : decode cX11_asked 17 = .ok (.lcmp, 1) := dk_148 dg_cX11_asked_399.2.1
theorem dX11_asked_18 : decode cX11_asked 18 = .ok (.ifCond .ne 5, 3) := dk_154 dg_cX11_asked_399.2.2.1
theorem dX11_asked_21 : decode cX11_asked 21 = .ok (.iconst 0, 1) := dk_3 dg_cX11_asked_399.2.2.2.1
theorem dX11_asked_22 : decode cX11_asked 22 = .ok (.ireturn, 1) := dk_172 dg_cX11_asked_399.2.2.2.2.1
theorem dX11_asked_23 : decode cX11_asked 23 = .ok (.aload_n 0, 1) := dk_42 dg_cX11_asked_399.2.2.2.2.2.1
theorem dX11_asked_24 : decode cX11_asked 24 = .ok (.getfield 159, 3) := dk_180 dg_cX11_asked_399.2.2.2.2.2.2.1
theorem dX11_asked_27 : decode cX11_asked 27 = .ok (.ldc2_w 210, 3) := dk_20 dg_cX11_asked_399.2.2.2.2.2.2.2
theorem dg_cX11_asked_400 : ck1 cX11_asked 30 148 = true ∧ ck3s cX11_asked 31 154 5 = true ∧ ck1 cX11_asked 34 4 = true ∧ ck1 cX11_asked 35 172 = true ∧ ck1 cX11_asked 36 42 = true ∧ ck3 cX11_asked 37 180 159 = true ∧ ck3 cX11_asked 40 20 212 = true ∧ ck1 cX11_asked 43 148 = true := by decide +kernel
theorem dX11_asked_30 : decode cX11_asked 30 = .ok (.lcmp, 1) := dk_148 dg_cX11_asked_400.1
theorem dX11_asked_31 : decode cX11_asked 31 = .ok (.ifCond .ne 5, 3) := dk_154 dg_cX11_asked_400.2.1
theorem dX11_asked_34 : decode cX11_asked 34 = .ok (.iconst 1, 1) := dk_4 dg_cX11_asked_400.2.2.1
theorem dX11_asked_35 : decode cX11_asked 35 = .ok (.ireturn, 1) := dk_172 dg_cX11_asked_400.2.2.2.1
theorem dX11_asked_36 : decode cX11_asked 36 = .ok (.aload_n 0, 1) := dk_42 dg_cX11_asked_400.2.2.2.2.1
theorem dX11_asked_37 : decode cX11_asked 37 = .ok (.getfield 159, 3) := dk_180 dg_cX11_asked_400.2.2.2.2.2.1
theorem dX11_asked_40 : decode cX11_asked 40 = .ok (.ldc2_w 212, 3) := dk_20 dg_cX11_asked_400.2.2.2.2.2.2.1
theorem dX11_asked_43 : decode cX11_asked 43 = .ok (.lcmp, 1) := dk_148 dg_cX11_asked_400.2.2.2.2.2.2.2
theorem dg_cX11_asked_401 : ck3s cX11_asked 44 154 5 = true ∧ ck1 cX11_asked 47 5 = true ∧ ck1 cX11_asked 48 172 = true ∧ ck1 cX11_asked 49 42 = true ∧ ck3 cX11_asked 50 180 159 = true ∧ ck3 cX11_asked 53 20 214 = true ∧ ck1 cX11_asked 56 148 = true ∧ ck3s cX11_asked 57 154 5 = true := by decide +kernel
theorem dX11_asked_44 : decode cX11_asked 44 = .ok (.ifCond .ne 5, 3) := dk_154 dg_cX11_asked_401.1
theorem dX11_asked_47 : decode cX11_asked 47 = .ok (.iconst 2, 1) := dk_5 dg_cX11_asked_401.2.1
theorem dX11_asked_48 : decode cX11_asked 48 = .ok (.ireturn, 1) := dk_172 dg_cX11_asked_401.2.2.1
theorem dX11_asked_49 : decode cX11_asked 49 = .ok (.aload_n 0, 1) := dk_42 dg_cX11_asked_401.2.2.2.1
theorem dX11_asked_50 : decode cX11_asked 50 = .ok (.getfield 159, 3) := dk_180 dg_cX11_asked_401.2.2.2.2.1
theorem dX11_asked_53 : decode cX11_asked 53 = .ok (.ldc2_w 214, 3) := dk_20 dg_cX11_asked_401.2.2.2.2.2.1
theorem dX11_asked_56 : decode cX11_asked 56 = .ok (.lcmp, 1) := dk_148 dg_cX11_asked_401.2.2.2.2.2.2.1
theorem dX11_asked_57 : decode cX11_asked 57 = .ok (.ifCond .ne 5, 3) := dk_154 dg_cX11_asked_401.2.2.2.2.2.2.2
theorem dg_cX11_asked_402 : ck1 cX11_asked 60 6 = true ∧ ck1 cX11_asked 61 172 = true ∧ ck1 cX11_asked 62 42 = true ∧ ck3 cX11_asked 63 180 159 = true := by decide +kernel
theorem dX11_asked_60 : decode cX11_asked 60 = .ok (.iconst 3, 1) := dk_6 dg_cX11_asked_402.1
theorem dX11_asked_61 : decode cX11_asked 61 = .ok (.ireturn, 1) := dk_172 dg_cX11_asked_402.2.1
theorem dX11_asked_62 : decode cX11_asked 62 = .ok (.aload_n 0, 1) := dk_42 dg_cX11_asked_402.2.2.1
theorem dX11_asked_63 : decode cX11_asked 63 = .ok (.getfield 159, 3) := dk_180 dg_cX11_asked_402.2.2.2
def dS_cX11_asked_1 : List UInt8 := 0 :: 159 :: 20 :: 0 :: 194 :: 148 :: 154 :: 0 :: 5 :: 7 :: 172 :: 42 :: 180 :: 0 :: 159 :: 20 :: 0 :: 216 :: 148 :: 154 :: 0 :: 7 :: 8 :: 167 :: 0 :: 4 :: 2 :: 172 :: []
def dS_cX11_asked_0 : List UInt8 := 42 :: 180 :: 0 :: 166 :: 4 :: 159 :: 0 :: 5 :: 2 :: 172 :: 42 :: 180 :: 0 :: 159 :: 20 :: 0 :: 208 :: 148 :: 154 :: 0 :: 5 :: 3 :: 172 :: 42 :: 180 :: 0 :: 159 :: 20 :: 0 :: 210 :: 148 :: 154 :: 0 :: 5 :: 4 :: 172 :: 42 :: 180 :: 0 :: 159 :: 20 :: 0 :: 212 :: 148 :: 154 :: 0 :: 5 :: 5 :: 172 :: 42 :: 180 :: 0 :: 159 :: 20 :: 0 :: 214 :: 148 :: 154 :: 0 :: 5 :: 6 :: 172 :: 42 :: 180 :: dS_cX11_asked_1
theorem dT_cX11_asked_0 : cX11_asked.data.toList.drop 0 = dS_cX11_asked_0 := by decide +kernel
theorem dT_cX11_asked_1 : cX11_asked.data.toList.drop 64 = dS_cX11_asked_1 := ck_nx dT_cX11_asked_0 (by decide +kernel) rfl
theorem dg_cX11_asked_403 : ck3L dS_cX11_asked_1 2 20 194 = true ∧ ck1L dS_cX11_asked_1 5 148 = true ∧ ck3sL dS_cX11_asked_1 6 154 5 = true ∧ ck1L dS_cX11_asked_1 9 7 = true ∧ ck1L dS_cX11_asked_1 10 172 = true ∧ ck1L dS_cX11_asked_1 11 42 = true ∧ ck3L dS_cX11_asked_1 12 180 159 = true ∧ ck3L dS_cX11_asked_1 15 20 216 = true := by decide +kernel
theorem dX11_asked_66 : decode cX11_asked 66 = .ok (.ldc2_w 194, 3) := dk_20 (ck3_s (r := 2) dT_cX11_asked_1 rfl dg_cX11_asked_403.1)
theorem dX11_asked_69 : decode cX11_asked 69 = .ok (.lcmp, 1) := dk_148 (ck1_s (r := 5) dT_cX11_asked_1 rfl dg_cX11_asked_403.2.1)
theorem dX11_asked_70 : decode cX11_asked 70 = .ok (.ifCond .ne 5, 3) := dk_154 (ck3s_s (r := 6) dT_cX11_asked_1 rfl dg_cX11_asked_403.2.2.1)
theorem dX11_asked_73 : decode cX11_asked 73 = .ok (.iconst 4, 1) := dk_7 (ck1_s (r := 9) dT_cX11_asked_1 rfl dg_cX11_asked_403.2.2.2.1)
theorem dX11_asked_74 : decode cX11_asked 74 = .ok (.ireturn, 1) := dk_172 (ck1_s (r := 10) dT_cX11_asked_1 rfl dg_cX11_asked_403.2.2.2.2.1)
theorem dX11_asked_75 : decode cX11_asked 75 = .ok (.aload_n 0, 1) := dk_42 (ck1_s (r := 11) dT_cX11_asked_1 rfl dg_cX11_asked_403.2.2.2.2.2.1)
theorem dX11_asked_76 : decode cX11_asked 76 = .ok (.getfield 159, 3) := dk_180 (ck3_s (r := 12) dT_cX11_asked_1 rfl dg_cX11_asked_403.2.2.2.2.2.2.1)
theorem dX11_asked_79 : decode cX11_asked 79 = .ok (.ldc2_w 216, 3) := dk_20 (ck3_s (r := 15) dT_cX11_asked_1 rfl dg_cX11_asked_403.2.2.2.2.2.2.2)
theorem dg_cX11_asked_404 : ck1L dS_cX11_asked_1 18 148 = true ∧ ck3sL dS_cX11_asked_1 19 154 7 = true ∧ ck1L dS_cX11_asked_1 22 8 = true ∧ ck3sL dS_cX11_asked_1 23 167 4 = true ∧ ck1L dS_cX11_asked_1 26 2 = true ∧ ck1L dS_cX11_asked_1 27 172 = true := by decide +kernel
theorem dX11_asked_82 : decode cX11_asked 82 = .ok (.lcmp, 1) := dk_148 (ck1_s (r := 18) dT_cX11_asked_1 rfl dg_cX11_asked_404.1)
theorem dX11_asked_83 : decode cX11_asked 83 = .ok (.ifCond .ne 7, 3) := dk_154 (ck3s_s (r := 19) dT_cX11_asked_1 rfl dg_cX11_asked_404.2.1)
theorem dX11_asked_86 : decode cX11_asked 86 = .ok (.iconst 5, 1) := dk_8 (ck1_s (r := 22) dT_cX11_asked_1 rfl dg_cX11_asked_404.2.2.1)
theorem dX11_asked_87 : decode cX11_asked 87 = .ok (.goto 4, 3) := dk_167 (ck3s_s (r := 23) dT_cX11_asked_1 rfl dg_cX11_asked_404.2.2.2.1)
theorem dX11_asked_90 : decode cX11_asked 90 = .ok (.iconst (-1), 1) := dk_2 (ck1_s (r := 26) dT_cX11_asked_1 rfl dg_cX11_asked_404.2.2.2.2.1)
theorem dX11_asked_91 : decode cX11_asked 91 = .ok (.ireturn, 1) := dk_172 (ck1_s (r := 27) dT_cX11_asked_1 rfl dg_cX11_asked_404.2.2.2.2.2)
theorem dg_cX11_back_405 : ck1 cX11_back 0 27 = true ∧ ck3 cX11_back 1 184 540 = true ∧ ck3s cX11_back 4 153 12 = true ∧ ck1 cX11_back 7 42 = true ∧ ck3 cX11_back 8 180 133 = true ∧ ck1 cX11_back 11 27 = true ∧ ck1 cX11_back 12 51 = true ∧ ck3s cX11_back 13 154 5 = true := by decide +kernel
theorem dX11_back_0 : decode cX11_back 0 = .ok (.iload_n 1, 1) := dk_27 dg_cX11_back_405.1
theorem dX11_back_1 : decode cX11_back 1 = .ok (.invokestatic 540, 3) := dk_184 dg_cX11_back_405.2.1
theorem dX11_back_4 : decode cX11_back 4 = .ok (.ifCond .eq 12, 3) := dk_153 dg_cX11_back_405.2.2.1
theorem dX11_back_7 : decode cX11_back 7 = .ok (.aload_n 0, 1) := dk_42 dg_cX11_back_405.2.2.2.1
theorem dX11_back_8 : decode cX11_back 8 = .ok (.getfield 133, 3) := dk_180 dg_cX11_back_405.2.2.2.2.1
theorem dX11_back_11 : decode cX11_back 11 = .ok (.iload_n 1, 1) := dk_27 dg_cX11_back_405.2.2.2.2.2.1
theorem dX11_back_12 : decode cX11_back 12 = .ok (.baload, 1) := dk_51 dg_cX11_back_405.2.2.2.2.2.2.1
theorem dX11_back_13 : decode cX11_back 13 = .ok (.ifCond .ne 5, 3) := dk_154 dg_cX11_back_405.2.2.2.2.2.2.2
theorem dg_cX11_back_406 : ck1 cX11_back 16 2 = true ∧ ck1 cX11_back 17 172 = true ∧ ck1 cX11_back 18 3 = true ∧ ck1 cX11_back 19 61 = true ∧ ck1 cX11_back 20 28 = true ∧ ck2s cX11_back 21 16 39 = true ∧ ck3s cX11_back 23 162 26 = true ∧ ck1 cX11_back 26 42 = true := by decide +kernel
theorem dX11_back_16 : decode cX11_back 16 = .ok (.iconst (-1), 1) := dk_2 dg_cX11_back_406.1
theorem dX11_back_17 : decode cX11_back 17 = .ok (.ireturn, 1) := dk_172 dg_cX11_back_406.2.1
theorem dX11_back_18 : decode cX11_back 18 = .ok (.iconst 0, 1) := dk_3 dg_cX11_back_406.2.2.1
theorem dX11_back_19 : decode cX11_back 19 = .ok (.istore_n 2, 1) := dk_61 dg_cX11_back_406.2.2.2.1
theorem dX11_back_20 : decode cX11_back 20 = .ok (.iload_n 2, 1) := dk_28 dg_cX11_back_406.2.2.2.2.1
theorem dX11_back_21 : decode cX11_back 21 = .ok (.bipush 39, 2) := dk_16 dg_cX11_back_406.2.2.2.2.2.1
theorem dX11_back_23 : decode cX11_back 23 = .ok (.if_icmp .ge 26, 3) := dk_162 dg_cX11_back_406.2.2.2.2.2.2.1
theorem dX11_back_26 : decode cX11_back 26 = .ok (.aload_n 0, 1) := dk_42 dg_cX11_back_406.2.2.2.2.2.2.2
theorem dg_cX11_back_407 : ck3 cX11_back 27 180 93 = true ∧ ck1 cX11_back 30 28 = true ∧ ck1 cX11_back 31 42 = true ∧ ck3 cX11_back 32 180 136 = true ∧ ck2s cX11_back 35 16 39 = true ∧ ck1 cX11_back 37 27 = true ∧ ck1 cX11_back 38 104 = true ∧ ck1 cX11_back 39 28 = true := by decide +kernel
theorem dX11_back_27 : decode cX11_back 27 = .ok (.getfield 93, 3) := dk_180 dg_cX11_back_407.1
theorem dX11_back_30 : decode cX11_back 30 = .ok (.iload_n 2, 1) := dk_28 dg_cX11_back_407.2.1
theorem dX11_back_31 : decode cX11_back 31 = .ok (.aload_n 0, 1) := dk_42 dg_cX11_back_407.2.2.1
theorem dX11_back_32 : decode cX11_back 32 = .ok (.getfield 136, 3) := dk_180 dg_cX11_back_407.2.2.2.1
theorem dX11_back_35 : decode cX11_back 35 = .ok (.bipush 39, 2) := dk_16 dg_cX11_back_407.2.2.2.2.1
theorem dX11_back_37 : decode cX11_back 37 = .ok (.iload_n 1, 1) := dk_27 dg_cX11_back_407.2.2.2.2.2.1
theorem dX11_back_38 : decode cX11_back 38 = .ok (.imul, 1) := dk_104 dg_cX11_back_407.2.2.2.2.2.2.1
theorem dX11_back_39 : decode cX11_back 39 = .ok (.iload_n 2, 1) := dk_28 dg_cX11_back_407.2.2.2.2.2.2.2
theorem dg_cX11_back_408 : ck1 cX11_back 40 96 = true ∧ ck1 cX11_back 41 46 = true ∧ ck1 cX11_back 42 79 = true ∧ ck3i cX11_back 43 132 2 1 = true ∧ ck3s cX11_back 46 167 (-26) = true ∧ ck1 cX11_back 49 42 = true ∧ ck1 cX11_back 50 3 = true ∧ ck3 cX11_back 51 181 405 = true := by decide +kernel
theorem dX11_back_40 : decode cX11_back 40 = .ok (.iadd, 1) := dk_96 dg_cX11_back_408.1
theorem dX11_back_41 : decode cX11_back 41 = .ok (.iaload, 1) := dk_46 dg_cX11_back_408.2.1
theorem dX11_back_42 : decode cX11_back 42 = .ok (.iastore, 1) := dk_79 dg_cX11_back_408.2.2.1
theorem dX11_back_43 : decode cX11_back 43 = .ok (.iinc 2 1, 3) := dk_132 dg_cX11_back_408.2.2.2.1
theorem dX11_back_46 : decode cX11_back 46 = .ok (.goto (-26), 3) := dk_167 dg_cX11_back_408.2.2.2.2.1
theorem dX11_back_49 : decode cX11_back 49 = .ok (.aload_n 0, 1) := dk_42 dg_cX11_back_408.2.2.2.2.2.1
theorem dX11_back_50 : decode cX11_back 50 = .ok (.iconst 0, 1) := dk_3 dg_cX11_back_408.2.2.2.2.2.2.1
theorem dX11_back_51 : decode cX11_back 51 = .ok (.putfield 405, 3) := dk_181 dg_cX11_back_408.2.2.2.2.2.2.2
theorem dg_cX11_back_409 : ck1 cX11_back 54 42 = true ∧ ck1 cX11_back 55 3 = true ∧ ck3 cX11_back 56 181 408 = true ∧ ck1 cX11_back 59 42 = true ∧ ck3 cX11_back 60 180 93 = true ∧ ck2s cX11_back 63 16 37 = true := by decide +kernel
theorem dX11_back_54 : decode cX11_back 54 = .ok (.aload_n 0, 1) := dk_42 dg_cX11_back_409.1
theorem dX11_back_55 : decode cX11_back 55 = .ok (.iconst 0, 1) := dk_3 dg_cX11_back_409.2.1
theorem dX11_back_56 : decode cX11_back 56 = .ok (.putfield 408, 3) := dk_181 dg_cX11_back_409.2.2.1
theorem dX11_back_59 : decode cX11_back 59 = .ok (.aload_n 0, 1) := dk_42 dg_cX11_back_409.2.2.2.1
theorem dX11_back_60 : decode cX11_back 60 = .ok (.getfield 93, 3) := dk_180 dg_cX11_back_409.2.2.2.2.1
theorem dX11_back_63 : decode cX11_back 63 = .ok (.bipush 37, 2) := dk_16 dg_cX11_back_409.2.2.2.2.2
def dS_cX11_back_1 : List UInt8 := 37 :: 46 :: 172 :: []
def dS_cX11_back_0 : List UInt8 := 27 :: 184 :: 2 :: 28 :: 153 :: 0 :: 12 :: 42 :: 180 :: 0 :: 133 :: 27 :: 51 :: 154 :: 0 :: 5 :: 2 :: 172 :: 3 :: 61 :: 28 :: 16 :: 39 :: 162 :: 0 :: 26 :: 42 :: 180 :: 0 :: 93 :: 28 :: 42 :: 180 :: 0 :: 136 :: 16 :: 39 :: 27 :: 104 :: 28 :: 96 :: 46 :: 79 :: 132 :: 2 :: 1 :: 167 :: 255 :: 230 :: 42 :: 3 :: 181 :: 1 :: 149 :: 42 :: 3 :: 181 :: 1 :: 152 :: 42 :: 180 :: 0 :: 93 :: 16 :: dS_cX11_back_1
theorem dT_cX11_back_0 : cX11_back.data.toList.drop 0 = dS_cX11_back_0 := by decide +kernel
theorem dT_cX11_back_1 : cX11_back.data.toList.drop 64 = dS_cX11_back_1 := ck_nx dT_cX11_back_0 (by decide +kernel) rfl
theorem dg_cX11_back_410 : ck1L dS_cX11_back_1 1 46 = true ∧ ck1L dS_cX11_back_1 2 172 = true := by decide +kernel
theorem dX11_back_65 : decode cX11_back 65 = .ok (.iaload, 1) := dk_46 (ck1_s (r := 1) dT_cX11_back_1 rfl dg_cX11_back_410.1)
theorem dX11_back_66 : decode cX11_back 66 = .ok (.ireturn, 1) := dk_172 (ck1_s (r := 2) dT_cX11_back_1 rfl dg_cX11_back_410.2)
theorem dg_cX11_begin_411 : ck1 cX11_begin 0 3 = true ∧ ck1 cX11_begin 1 60 = true ∧ ck1 cX11_begin 2 27 = true ∧ ck2s cX11_begin 3 16 39 = true ∧ ck3s cX11_begin 5 162 16 = true ∧ ck1 cX11_begin 8 42 = true ∧ ck3 cX11_begin 9 180 96 = true ∧ ck1 cX11_begin 12 27 = true := by decide +kernel
theorem dX11_begin_0 : decode cX11_begin 0 = .ok (.iconst 0, 1) := dk_3 dg_cX11_begin_411.1
theorem dX11_begin_1 : decode cX11_begin 1 = .ok (.istore_n 1, 1) := dk_60 dg_cX11_begin_411.2.1
theorem dX11_begin_2 : decode cX11_begin 2 = .ok (.iload_n 1, 1) := dk_27 dg_cX11_begin_411.2.2.1
theorem dX11_begin_3 : decode cX11_begin 3 = .ok (.bipush 39, 2) := dk_16 dg_cX11_begin_411.2.2.2.1
theorem dX11_begin_5 : decode cX11_begin 5 = .ok (.if_icmp .ge 16, 3) := dk_162 dg_cX11_begin_411.2.2.2.2.1
theorem dX11_begin_8 : decode cX11_begin 8 = .ok (.aload_n 0, 1) := dk_42 dg_cX11_begin_411.2.2.2.2.2.1
theorem dX11_begin_9 : decode cX11_begin 9 = .ok (.getfield 96, 3) := dk_180 dg_cX11_begin_411.2.2.2.2.2.2.1
theorem dX11_begin_12 : decode cX11_begin 12 = .ok (.iload_n 1, 1) := dk_27 dg_cX11_begin_411.2.2.2.2.2.2.2
theorem dg_cX11_begin_412 : ck1 cX11_begin 13 3 = true ∧ ck1 cX11_begin 14 79 = true ∧ ck3i cX11_begin 15 132 1 1 = true ∧ ck3s cX11_begin 18 167 (-16) = true ∧ ck1 cX11_begin 21 3 = true ∧ ck1 cX11_begin 22 60 = true ∧ ck1 cX11_begin 23 27 = true ∧ ck1 cX11_begin 24 42 = true := by decide +kernel
theorem dX11_begin_13 : decode cX11_begin 13 = .ok (.iconst 0, 1) := dk_3 dg_cX11_begin_412.1
theorem dX11_begin_14 : decode cX11_begin 14 = .ok (.iastore, 1) := dk_79 dg_cX11_begin_412.2.1
theorem dX11_begin_15 : decode cX11_begin 15 = .ok (.iinc 1 1, 3) := dk_132 dg_cX11_begin_412.2.2.1
theorem dX11_begin_18 : decode cX11_begin 18 = .ok (.goto (-16), 3) := dk_167 dg_cX11_begin_412.2.2.2.1
theorem dX11_begin_21 : decode cX11_begin 21 = .ok (.iconst 0, 1) := dk_3 dg_cX11_begin_412.2.2.2.2.1
theorem dX11_begin_22 : decode cX11_begin 22 = .ok (.istore_n 1, 1) := dk_60 dg_cX11_begin_412.2.2.2.2.2.1
theorem dX11_begin_23 : decode cX11_begin 23 = .ok (.iload_n 1, 1) := dk_27 dg_cX11_begin_412.2.2.2.2.2.2.1
theorem dX11_begin_24 : decode cX11_begin 24 = .ok (.aload_n 0, 1) := dk_42 dg_cX11_begin_412.2.2.2.2.2.2.2
theorem dg_cX11_begin_413 : ck3 cX11_begin 25 180 387 = true ∧ ck3s cX11_begin 28 162 31 = true ∧ ck1 cX11_begin 31 42 = true ∧ ck3 cX11_begin 32 180 96 = true ∧ ck1 cX11_begin 35 27 = true ∧ ck1 cX11_begin 36 42 = true ∧ ck3 cX11_begin 37 180 66 = true ∧ ck1 cX11_begin 40 27 = true := by decide +kernel
theorem dX11_begin_25 : decode cX11_begin 25 = .ok (.getfield 387, 3) := dk_180 dg_cX11_begin_413.1
theorem dX11_begin_28 : decode cX11_begin 28 = .ok (.if_icmp .ge 31, 3) := dk_162 dg_cX11_begin_413.2.1
theorem dX11_begin_31 : decode cX11_begin 31 = .ok (.aload_n 0, 1) := dk_42 dg_cX11_begin_413.2.2.1
theorem dX11_begin_32 : decode cX11_begin 32 = .ok (.getfield 96, 3) := dk_180 dg_cX11_begin_413.2.2.2.1
theorem dX11_begin_35 : decode cX11_begin 35 = .ok (.iload_n 1, 1) := dk_27 dg_cX11_begin_413.2.2.2.2.1
theorem dX11_begin_36 : decode cX11_begin 36 = .ok (.aload_n 0, 1) := dk_42 dg_cX11_begin_413.2.2.2.2.2.1
theorem dX11_begin_37 : decode cX11_begin 37 = .ok (.getfield 66, 3) := dk_180 dg_cX11_begin_413.2.2.2.2.2.2.1
theorem dX11_begin_40 : decode cX11_begin 40 = .ok (.iload_n 1, 1) := dk_27 dg_cX11_begin_413.2.2.2.2.2.2.2
theorem dg_cX11_begin_414 : ck1 cX11_begin 41 46 = true ∧ ck1 cX11_begin 42 79 = true ∧ ck1 cX11_begin 43 42 = true ∧ ck3 cX11_begin 44 180 96 = true ∧ ck2s cX11_begin 47 16 6 = true ∧ ck1 cX11_begin 49 27 = true ∧ ck1 cX11_begin 50 96 = true ∧ ck1 cX11_begin 51 2 = true := by decide +kernel
theorem dX11_begin_41 : decode cX11_begin 41 = .ok (.iaload, 1) := dk_46 dg_cX11_begin_414.1
theorem dX11_begin_42 : decode cX11_begin 42 = .ok (.iastore, 1) := dk_79 dg_cX11_begin_414.2.1
theorem dX11_begin_43 : decode cX11_begin 43 = .ok (.aload_n 0, 1) := dk_42 dg_cX11_begin_414.2.2.1
theorem dX11_begin_44 : decode cX11_begin 44 = .ok (.getfield 96, 3) := dk_180 dg_cX11_begin_414.2.2.2.1
theorem dX11_begin_47 : decode cX11_begin 47 = .ok (.bipush 6, 2) := dk_16 dg_cX11_begin_414.2.2.2.2.1
theorem dX11_begin_49 : decode cX11_begin 49 = .ok (.iload_n 1, 1) := dk_27 dg_cX11_begin_414.2.2.2.2.2.1
theorem dX11_begin_50 : decode cX11_begin 50 = .ok (.iadd, 1) := dk_96 dg_cX11_begin_414.2.2.2.2.2.2.1
theorem dX11_begin_51 : decode cX11_begin 51 = .ok (.iconst (-1), 1) := dk_2 dg_cX11_begin_414.2.2.2.2.2.2.2
theorem dg_cX11_begin_415 : ck1 cX11_begin 52 79 = true ∧ ck3i cX11_begin 53 132 1 1 = true ∧ ck3s cX11_begin 56 167 (-33) = true ∧ ck1 cX11_begin 59 3 = true ∧ ck1 cX11_begin 60 60 = true ∧ ck1 cX11_begin 61 27 = true ∧ ck1 cX11_begin 62 42 = true ∧ ck3 cX11_begin 63 180 390 = true := by decide +kernel
theorem dX11_begin_52 : decode cX11_begin 52 = .ok (.iastore, 1) := dk_79 dg_cX11_begin_415.1
theorem dX11_begin_53 : decode cX11_begin 53 = .ok (.iinc 1 1, 3) := dk_132 dg_cX11_begin_415.2.1
theorem dX11_begin_56 : decode cX11_begin 56 = .ok (.goto (-33), 3) := dk_167 dg_cX11_begin_415.2.2.1
theorem dX11_begin_59 : decode cX11_begin 59 = .ok (.iconst 0, 1) := dk_3 dg_cX11_begin_415.2.2.2.1
theorem dX11_begin_60 : decode cX11_begin 60 = .ok (.istore_n 1, 1) := dk_60 dg_cX11_begin_415.2.2.2.2.1
theorem dX11_begin_61 : decode cX11_begin 61 = .ok (.iload_n 1, 1) := dk_27 dg_cX11_begin_415.2.2.2.2.2.1
theorem dX11_begin_62 : decode cX11_begin 62 = .ok (.aload_n 0, 1) := dk_42 dg_cX11_begin_415.2.2.2.2.2.2.1
theorem dX11_begin_63 : decode cX11_begin 63 = .ok (.getfield 390, 3) := dk_180 dg_cX11_begin_415.2.2.2.2.2.2.2
def dS_cX11_begin_2 : List UInt8 := 79 :: 132 :: 1 :: 1 :: 167 :: 255 :: 185 :: 177 :: []
def dS_cX11_begin_1 : List UInt8 := 1 :: 134 :: 162 :: 0 :: 69 :: 42 :: 180 :: 0 :: 96 :: 16 :: 12 :: 27 :: 96 :: 42 :: 180 :: 0 :: 72 :: 27 :: 46 :: 79 :: 42 :: 180 :: 0 :: 96 :: 16 :: 18 :: 27 :: 96 :: 42 :: 180 :: 0 :: 75 :: 27 :: 46 :: 79 :: 42 :: 180 :: 0 :: 96 :: 16 :: 24 :: 27 :: 96 :: 42 :: 180 :: 0 :: 78 :: 27 :: 46 :: 79 :: 42 :: 180 :: 0 :: 96 :: 16 :: 30 :: 27 :: 96 :: 42 :: 180 :: 0 :: 81 :: 27 :: 46 :: dS_cX11_begin_2
def dS_cX11_begin_0 : List UInt8 := 3 :: 60 :: 27 :: 16 :: 39 :: 162 :: 0 :: 16 :: 42 :: 180 :: 0 :: 96 :: 27 :: 3 :: 79 :: 132 :: 1 :: 1 :: 167 :: 255 :: 240 :: 3 :: 60 :: 27 :: 42 :: 180 :: 1 :: 131 :: 162 :: 0 :: 31 :: 42 :: 180 :: 0 :: 96 :: 27 :: 42 :: 180 :: 0 :: 66 :: 27 :: 46 :: 79 :: 42 :: 180 :: 0 :: 96 :: 16 :: 6 :: 27 :: 96 :: 2 :: 79 :: 132 :: 1 :: 1 :: 167 :: 255 :: 223 :: 3 :: 60 :: 27 :: 42 :: 180 :: dS_cX11_begin_1
theorem dT_cX11_begin_0 : cX11_begin.data.toList.drop 0 = dS_cX11_begin_0 := by decide +kernel
theorem dT_cX11_begin_1 : cX11_begin.data.toList.drop 64 = dS_cX11_begin_1 := ck_nx dT_cX11_begin_0 (by decide +kernel) rfl
theorem dT_cX11_begin_2 : cX11_begin.data.toList.drop 128 = dS_cX11_begin_2 := ck_nx dT_cX11_begin_1 (by decide +kernel) rfl
theorem dg_cX11_begin_416 : ck3sL dS_cX11_begin_1 2 162 69 = true ∧ ck1L dS_cX11_begin_1 5 42 = true ∧ ck3L dS_cX11_begin_1 6 180 96 = true ∧ ck2sL dS_cX11_begin_1 9 16 12 = true ∧ ck1L dS_cX11_begin_1 11 27 = true ∧ ck1L dS_cX11_begin_1 12 96 = true ∧ ck1L dS_cX11_begin_1 13 42 = true ∧ ck3L dS_cX11_begin_1 14 180 72 = true := by decide +kernel
theorem dX11_begin_66 : decode cX11_begin 66 = .ok (.if_icmp .ge 69, 3) := dk_162 (ck3s_s (r := 2) dT_cX11_begin_1 rfl dg_cX11_begin_416.1)
theorem dX11_begin_69 : decode cX11_begin 69 = .ok (.aload_n 0, 1) := dk_42 (ck1_s (r := 5) dT_cX11_begin_1 rfl dg_cX11_begin_416.2.1)
theorem dX11_begin_70 : decode cX11_begin 70 = .ok (.getfield 96, 3) := dk_180 (ck3_s (r := 6) dT_cX11_begin_1 rfl dg_cX11_begin_416.2.2.1)
theorem dX11_begin_73 : decode cX11_begin 73 = .ok (.bipush 12, 2) := dk_16 (ck2s_s (r := 9) dT_cX11_begin_1 rfl dg_cX11_begin_416.2.2.2.1)
theorem dX11_begin_75 : decode cX11_begin 75 = .ok (.iload_n 1, 1) := dk_27 (ck1_s (r := 11) dT_cX11_begin_1 rfl dg_cX11_begin_416.2.2.2.2.1)
theorem dX11_begin_76 : decode cX11_begin 76 = .ok (.iadd, 1) := dk_96 (ck1_s (r := 12) dT_cX11_begin_1 rfl dg_cX11_begin_416.2.2.2.2.2.1)
theorem dX11_begin_77 : decode cX11_begin 77 = .ok (.aload_n 0, 1) := dk_42 (ck1_s (r := 13) dT_cX11_begin_1 rfl dg_cX11_begin_416.2.2.2.2.2.2.1)
theorem dX11_begin_78 : decode cX11_begin 78 = .ok (.getfield 72, 3) := dk_180 (ck3_s (r := 14) dT_cX11_begin_1 rfl dg_cX11_begin_416.2.2.2.2.2.2.2)
theorem dg_cX11_begin_417 : ck1L dS_cX11_begin_1 17 27 = true ∧ ck1L dS_cX11_begin_1 18 46 = true ∧ ck1L dS_cX11_begin_1 19 79 = true ∧ ck1L dS_cX11_begin_1 20 42 = true ∧ ck3L dS_cX11_begin_1 21 180 96 = true ∧ ck2sL dS_cX11_begin_1 24 16 18 = true ∧ ck1L dS_cX11_begin_1 26 27 = true ∧ ck1L dS_cX11_begin_1 27 96 = true := by decide +kernel
theorem dX11_begin_81 : decode cX11_begin 81 = .ok (.iload_n 1, 1) := dk_27 (ck1_s (r := 17) dT_cX11_begin_1 rfl dg_cX11_begin_417.1)
theorem dX11_begin_82 : decode cX11_begin 82 = .ok (.iaload, 1) := dk_46 (ck1_s (r := 18) dT_cX11_begin_1 rfl dg_cX11_begin_417.2.1)
theorem dX11_begin_83 : decode cX11_begin 83 = .ok (.iastore, 1) := dk_79 (ck1_s (r := 19) dT_cX11_begin_1 rfl dg_cX11_begin_417.2.2.1)
theorem dX11_begin_84 : decode cX11_begin 84 = .ok (.aload_n 0, 1) := dk_42 (ck1_s (r := 20) dT_cX11_begin_1 rfl dg_cX11_begin_417.2.2.2.1)
theorem dX11_begin_85 : decode cX11_begin 85 = .ok (.getfield 96, 3) := dk_180 (ck3_s (r := 21) dT_cX11_begin_1 rfl dg_cX11_begin_417.2.2.2.2.1)
theorem dX11_begin_88 : decode cX11_begin 88 = .ok (.bipush 18, 2) := dk_16 (ck2s_s (r := 24) dT_cX11_begin_1 rfl dg_cX11_begin_417.2.2.2.2.2.1)
theorem dX11_begin_90 : decode cX11_begin 90 = .ok (.iload_n 1, 1) := dk_27 (ck1_s (r := 26) dT_cX11_begin_1 rfl dg_cX11_begin_417.2.2.2.2.2.2.1)
theorem dX11_begin_91 : decode cX11_begin 91 = .ok (.iadd, 1) := dk_96 (ck1_s (r := 27) dT_cX11_begin_1 rfl dg_cX11_begin_417.2.2.2.2.2.2.2)
theorem dg_cX11_begin_418 : ck1L dS_cX11_begin_1 28 42 = true ∧ ck3L dS_cX11_begin_1 29 180 75 = true ∧ ck1L dS_cX11_begin_1 32 27 = true ∧ ck1L dS_cX11_begin_1 33 46 = true ∧ ck1L dS_cX11_begin_1 34 79 = true ∧ ck1L dS_cX11_begin_1 35 42 = true ∧ ck3L dS_cX11_begin_1 36 180 96 = true ∧ ck2sL dS_cX11_begin_1 39 16 24 = true := by decide +kernel
theorem dX11_begin_92 : decode cX11_begin 92 = .ok (.aload_n 0, 1) := dk_42 (ck1_s (r := 28) dT_cX11_begin_1 rfl dg_cX11_begin_418.1)
theorem dX11_begin_93 : decode cX11_begin 93 = .ok (.getfield 75, 3) := dk_180 (ck3_s (r := 29) dT_cX11_begin_1 rfl dg_cX11_begin_418.2.1)
theorem dX11_begin_96 : decode cX11_begin 96 = .ok (.iload_n 1, 1) := dk_27 (ck1_s (r := 32) dT_cX11_begin_1 rfl dg_cX11_begin_418.2.2.1)
theorem dX11_begin_97 : decode cX11_begin 97 = .ok (.iaload, 1) := dk_46 (ck1_s (r := 33) dT_cX11_begin_1 rfl dg_cX11_begin_418.2.2.2.1)
theorem dX11_begin_98 : decode cX11_begin 98 = .ok (.iastore, 1) := dk_79 (ck1_s (r := 34) dT_cX11_begin_1 rfl dg_cX11_begin_418.2.2.2.2.1)
theorem dX11_begin_99 : decode cX11_begin 99 = .ok (.aload_n 0, 1) := dk_42 (ck1_s (r := 35) dT_cX11_begin_1 rfl dg_cX11_begin_418.2.2.2.2.2.1)
theorem dX11_begin_100 : decode cX11_begin 100 = .ok (.getfield 96, 3) := dk_180 (ck3_s (r := 36) dT_cX11_begin_1 rfl dg_cX11_begin_418.2.2.2.2.2.2.1)
theorem dX11_begin_103 : decode cX11_begin 103 = .ok (.bipush 24, 2) := dk_16 (ck2s_s (r := 39) dT_cX11_begin_1 rfl dg_cX11_begin_418.2.2.2.2.2.2.2)
theorem dg_cX11_begin_419 : ck1L dS_cX11_begin_1 41 27 = true ∧ ck1L dS_cX11_begin_1 42 96 = true ∧ ck1L dS_cX11_begin_1 43 42 = true ∧ ck3L dS_cX11_begin_1 44 180 78 = true ∧ ck1L dS_cX11_begin_1 47 27 = true ∧ ck1L dS_cX11_begin_1 48 46 = true ∧ ck1L dS_cX11_begin_1 49 79 = true ∧ ck1L dS_cX11_begin_1 50 42 = true := by decide +kernel
theorem dX11_begin_105 : decode cX11_begin 105 = .ok (.iload_n 1, 1) := dk_27 (ck1_s (r := 41) dT_cX11_begin_1 rfl dg_cX11_begin_419.1)
theorem dX11_begin_106 : decode cX11_begin 106 = .ok (.iadd, 1) := dk_96 (ck1_s (r := 42) dT_cX11_begin_1 rfl dg_cX11_begin_419.2.1)
theorem dX11_begin_107 : decode cX11_begin 107 = .ok (.aload_n 0, 1) := dk_42 (ck1_s (r := 43) dT_cX11_begin_1 rfl dg_cX11_begin_419.2.2.1)
theorem dX11_begin_108 : decode cX11_begin 108 = .ok (.getfield 78, 3) := dk_180 (ck3_s (r := 44) dT_cX11_begin_1 rfl dg_cX11_begin_419.2.2.2.1)
theorem dX11_begin_111 : decode cX11_begin 111 = .ok (.iload_n 1, 1) := dk_27 (ck1_s (r := 47) dT_cX11_begin_1 rfl dg_cX11_begin_419.2.2.2.2.1)
theorem dX11_begin_112 : decode cX11_begin 112 = .ok (.iaload, 1) := dk_46 (ck1_s (r := 48) dT_cX11_begin_1 rfl dg_cX11_begin_419.2.2.2.2.2.1)
theorem dX11_begin_113 : decode cX11_begin 113 = .ok (.iastore, 1) := dk_79 (ck1_s (r := 49) dT_cX11_begin_1 rfl dg_cX11_begin_419.2.2.2.2.2.2.1)
theorem dX11_begin_114 : decode cX11_begin 114 = .ok (.aload_n 0, 1) := dk_42 (ck1_s (r := 50) dT_cX11_begin_1 rfl dg_cX11_begin_419.2.2.2.2.2.2.2)
theorem dg_cX11_begin_420 : ck3L dS_cX11_begin_1 51 180 96 = true ∧ ck2sL dS_cX11_begin_1 54 16 30 = true ∧ ck1L dS_cX11_begin_1 56 27 = true ∧ ck1L dS_cX11_begin_1 57 96 = true ∧ ck1L dS_cX11_begin_1 58 42 = true ∧ ck3L dS_cX11_begin_1 59 180 81 = true ∧ ck1L dS_cX11_begin_1 62 27 = true ∧ ck1L dS_cX11_begin_1 63 46 = true := by decide +kernel
theorem dX11_begin_115 : decode cX11_begin 115 = .ok (.getfield 96, 3) := dk_180 (ck3_s (r := 51) dT_cX11_begin_1 rfl dg_cX11_begin_420.1)
theorem dX11_begin_118 : decode cX11_begin 118 = .ok (.bipush 30, 2) := dk_16 (ck2s_s (r := 54) dT_cX11_begin_1 rfl dg_cX11_begin_420.2.1)
theorem dX11_begin_120 : decode cX11_begin 120 = .ok (.iload_n 1, 1) := dk_27 (ck1_s (r := 56) dT_cX11_begin_1 rfl dg_cX11_begin_420.2.2.1)
theorem dX11_begin_121 : decode cX11_begin 121 = .ok (.iadd, 1) := dk_96 (ck1_s (r := 57) dT_cX11_begin_1 rfl dg_cX11_begin_420.2.2.2.1)
theorem dX11_begin_122 : decode cX11_begin 122 = .ok (.aload_n 0, 1) := dk_42 (ck1_s (r := 58) dT_cX11_begin_1 rfl dg_cX11_begin_420.2.2.2.2.1)
theorem dX11_begin_123 : decode cX11_begin 123 = .ok (.getfield 81, 3) := dk_180 (ck3_s (r := 59) dT_cX11_begin_1 rfl dg_cX11_begin_420.2.2.2.2.2.1)
theorem dX11_begin_126 : decode cX11_begin 126 = .ok (.iload_n 1, 1) := dk_27 (ck1_s (r := 62) dT_cX11_begin_1 rfl dg_cX11_begin_420.2.2.2.2.2.2.1)
theorem dX11_begin_127 : decode cX11_begin 127 = .ok (.iaload, 1) := dk_46 (ck1_s (r := 63) dT_cX11_begin_1 rfl dg_cX11_begin_420.2.2.2.2.2.2.2)
theorem dg_cX11_begin_421 : ck1L dS_cX11_begin_2 0 79 = true ∧ ck3iL dS_cX11_begin_2 1 132 1 1 = true ∧ ck3sL dS_cX11_begin_2 4 167 (-71) = true ∧ ck1L dS_cX11_begin_2 7 177 = true := by decide +kernel
theorem dX11_begin_128 : decode cX11_begin 128 = .ok (.iastore, 1) := dk_79 (ck1_s (r := 0) dT_cX11_begin_2 rfl dg_cX11_begin_421.1)
theorem dX11_begin_129 : decode cX11_begin 129 = .ok (.iinc 1 1, 3) := dk_132 (ck3i_s (r := 1) dT_cX11_begin_2 rfl dg_cX11_begin_421.2.1)
theorem dX11_begin_132 : decode cX11_begin 132 = .ok (.goto (-71), 3) := dk_167 (ck3s_s (r := 4) dT_cX11_begin_2 rfl dg_cX11_begin_421.2.2.1)
theorem dX11_begin_135 : decode cX11_begin 135 = .ok (.return_, 1) := dk_177 (ck1_s (r := 7) dT_cX11_begin_2 rfl dg_cX11_begin_421.2.2.2)
theorem dg_cX11_breadth_422 : ck1 cX11_breadth 0 42 = true ∧ ck3 cX11_breadth 1 182 449 = true ∧ ck1 cX11_breadth 4 42 = true ∧ ck1 cX11_breadth 5 42 = true ∧ ck3 cX11_breadth 6 182 440 = true ∧ ck3 cX11_breadth 9 182 492 = true ∧ ck1 cX11_breadth 12 172 = true := by decide +kernel
theorem dX11_breadth_0 : decode cX11_breadth 0 = .ok (.aload_n 0, 1) := dk_42 dg_cX11_breadth_422.1
theorem dX11_breadth_1 : decode cX11_breadth 1 = .ok (.invokevirtual 449, 3) := dk_182 dg_cX11_breadth_422.2.1
theorem dX11_breadth_4 : decode cX11_breadth 4 = .ok (.aload_n 0, 1) := dk_42 dg_cX11_breadth_422.2.2.1
theorem dX11_breadth_5 : decode cX11_breadth 5 = .ok (.aload_n 0, 1) := dk_42 dg_cX11_breadth_422.2.2.2.1
theorem dX11_breadth_6 : decode cX11_breadth 6 = .ok (.invokevirtual 440, 3) := dk_182 dg_cX11_breadth_422.2.2.2.2.1
theorem dX11_breadth_9 : decode cX11_breadth 9 = .ok (.invokevirtual 492, 3) := dk_182 dg_cX11_breadth_422.2.2.2.2.2.1
theorem dX11_breadth_12 : decode cX11_breadth 12 = .ok (.ireturn, 1) := dk_172 dg_cX11_breadth_422.2.2.2.2.2.2
theorem dg_cX11_buttons_423 : ck1 cX11_buttons 0 42 = true ∧ ck1 cX11_buttons 1 42 = true ∧ ck3 cX11_buttons 2 180 387 = true ∧ ck3 cX11_buttons 5 181 414 = true ∧ ck1 cX11_buttons 8 4 = true ∧ ck1 cX11_buttons 9 60 = true ∧ ck1 cX11_buttons 10 27 = true ∧ ck1 cX11_buttons 11 42 = true := by decide +kernel
theorem dX11_buttons_0 : decode cX11_buttons 0 = .ok (.aload_n 0, 1) := dk_42 dg_cX11_buttons_423.1
theorem dX11_buttons_1 : decode cX11_buttons 1 = .ok (.aload_n 0, 1) := dk_42 dg_cX11_buttons_423.2.1
theorem dX11_buttons_2 : decode cX11_buttons 2 = .ok (.getfield 387, 3) := dk_180 dg_cX11_buttons_423.2.2.1
theorem dX11_buttons_5 : decode cX11_buttons 5 = .ok (.putfield 414, 3) := dk_181 dg_cX11_buttons_423.2.2.2.1
theorem dX11_buttons_8 : decode cX11_buttons 8 = .ok (.iconst 1, 1) := dk_4 dg_cX11_buttons_423.2.2.2.2.1
theorem dX11_buttons_9 : decode cX11_buttons 9 = .ok (.istore_n 1, 1) := dk_60 dg_cX11_buttons_423.2.2.2.2.2.1
theorem dX11_buttons_10 : decode cX11_buttons 10 = .ok (.iload_n 1, 1) := dk_27 dg_cX11_buttons_423.2.2.2.2.2.2.1
theorem dX11_buttons_11 : decode cX11_buttons 11 = .ok (.aload_n 0, 1) := dk_42 dg_cX11_buttons_423.2.2.2.2.2.2.2
theorem dg_cX11_buttons_424 : ck3 cX11_buttons 12 180 387 = true ∧ ck3s cX11_buttons 15 163 71 = true ∧ ck1 cX11_buttons 18 3 = true ∧ ck1 cX11_buttons 19 61 = true ∧ ck1 cX11_buttons 20 28 = true ∧ ck1 cX11_buttons 21 27 = true ∧ ck1 cX11_buttons 22 42 = true ∧ ck3 cX11_buttons 23 180 387 = true := by decide +kernel
theorem dX11_buttons_12 : decode cX11_buttons 12 = .ok (.getfield 387, 3) := dk_180 dg_cX11_buttons_424.1
theorem dX11_buttons_15 : decode cX11_buttons 15 = .ok (.if_icmp .gt 71, 3) := dk_163 dg_cX11_buttons_424.2.1
theorem dX11_buttons_18 : decode cX11_buttons 18 = .ok (.iconst 0, 1) := dk_3 dg_cX11_buttons_424.2.2.1
theorem dX11_buttons_19 : decode cX11_buttons 19 = .ok (.istore_n 2, 1) := dk_61 dg_cX11_buttons_424.2.2.2.1
theorem dX11_buttons_20 : decode cX11_buttons 20 = .ok (.iload_n 2, 1) := dk_28 dg_cX11_buttons_424.2.2.2.2.1
theorem dX11_buttons_21 : decode cX11_buttons 21 = .ok (.iload_n 1, 1) := dk_27 dg_cX11_buttons_424.2.2.2.2.2.1
theorem dX11_buttons_22 : decode cX11_buttons 22 = .ok (.aload_n 0, 1) := dk_42 dg_cX11_buttons_424.2.2.2.2.2.2.1
theorem dX11_buttons_23 : decode cX11_buttons 23 = .ok (.getfield 387, 3) := dk_180 dg_cX11_buttons_424.2.2.2.2.2.2.2
theorem dg_cX11_buttons_425 : ck3 cX11_buttons 26 184 473 = true ∧ ck3s cX11_buttons 29 162 51 = true ∧ ck1 cX11_buttons 32 42 = true ∧ ck1 cX11_buttons 33 27 = true ∧ ck1 cX11_buttons 34 28 = true ∧ ck3 cX11_buttons 35 182 505 = true ∧ ck3s cX11_buttons 38 154 6 = true ∧ ck3s cX11_buttons 41 167 33 = true := by decide +kernel
theorem dX11_buttons_26 : decode cX11_buttons 26 = .ok (.invokestatic 473, 3) := dk_184 dg_cX11_buttons_425.1
theorem dX11_buttons_29 : decode cX11_buttons 29 = .ok (.if_icmp .ge 51, 3) := dk_162 dg_cX11_buttons_425.2.1
theorem dX11_buttons_32 : decode cX11_buttons 32 = .ok (.aload_n 0, 1) := dk_42 dg_cX11_buttons_425.2.2.1
theorem dX11_buttons_33 : decode cX11_buttons 33 = .ok (.iload_n 1, 1) := dk_27 dg_cX11_buttons_425.2.2.2.1
theorem dX11_buttons_34 : decode cX11_buttons 34 = .ok (.iload_n 2, 1) := dk_28 dg_cX11_buttons_425.2.2.2.2.1
theorem dX11_buttons_35 : decode cX11_buttons 35 = .ok (.invokevirtual 505, 3) := dk_182 dg_cX11_buttons_425.2.2.2.2.2.1
theorem dX11_buttons_38 : decode cX11_buttons 38 = .ok (.ifCond .ne 6, 3) := dk_154 dg_cX11_buttons_425.2.2.2.2.2.2.1
theorem dX11_buttons_41 : decode cX11_buttons 41 = .ok (.goto 33, 3) := dk_167 dg_cX11_buttons_425.2.2.2.2.2.2.2
theorem dg_cX11_buttons_426 : ck1 cX11_buttons 44 3 = true ∧ ck1 cX11_buttons 45 62 = true ∧ ck1 cX11_buttons 46 29 = true ∧ ck1 cX11_buttons 47 42 = true ∧ ck3 cX11_buttons 48 180 387 = true ∧ ck3s cX11_buttons 51 162 21 = true ∧ ck1 cX11_buttons 54 42 = true ∧ ck3 cX11_buttons 55 180 102 = true := by decide +kernel
theorem dX11_buttons_44 : decode cX11_buttons 44 = .ok (.iconst 0, 1) := dk_3 dg_cX11_buttons_426.1
theorem dX11_buttons_45 : decode cX11_buttons 45 = .ok (.istore_n 3, 1) := dk_62 dg_cX11_buttons_426.2.1
theorem dX11_buttons_46 : decode cX11_buttons 46 = .ok (.iload_n 3, 1) := dk_29 dg_cX11_buttons_426.2.2.1
theorem dX11_buttons_47 : decode cX11_buttons 47 = .ok (.aload_n 0, 1) := dk_42 dg_cX11_buttons_426.2.2.2.1
theorem dX11_buttons_48 : decode cX11_buttons 48 = .ok (.getfield 387, 3) := dk_180 dg_cX11_buttons_426.2.2.2.2.1
theorem dX11_buttons_51 : decode cX11_buttons 51 = .ok (.if_icmp .ge 21, 3) := dk_162 dg_cX11_buttons_426.2.2.2.2.2.1
theorem dX11_buttons_54 : decode cX11_buttons 54 = .ok (.aload_n 0, 1) := dk_42 dg_cX11_buttons_426.2.2.2.2.2.2.1
theorem dX11_buttons_55 : decode cX11_buttons 55 = .ok (.getfield 102, 3) := dk_180 dg_cX11_buttons_426.2.2.2.2.2.2.2
theorem dg_cX11_buttons_427 : ck1 cX11_buttons 58 29 = true ∧ ck1 cX11_buttons 59 42 = true ∧ ck3 cX11_buttons 60 180 105 = true ∧ ck1 cX11_buttons 63 29 = true := by decide +kernel
theorem dX11_buttons_58 : decode cX11_buttons 58 = .ok (.iload_n 3, 1) := dk_29 dg_cX11_buttons_427.1
theorem dX11_buttons_59 : decode cX11_buttons 59 = .ok (.aload_n 0, 1) := dk_42 dg_cX11_buttons_427.2.1
theorem dX11_buttons_60 : decode cX11_buttons 60 = .ok (.getfield 105, 3) := dk_180 dg_cX11_buttons_427.2.2.1
theorem dX11_buttons_63 : decode cX11_buttons 63 = .ok (.iload_n 3, 1) := dk_29 dg_cX11_buttons_427.2.2.2
def dS_cX11_buttons_1 : List UInt8 := 46 :: 79 :: 132 :: 3 :: 1 :: 167 :: 255 :: 233 :: 27 :: 172 :: 132 :: 2 :: 1 :: 167 :: 255 :: 199 :: 132 :: 1 :: 1 :: 167 :: 255 :: 183 :: 3 :: 172 :: []
def dS_cX11_buttons_0 : List UInt8 := 42 :: 42 :: 180 :: 1 :: 131 :: 181 :: 1 :: 158 :: 4 :: 60 :: 27 :: 42 :: 180 :: 1 :: 131 :: 163 :: 0 :: 71 :: 3 :: 61 :: 28 :: 27 :: 42 :: 180 :: 1 :: 131 :: 184 :: 1 :: 217 :: 162 :: 0 :: 51 :: 42 :: 27 :: 28 :: 182 :: 1 :: 249 :: 154 :: 0 :: 6 :: 167 :: 0 :: 33 :: 3 :: 62 :: 29 :: 42 :: 180 :: 1 :: 131 :: 162 :: 0 :: 21 :: 42 :: 180 :: 0 :: 102 :: 29 :: 42 :: 180 :: 0 :: 105 :: 29 :: dS_cX11_buttons_1
theorem dT_cX11_buttons_0 : cX11_buttons.data.toList.drop 0 = dS_cX11_buttons_0 := by decide +kernel
theorem dT_cX11_buttons_1 : cX11_buttons.data.toList.drop 64 = dS_cX11_buttons_1 := ck_nx dT_cX11_buttons_0 (by decide +kernel) rfl
theorem dg_cX11_buttons_428 : ck1L dS_cX11_buttons_1 0 46 = true ∧ ck1L dS_cX11_buttons_1 1 79 = true ∧ ck3iL dS_cX11_buttons_1 2 132 3 1 = true ∧ ck3sL dS_cX11_buttons_1 5 167 (-23) = true ∧ ck1L dS_cX11_buttons_1 8 27 = true ∧ ck1L dS_cX11_buttons_1 9 172 = true ∧ ck3iL dS_cX11_buttons_1 10 132 2 1 = true ∧ ck3sL dS_cX11_buttons_1 13 167 (-57) = true := by decide +kernel
theorem dX11_buttons_64 : decode cX11_buttons 64 = .ok (.iaload, 1) := dk_46 (ck1_s (r := 0) dT_cX11_buttons_1 rfl dg_cX11_buttons_428.1)
theorem dX11_buttons_65 : decode cX11_buttons 65 = .ok (.iastore, 1) := dk_79 (ck1_s (r := 1) dT_cX11_buttons_1 rfl dg_cX11_buttons_428.2.1)
theorem dX11_buttons_66 : decode cX11_buttons 66 = .ok (.iinc 3 1, 3) := dk_132 (ck3i_s (r := 2) dT_cX11_buttons_1 rfl dg_cX11_buttons_428.2.2.1)
theorem dX11_buttons_69 : decode cX11_buttons 69 = .ok (.goto (-23), 3) := dk_167 (ck3s_s (r := 5) dT_cX11_buttons_1 rfl dg_cX11_buttons_428.2.2.2.1)
theorem dX11_buttons_72 : decode cX11_buttons 72 = .ok (.iload_n 1, 1) := dk_27 (ck1_s (r := 8) dT_cX11_buttons_1 rfl dg_cX11_buttons_428.2.2.2.2.1)
theorem dX11_buttons_73 : decode cX11_buttons 73 = .ok (.ireturn, 1) := dk_172 (ck1_s (r := 9) dT_cX11_buttons_1 rfl dg_cX11_buttons_428.2.2.2.2.2.1)
theorem dX11_buttons_74 : decode cX11_buttons 74 = .ok (.iinc 2 1, 3) := dk_132 (ck3i_s (r := 10) dT_cX11_buttons_1 rfl dg_cX11_buttons_428.2.2.2.2.2.2.1)
theorem dX11_buttons_77 : decode cX11_buttons 77 = .ok (.goto (-57), 3) := dk_167 (ck3s_s (r := 13) dT_cX11_buttons_1 rfl dg_cX11_buttons_428.2.2.2.2.2.2.2)
theorem dg_cX11_buttons_429 : ck3iL dS_cX11_buttons_1 16 132 1 1 = true ∧ ck3sL dS_cX11_buttons_1 19 167 (-73) = true ∧ ck1L dS_cX11_buttons_1 22 3 = true ∧ ck1L dS_cX11_buttons_1 23 172 = true := by decide +kernel
theorem dX11_buttons_80 : decode cX11_buttons 80 = .ok (.iinc 1 1, 3) := dk_132 (ck3i_s (r := 16) dT_cX11_buttons_1 rfl dg_cX11_buttons_429.1)
theorem dX11_buttons_83 : decode cX11_buttons 83 = .ok (.goto (-73), 3) := dk_167 (ck3s_s (r := 19) dT_cX11_buttons_1 rfl dg_cX11_buttons_429.2.1)
theorem dX11_buttons_86 : decode cX11_buttons 86 = .ok (.iconst 0, 1) := dk_3 (ck1_s (r := 22) dT_cX11_buttons_1 rfl dg_cX11_buttons_429.2.2.1)
theorem dX11_buttons_87 : decode cX11_buttons 87 = .ok (.ireturn, 1) := dk_172 (ck1_s (r := 23) dT_cX11_buttons_1 rfl dg_cX11_buttons_429.2.2.2)
theorem dg_cX11_change_430 : ck1 cX11_change 0 27 = true ∧ ck1 cX11_change 1 3 = true ∧ ck1 cX11_change 2 5 = true ∧ ck3 cX11_change 3 184 417 = true ∧ ck3s cX11_change 6 154 5 = true ∧ ck1 cX11_change 9 2 = true ∧ ck1 cX11_change 10 172 = true ∧ ck1 cX11_change 11 42 = true := by decide +kernel
theorem dX11_change_0 : decode cX11_change 0 = .ok (.iload_n 1, 1) := dk_27 dg_cX11_change_430.1
theorem dX11_change_1 : decode cX11_change 1 = .ok (.iconst 0, 1) := dk_3 dg_cX11_change_430.2.1
theorem dX11_change_2 : decode cX11_change 2 = .ok (.iconst 2, 1) := dk_5 dg_cX11_change_430.2.2.1
theorem dX11_change_3 : decode cX11_change 3 = .ok (.invokestatic 417, 3) := dk_184 dg_cX11_change_430.2.2.2.1
theorem dX11_change_6 : decode cX11_change 6 = .ok (.ifCond .ne 5, 3) := dk_154 dg_cX11_change_430.2.2.2.2.1
theorem dX11_change_9 : decode cX11_change 9 = .ok (.iconst (-1), 1) := dk_2 dg_cX11_change_430.2.2.2.2.2.1
theorem dX11_change_10 : decode cX11_change 10 = .ok (.ireturn, 1) := dk_172 dg_cX11_change_430.2.2.2.2.2.2.1
theorem dX11_change_11 : decode cX11_change 11 = .ok (.aload_n 0, 1) := dk_42 dg_cX11_change_430.2.2.2.2.2.2.2
theorem dg_cX11_change_431 : ck3 cX11_change 12 182 489 = true ∧ ck3 cX11_change 15 184 486 = true ∧ ck1 cX11_change 18 61 = true ∧ ck1 cX11_change 19 2 = true ∧ ck1 cX11_change 20 62 = true ∧ ck1 cX11_change 21 3 = true ∧ ck2 cX11_change 22 54 4 = true ∧ ck2 cX11_change 24 21 4 = true := by decide +kernel
theorem dX11_change_12 : decode cX11_change 12 = .ok (.invokevirtual 489, 3) := dk_182 dg_cX11_change_431.1
theorem dX11_change_15 : decode cX11_change 15 = .ok (.invokestatic 486, 3) := dk_184 dg_cX11_change_431.2.1
theorem dX11_change_18 : decode cX11_change 18 = .ok (.istore_n 2, 1) := dk_61 dg_cX11_change_431.2.2.1
theorem dX11_change_19 : decode cX11_change 19 = .ok (.iconst (-1), 1) := dk_2 dg_cX11_change_431.2.2.2.1
theorem dX11_change_20 : decode cX11_change 20 = .ok (.istore_n 3, 1) := dk_62 dg_cX11_change_431.2.2.2.2.1
theorem dX11_change_21 : decode cX11_change 21 = .ok (.iconst 0, 1) := dk_3 dg_cX11_change_431.2.2.2.2.2.1
theorem dX11_change_22 : decode cX11_change 22 = .ok (.istore 4, 2) := dk_54 dg_cX11_change_431.2.2.2.2.2.2.1
theorem dX11_change_24 : decode cX11_change 24 = .ok (.iload 4, 2) := dk_21 dg_cX11_change_431.2.2.2.2.2.2.2
theorem dg_cX11_change_432 : ck1 cX11_change 26 42 = true ∧ ck3 cX11_change 27 180 387 = true ∧ ck3s cX11_change 30 162 104 = true ∧ ck2 cX11_change 33 21 4 = true ∧ ck1 cX11_change 35 4 = true ∧ ck1 cX11_change 36 96 = true ∧ ck2 cX11_change 37 54 5 = true ∧ ck2 cX11_change 39 21 5 = true := by decide +kernel
theorem dX11_change_26 : decode cX11_change 26 = .ok (.aload_n 0, 1) := dk_42 dg_cX11_change_432.1
theorem dX11_change_27 : decode cX11_change 27 = .ok (.getfield 387, 3) := dk_180 dg_cX11_change_432.2.1
theorem dX11_change_30 : decode cX11_change 30 = .ok (.if_icmp .ge 104, 3) := dk_162 dg_cX11_change_432.2.2.1
theorem dX11_change_33 : decode cX11_change 33 = .ok (.iload 4, 2) := dk_21 dg_cX11_change_432.2.2.2.1
theorem dX11_change_35 : decode cX11_change 35 = .ok (.iconst 1, 1) := dk_4 dg_cX11_change_432.2.2.2.2.1
theorem dX11_change_36 : decode cX11_change 36 = .ok (.iadd, 1) := dk_96 dg_cX11_change_432.2.2.2.2.2.1
theorem dX11_change_37 : decode cX11_change 37 = .ok (.istore 5, 2) := dk_54 dg_cX11_change_432.2.2.2.2.2.2.1
theorem dX11_change_39 : decode cX11_change 39 = .ok (.iload 5, 2) := dk_21 dg_cX11_change_432.2.2.2.2.2.2.2
theorem dg_cX11_change_433 : ck1 cX11_change 41 42 = true ∧ ck3 cX11_change 42 180 387 = true ∧ ck3s cX11_change 45 162 83 = true ∧ ck1 cX11_change 48 42 = true ∧ ck3 cX11_change 49 182 449 = true ∧ ck1 cX11_change 52 42 = true ∧ ck3 cX11_change 53 180 96 = true ∧ ck2s cX11_change 56 16 6 = true := by decide +kernel
theorem dX11_change_41 : decode cX11_change 41 = .ok (.aload_n 0, 1) := dk_42 dg_cX11_change_433.1
theorem dX11_change_42 : decode cX11_change 42 = .ok (.getfield 387, 3) := dk_180 dg_cX11_change_433.2.1
theorem dX11_change_45 : decode cX11_change 45 = .ok (.if_icmp .ge 83, 3) := dk_162 dg_cX11_change_433.2.2.1
theorem dX11_change_48 : decode cX11_change 48 = .ok (.aload_n 0, 1) := dk_42 dg_cX11_change_433.2.2.2.1
theorem dX11_change_49 : decode cX11_change 49 = .ok (.invokevirtual 449, 3) := dk_182 dg_cX11_change_433.2.2.2.2.1
theorem dX11_change_52 : decode cX11_change 52 = .ok (.aload_n 0, 1) := dk_42 dg_cX11_change_433.2.2.2.2.2.1
theorem dX11_change_53 : decode cX11_change 53 = .ok (.getfield 96, 3) := dk_180 dg_cX11_change_433.2.2.2.2.2.2.1
theorem dX11_change_56 : decode cX11_change 56 = .ok (.bipush 6, 2) := dk_16 dg_cX11_change_433.2.2.2.2.2.2.2
theorem dg_cX11_change_434 : ck2 cX11_change 58 21 4 = true ∧ ck1 cX11_change 60 96 = true ∧ ck1 cX11_change 61 42 = true ∧ ck3 cX11_change 62 180 93 = true := by decide +kernel
theorem dX11_change_58 : decode cX11_change 58 = .ok (.iload 4, 2) := dk_21 dg_cX11_change_434.1
theorem dX11_change_60 : decode cX11_change 60 = .ok (.iadd, 1) := dk_96 dg_cX11_change_434.2.1
theorem dX11_change_61 : decode cX11_change 61 = .ok (.aload_n 0, 1) := dk_42 dg_cX11_change_434.2.2.1
theorem dX11_change_62 : decode cX11_change 62 = .ok (.getfield 93, 3) := dk_180 dg_cX11_change_434.2.2.2
def dS_cX11_change_2 : List UInt8 := 132 :: 4 :: 1 :: 167 :: 255 :: 149 :: 29 :: 156 :: 0 :: 7 :: 2 :: 167 :: 0 :: 27 :: 27 :: 154 :: 0 :: 10 :: 29 :: 16 :: 6 :: 108 :: 167 :: 0 :: 16 :: 27 :: 4 :: 160 :: 0 :: 10 :: 29 :: 16 :: 6 :: 112 :: 167 :: 0 :: 4 :: 28 :: 172 :: []
def dS_cX11_change_1 : List UInt8 := 93 :: 16 :: 6 :: 21 :: 5 :: 96 :: 46 :: 79 :: 42 :: 180 :: 0 :: 96 :: 16 :: 6 :: 21 :: 5 :: 96 :: 42 :: 180 :: 0 :: 93 :: 16 :: 6 :: 21 :: 4 :: 96 :: 46 :: 79 :: 42 :: 182 :: 1 :: 187 :: 184 :: 1 :: 230 :: 54 :: 6 :: 21 :: 6 :: 28 :: 163 :: 0 :: 6 :: 167 :: 0 :: 15 :: 21 :: 6 :: 61 :: 16 :: 6 :: 21 :: 4 :: 104 :: 21 :: 5 :: 96 :: 62 :: 132 :: 5 :: 1 :: 167 :: 255 :: 170 :: dS_cX11_change_2
def dS_cX11_change_0 : List UInt8 := 27 :: 3 :: 5 :: 184 :: 1 :: 161 :: 154 :: 0 :: 5 :: 2 :: 172 :: 42 :: 182 :: 1 :: 233 :: 184 :: 1 :: 230 :: 61 :: 2 :: 62 :: 3 :: 54 :: 4 :: 21 :: 4 :: 42 :: 180 :: 1 :: 131 :: 162 :: 0 :: 104 :: 21 :: 4 :: 4 :: 96 :: 54 :: 5 :: 21 :: 5 :: 42 :: 180 :: 1 :: 131 :: 162 :: 0 :: 83 :: 42 :: 182 :: 1 :: 193 :: 42 :: 180 :: 0 :: 96 :: 16 :: 6 :: 21 :: 4 :: 96 :: 42 :: 180 :: 0 :: dS_cX11_change_1
theorem dT_cX11_change_0 : cX11_change.data.toList.drop 0 = dS_cX11_change_0 := by decide +kernel
theorem dT_cX11_change_1 : cX11_change.data.toList.drop 64 = dS_cX11_change_1 := ck_nx dT_cX11_change_0 (by decide +kernel) rfl
theorem dT_cX11_change_2 : cX11_change.data.toList.drop 128 = dS_cX11_change_2 := ck_nx dT_cX11_change_1 (by decide +kernel) rfl
theorem dg_cX11_change_435 : ck2sL dS_cX11_change_1 1 16 6 = true ∧ ck2L dS_cX11_change_1 3 21 5 = true ∧ ck1L dS_cX11_change_1 5 96 = true ∧ ck1L dS_cX11_change_1 6 46 = true ∧ ck1L dS_cX11_change_1 7 79 = true ∧ ck1L dS_cX11_change_1 8 42 = true ∧ ck3L dS_cX11_change_1 9 180 96 = true ∧ ck2sL dS_cX11_change_1 12 16 6 = true := by decide +kernel
theorem dX11_change_65 : decode cX11_change 65 = .ok (.bipush 6, 2) := dk_16 (ck2s_s (r := 1) dT_cX11_change_1 rfl dg_cX11_change_435.1)
theorem dX11_change_67 : decode cX11_change 67 = .ok (.iload 5, 2) := dk_21 (ck2_s (r := 3) dT_cX11_change_1 rfl dg_cX11_change_435.2.1)
theorem dX11_change_69 : decode cX11_change 69 = .ok (.iadd, 1) := dk_96 (ck1_s (r := 5) dT_cX11_change_1 rfl dg_cX11_change_435.2.2.1)
theorem dX11_change_70 : decode cX11_change 70 = .ok (.iaload, 1) := dk_46 (ck1_s (r := 6) dT_cX11_change_1 rfl dg_cX11_change_435.2.2.2.1)
theorem dX11_change_71 : decode cX11_change 71 = .ok (.iastore, 1) := dk_79 (ck1_s (r := 7) dT_cX11_change_1 rfl dg_cX11_change_435.2.2.2.2.1)
theorem dX11_change_72 : decode cX11_change 72 = .ok (.aload_n 0, 1) := dk_42 (ck1_s (r := 8) dT_cX11_change_1 rfl dg_cX11_change_435.2.2.2.2.2.1)
theorem dX11_change_73 : decode cX11_change 73 = .ok (.getfield 96, 3) := dk_180 (ck3_s (r := 9) dT_cX11_change_1 rfl dg_cX11_change_435.2.2.2.2.2.2.1)
theorem dX11_change_76 : decode cX11_change 76 = .ok (.bipush 6, 2) := dk_16 (ck2s_s (r := 12) dT_cX11_change_1 rfl dg_cX11_change_435.2.2.2.2.2.2.2)
theorem dg_cX11_change_436 : ck2L dS_cX11_change_1 14 21 5 = true ∧ ck1L dS_cX11_change_1 16 96 = true ∧ ck1L dS_cX11_change_1 17 42 = true ∧ ck3L dS_cX11_change_1 18 180 93 = true ∧ ck2sL dS_cX11_change_1 21 16 6 = true ∧ ck2L dS_cX11_change_1 23 21 4 = true ∧ ck1L dS_cX11_change_1 25 96 = true ∧ ck1L dS_cX11_change_1 26 46 = true := by decide +kernel
theorem dX11_change_78 : decode cX11_change 78 = .ok (.iload 5, 2) := dk_21 (ck2_s (r := 14) dT_cX11_change_1 rfl dg_cX11_change_436.1)
theorem dX11_change_80 : decode cX11_change 80 = .ok (.iadd, 1) := dk_96 (ck1_s (r := 16) dT_cX11_change_1 rfl dg_cX11_change_436.2.1)
theorem dX11_change_81 : decode cX11_change 81 = .ok (.aload_n 0, 1) := dk_42 (ck1_s (r := 17) dT_cX11_change_1 rfl dg_cX11_change_436.2.2.1)
theorem dX11_change_82 : decode cX11_change 82 = .ok (.getfield 93, 3) := dk_180 (ck3_s (r := 18) dT_cX11_change_1 rfl dg_cX11_change_436.2.2.2.1)
theorem dX11_change_85 : decode cX11_change 85 = .ok (.bipush 6, 2) := dk_16 (ck2s_s (r := 21) dT_cX11_change_1 rfl dg_cX11_change_436.2.2.2.2.1)
theorem dX11_change_87 : decode cX11_change 87 = .ok (.iload 4, 2) := dk_21 (ck2_s (r := 23) dT_cX11_change_1 rfl dg_cX11_change_436.2.2.2.2.2.1)
theorem dX11_change_89 : decode cX11_change 89 = .ok (.iadd, 1) := dk_96 (ck1_s (r := 25) dT_cX11_change_1 rfl dg_cX11_change_436.2.2.2.2.2.2.1)
theorem dX11_change_90 : decode cX11_change 90 = .ok (.iaload, 1) := dk_46 (ck1_s (r := 26) dT_cX11_change_1 rfl dg_cX11_change_436.2.2.2.2.2.2.2)
theorem dg_cX11_change_437 : ck1L dS_cX11_change_1 27 79 = true ∧ ck1L dS_cX11_change_1 28 42 = true ∧ ck3L dS_cX11_change_1 29 182 443 = true ∧ ck3L dS_cX11_change_1 32 184 486 = true ∧ ck2L dS_cX11_change_1 35 54 6 = true ∧ ck2L dS_cX11_change_1 37 21 6 = true ∧ ck1L dS_cX11_change_1 39 28 = true ∧ ck3sL dS_cX11_change_1 40 163 6 = true := by decide +kernel
theorem dX11_change_91 : decode cX11_change 91 = .ok (.iastore, 1) := dk_79 (ck1_s (r := 27) dT_cX11_change_1 rfl dg_cX11_change_437.1)
theorem dX11_change_92 : decode cX11_change 92 = .ok (.aload_n 0, 1) := dk_42 (ck1_s (r := 28) dT_cX11_change_1 rfl dg_cX11_change_437.2.1)
theorem dX11_change_93 : decode cX11_change 93 = .ok (.invokevirtual 443, 3) := dk_182 (ck3_s (r := 29) dT_cX11_change_1 rfl dg_cX11_change_437.2.2.1)
theorem dX11_change_96 : decode cX11_change 96 = .ok (.invokestatic 486, 3) := dk_184 (ck3_s (r := 32) dT_cX11_change_1 rfl dg_cX11_change_437.2.2.2.1)
theorem dX11_change_99 : decode cX11_change 99 = .ok (.istore 6, 2) := dk_54 (ck2_s (r := 35) dT_cX11_change_1 rfl dg_cX11_change_437.2.2.2.2.1)
theorem dX11_change_101 : decode cX11_change 101 = .ok (.iload 6, 2) := dk_21 (ck2_s (r := 37) dT_cX11_change_1 rfl dg_cX11_change_437.2.2.2.2.2.1)
theorem dX11_change_103 : decode cX11_change 103 = .ok (.iload_n 2, 1) := dk_28 (ck1_s (r := 39) dT_cX11_change_1 rfl dg_cX11_change_437.2.2.2.2.2.2.1)
theorem dX11_change_104 : decode cX11_change 104 = .ok (.if_icmp .gt 6, 3) := dk_163 (ck3s_s (r := 40) dT_cX11_change_1 rfl dg_cX11_change_437.2.2.2.2.2.2.2)
theorem dg_cX11_change_438 : ck3sL dS_cX11_change_1 43 167 15 = true ∧ ck2L dS_cX11_change_1 46 21 6 = true ∧ ck1L dS_cX11_change_1 48 61 = true ∧ ck2sL dS_cX11_change_1 49 16 6 = true ∧ ck2L dS_cX11_change_1 51 21 4 = true ∧ ck1L dS_cX11_change_1 53 104 = true ∧ ck2L dS_cX11_change_1 54 21 5 = true ∧ ck1L dS_cX11_change_1 56 96 = true := by decide +kernel
theorem dX11_change_107 : decode cX11_change 107 = .ok (.goto 15, 3) := dk_167 (ck3s_s (r := 43) dT_cX11_change_1 rfl dg_cX11_change_438.1)
theorem dX11_change_110 : decode cX11_change 110 = .ok (.iload 6, 2) := dk_21 (ck2_s (r := 46) dT_cX11_change_1 rfl dg_cX11_change_438.2.1)
theorem dX11_change_112 : decode cX11_change 112 = .ok (.istore_n 2, 1) := dk_61 (ck1_s (r := 48) dT_cX11_change_1 rfl dg_cX11_change_438.2.2.1)
theorem dX11_change_113 : decode cX11_change 113 = .ok (.bipush 6, 2) := dk_16 (ck2s_s (r := 49) dT_cX11_change_1 rfl dg_cX11_change_438.2.2.2.1)
theorem dX11_change_115 : decode cX11_change 115 = .ok (.iload 4, 2) := dk_21 (ck2_s (r := 51) dT_cX11_change_1 rfl dg_cX11_change_438.2.2.2.2.1)
theorem dX11_change_117 : decode cX11_change 117 = .ok (.imul, 1) := dk_104 (ck1_s (r := 53) dT_cX11_change_1 rfl dg_cX11_change_438.2.2.2.2.2.1)
theorem dX11_change_118 : decode cX11_change 118 = .ok (.iload 5, 2) := dk_21 (ck2_s (r := 54) dT_cX11_change_1 rfl dg_cX11_change_438.2.2.2.2.2.2.1)
theorem dX11_change_120 : decode cX11_change 120 = .ok (.iadd, 1) := dk_96 (ck1_s (r := 56) dT_cX11_change_1 rfl dg_cX11_change_438.2.2.2.2.2.2.2)
theorem dg_cX11_change_439 : ck1L dS_cX11_change_1 57 62 = true ∧ ck3iL dS_cX11_change_1 58 132 5 1 = true ∧ ck3sL dS_cX11_change_1 61 167 (-86) = true ∧ ck3iL dS_cX11_change_2 0 132 4 1 = true ∧ ck3sL dS_cX11_change_2 3 167 (-107) = true ∧ ck1L dS_cX11_change_2 6 29 = true ∧ ck3sL dS_cX11_change_2 7 156 7 = true ∧ ck1L dS_cX11_change_2 10 2 = true := by decide +kernel
theorem dX11_change_121 : decode cX11_change 121 = .ok (.istore_n 3, 1) := dk_62 (ck1_s (r := 57) dT_cX11_change_1 rfl dg_cX11_change_439.1)
theorem dX11_change_122 : decode cX11_change 122 = .ok (.iinc 5 1, 3) := dk_132 (ck3i_s (r := 58) dT_cX11_change_1 rfl dg_cX11_change_439.2.1)
theorem dX11_change_125 : decode cX11_change 125 = .ok (.goto (-86), 3) := dk_167 (ck3s_s (r := 61) dT_cX11_change_1 rfl dg_cX11_change_439.2.2.1)
theorem dX11_change_128 : decode cX11_change 128 = .ok (.iinc 4 1, 3) := dk_132 (ck3i_s (r := 0) dT_cX11_change_2 rfl dg_cX11_change_439.2.2.2.1)
theorem dX11_change_131 : decode cX11_change 131 = .ok (.goto (-107), 3) := dk_167 (ck3s_s (r := 3) dT_cX11_change_2 rfl dg_cX11_change_439.2.2.2.2.1)
theorem dX11_change_134 : decode cX11_change 134 = .ok (.iload_n 3, 1) := dk_29 (ck1_s (r := 6) dT_cX11_change_2 rfl dg_cX11_change_439.2.2.2.2.2.1)
theorem dX11_change_135 : decode cX11_change 135 = .ok (.ifCond .ge 7, 3) := dk_156 (ck3s_s (r := 7) dT_cX11_change_2 rfl dg_cX11_change_439.2.2.2.2.2.2.1)
theorem dX11_change_138 : decode cX11_change 138 = .ok (.iconst (-1), 1) := dk_2 (ck1_s (r := 10) dT_cX11_change_2 rfl dg_cX11_change_439.2.2.2.2.2.2.2)
theorem dg_cX11_change_440 : ck3sL dS_cX11_change_2 11 167 27 = true ∧ ck1L dS_cX11_change_2 14 27 = true ∧ ck3sL dS_cX11_change_2 15 154 10 = true ∧ ck1L dS_cX11_change_2 18 29 = true ∧ ck2sL dS_cX11_change_2 19 16 6 = true ∧ ck1L dS_cX11_change_2 21 108 = true ∧ ck3sL dS_cX11_change_2 22 167 16 = true ∧ ck1L dS_cX11_change_2 25 27 = true := by decide +kernel
theorem dX11_change_139 : decode cX11_change 139 = .ok (.goto 27, 3) := dk_167 (ck3s_s (r := 11) dT_cX11_change_2 rfl dg_cX11_change_440.1)
theorem dX11_change_142 : decode cX11_change 142 = .ok (.iload_n 1, 1) := dk_27 (ck1_s (r := 14) dT_cX11_change_2 rfl dg_cX11_change_440.2.1)
theorem dX11_change_143 : decode cX11_change 143 = .ok (.ifCond .ne 10, 3) := dk_154 (ck3s_s (r := 15) dT_cX11_change_2 rfl dg_cX11_change_440.2.2.1)
theorem dX11_change_146 : decode cX11_change 146 = .ok (.iload_n 3, 1) := dk_29 (ck1_s (r := 18) dT_cX11_change_2 rfl dg_cX11_change_440.2.2.2.1)
theorem dX11_change_147 : decode cX11_change 147 = .ok (.bipush 6, 2) := dk_16 (ck2s_s (r := 19) dT_cX11_change_2 rfl dg_cX11_change_440.2.2.2.2.1)
theorem dX11_change_149 : decode cX11_change 149 = .ok (.idiv, 1) := dk_108 (ck1_s (r := 21) dT_cX11_change_2 rfl dg_cX11_change_440.2.2.2.2.2.1)
theorem dX11_change_150 : decode cX11_change 150 = .ok (.goto 16, 3) := dk_167 (ck3s_s (r := 22) dT_cX11_change_2 rfl dg_cX11_change_440.2.2.2.2.2.2.1)
theorem dX11_change_153 : decode cX11_change 153 = .ok (.iload_n 1, 1) := dk_27 (ck1_s (r := 25) dT_cX11_change_2 rfl dg_cX11_change_440.2.2.2.2.2.2.2)
theorem dg_cX11_change_441 : ck1L dS_cX11_change_2 26 4 = true ∧ ck3sL dS_cX11_change_2 27 160 10 = true ∧ ck1L dS_cX11_change_2 30 29 = true ∧ ck2sL dS_cX11_change_2 31 16 6 = true ∧ ck1L dS_cX11_change_2 33 112 = true ∧ ck3sL dS_cX11_change_2 34 167 4 = true ∧ ck1L dS_cX11_change_2 37 28 = true ∧ ck1L dS_cX11_change_2 38 172 = true := by decide +kernel
theorem dX11_change_154 : decode cX11_change 154 = .ok (.iconst 1, 1) := dk_4 (ck1_s (r := 26) dT_cX11_change_2 rfl dg_cX11_change_441.1)
theorem dX11_change_155 : decode cX11_change 155 = .ok (.if_icmp .ne 10, 3) := dk_160 (ck3s_s (r := 27) dT_cX11_change_2 rfl dg_cX11_change_441.2.1)
theorem dX11_change_158 : decode cX11_change 158 = .ok (.iload_n 3, 1) := dk_29 (ck1_s (r := 30) dT_cX11_change_2 rfl dg_cX11_change_441.2.2.1)
theorem dX11_change_159 : decode cX11_change 159 = .ok (.bipush 6, 2) := dk_16 (ck2s_s (r := 31) dT_cX11_change_2 rfl dg_cX11_change_441.2.2.2.1)
theorem dX11_change_161 : decode cX11_change 161 = .ok (.irem, 1) := dk_112 (ck1_s (r := 33) dT_cX11_change_2 rfl dg_cX11_change_441.2.2.2.2.1)
theorem dX11_change_162 : decode cX11_change 162 = .ok (.goto 4, 3) := dk_167 (ck3s_s (r := 34) dT_cX11_change_2 rfl dg_cX11_change_441.2.2.2.2.2.1)
theorem dX11_change_165 : decode cX11_change 165 = .ok (.iload_n 2, 1) := dk_28 (ck1_s (r := 37) dT_cX11_change_2 rfl dg_cX11_change_441.2.2.2.2.2.2.1)
theorem dX11_change_166 : decode cX11_change 166 = .ok (.ireturn, 1) := dk_172 (ck1_s (r := 38) dT_cX11_change_2 rfl dg_cX11_change_441.2.2.2.2.2.2.2)
theorem dg_cX11_close_442 : ck1 cX11_close 0 42 = true ∧ ck3 cX11_close 1 180 256 = true ∧ ck3s cX11_close 4 158 97 = true ∧ ck1 cX11_close 7 42 = true ∧ ck3 cX11_close 8 180 33 = true ∧ ck1 cX11_close 11 42 = true ∧ ck3 cX11_close 12 180 256 = true ∧ ck1 cX11_close 15 4 = true := by decide +kernel
theorem dX11_close_0 : decode cX11_close 0 = .ok (.aload_n 0, 1) := dk_42 dg_cX11_close_442.1
theorem dX11_close_1 : decode cX11_close 1 = .ok (.getfield 256, 3) := dk_180 dg_cX11_close_442.2.1
theorem dX11_close_4 : decode cX11_close 4 = .ok (.ifCond .le 97, 3) := dk_158 dg_cX11_close_442.2.2.1
theorem dX11_close_7 : decode cX11_close 7 = .ok (.aload_n 0, 1) := dk_42 dg_cX11_close_442.2.2.2.1
theorem dX11_close_8 : decode cX11_close 8 = .ok (.getfield 33, 3) := dk_180 dg_cX11_close_442.2.2.2.2.1
theorem dX11_close_11 : decode cX11_close 11 = .ok (.aload_n 0, 1) := dk_42 dg_cX11_close_442.2.2.2.2.2.1
theorem dX11_close_12 : decode cX11_close 12 = .ok (.getfield 256, 3) := dk_180 dg_cX11_close_442.2.2.2.2.2.2.1
theorem dX11_close_15 : decode cX11_close 15 = .ok (.iconst 1, 1) := dk_4 dg_cX11_close_442.2.2.2.2.2.2.2
theorem dg_cX11_close_443 : ck1 cX11_close 16 100 = true ∧ ck1 cX11_close 17 46 = true ∧ ck2s cX11_close 18 16 20 = true ∧ ck3s cX11_close 20 159 81 = true ∧ ck1 cX11_close 23 42 = true ∧ ck3 cX11_close 24 180 33 = true ∧ ck1 cX11_close 27 42 = true ∧ ck3 cX11_close 28 180 256 = true := by decide +kernel
theorem dX11_close_16 : decode cX11_close 16 = .ok (.isub, 1) := dk_100 dg_cX11_close_443.1
theorem dX11_close_17 : decode cX11_close 17 = .ok (.iaload, 1) := dk_46 dg_cX11_close_443.2.1
theorem dX11_close_18 : decode cX11_close 18 = .ok (.bipush 20, 2) := dk_16 dg_cX11_close_443.2.2.1
theorem dX11_close_20 : decode cX11_close 20 = .ok (.if_icmp .eq 81, 3) := dk_159 dg_cX11_close_443.2.2.2.1
theorem dX11_close_23 : decode cX11_close 23 = .ok (.aload_n 0, 1) := dk_42 dg_cX11_close_443.2.2.2.2.1
theorem dX11_close_24 : decode cX11_close 24 = .ok (.getfield 33, 3) := dk_180 dg_cX11_close_443.2.2.2.2.2.1
theorem dX11_close_27 : decode cX11_close 27 = .ok (.aload_n 0, 1) := dk_42 dg_cX11_close_443.2.2.2.2.2.2.1
theorem dX11_close_28 : decode cX11_close 28 = .ok (.getfield 256, 3) := dk_180 dg_cX11_close_443.2.2.2.2.2.2.2
theorem dg_cX11_close_444 : ck1 cX11_close 31 4 = true ∧ ck1 cX11_close 32 100 = true ∧ ck1 cX11_close 33 46 = true ∧ ck3 cX11_close 34 184 259 = true ∧ ck1 cX11_close 37 27 = true ∧ ck3s cX11_close 38 161 63 = true ∧ ck1 cX11_close 41 42 = true ∧ ck1 cX11_close 42 89 = true := by decide +kernel
theorem dX11_close_31 : decode cX11_close 31 = .ok (.iconst 1, 1) := dk_4 dg_cX11_close_444.1
theorem dX11_close_32 : decode cX11_close 32 = .ok (.isub, 1) := dk_100 dg_cX11_close_444.2.1
theorem dX11_close_33 : decode cX11_close 33 = .ok (.iaload, 1) := dk_46 dg_cX11_close_444.2.2.1
theorem dX11_close_34 : decode cX11_close 34 = .ok (.invokestatic 259, 3) := dk_184 dg_cX11_close_444.2.2.2.1
theorem dX11_close_37 : decode cX11_close 37 = .ok (.iload_n 1, 1) := dk_27 dg_cX11_close_444.2.2.2.2.1
theorem dX11_close_38 : decode cX11_close 38 = .ok (.if_icmp .lt 63, 3) := dk_161 dg_cX11_close_444.2.2.2.2.2.1
theorem dX11_close_41 : decode cX11_close 41 = .ok (.aload_n 0, 1) := dk_42 dg_cX11_close_444.2.2.2.2.2.2.1
theorem dX11_close_42 : decode cX11_close 42 = .ok (.dup, 1) := dk_89 dg_cX11_close_444.2.2.2.2.2.2.2
theorem dg_cX11_close_445 : ck3 cX11_close 43 180 256 = true ∧ ck1 cX11_close 46 4 = true ∧ ck1 cX11_close 47 100 = true ∧ ck3 cX11_close 48 181 256 = true ∧ ck1 cX11_close 51 42 = true ∧ ck3 cX11_close 52 180 33 = true ∧ ck1 cX11_close 55 42 = true ∧ ck3 cX11_close 56 180 256 = true := by decide +kernel
theorem dX11_close_43 : decode cX11_close 43 = .ok (.getfield 256, 3) := dk_180 dg_cX11_close_445.1
theorem dX11_close_46 : decode cX11_close 46 = .ok (.iconst 1, 1) := dk_4 dg_cX11_close_445.2.1
theorem dX11_close_47 : decode cX11_close 47 = .ok (.isub, 1) := dk_100 dg_cX11_close_445.2.2.1
theorem dX11_close_48 : decode cX11_close 48 = .ok (.putfield 256, 3) := dk_181 dg_cX11_close_445.2.2.2.1
theorem dX11_close_51 : decode cX11_close 51 = .ok (.aload_n 0, 1) := dk_42 dg_cX11_close_445.2.2.2.2.1
theorem dX11_close_52 : decode cX11_close 52 = .ok (.getfield 33, 3) := dk_180 dg_cX11_close_445.2.2.2.2.2.1
theorem dX11_close_55 : decode cX11_close 55 = .ok (.aload_n 0, 1) := dk_42 dg_cX11_close_445.2.2.2.2.2.2.1
theorem dX11_close_56 : decode cX11_close 56 = .ok (.getfield 256, 3) := dk_180 dg_cX11_close_445.2.2.2.2.2.2.2
theorem dg_cX11_close_446 : ck1 cX11_close 59 46 = true ∧ ck2s cX11_close 60 16 21 = true ∧ ck3s cX11_close 62 160 22 = true := by decide +kernel
theorem dX11_close_59 : decode cX11_close 59 = .ok (.iaload, 1) := dk_46 dg_cX11_close_446.1
theorem dX11_close_60 : decode cX11_close 60 = .ok (.bipush 21, 2) := dk_16 dg_cX11_close_446.2.1
theorem dX11_close_62 : decode cX11_close 62 = .ok (.if_icmp .ne 22, 3) := dk_160 dg_cX11_close_446.2.2
def dS_cX11_close_1 : List UInt8 := 22 :: 42 :: 5 :: 3 :: 182 :: 1 :: 6 :: 42 :: 89 :: 180 :: 1 :: 10 :: 4 :: 100 :: 181 :: 1 :: 10 :: 167 :: 255 :: 175 :: 42 :: 6 :: 42 :: 180 :: 0 :: 33 :: 42 :: 180 :: 1 :: 0 :: 46 :: 182 :: 1 :: 6 :: 167 :: 255 :: 158 :: 177 :: []
def dS_cX11_close_0 : List UInt8 := 42 :: 180 :: 1 :: 0 :: 158 :: 0 :: 97 :: 42 :: 180 :: 0 :: 33 :: 42 :: 180 :: 1 :: 0 :: 4 :: 100 :: 46 :: 16 :: 20 :: 159 :: 0 :: 81 :: 42 :: 180 :: 0 :: 33 :: 42 :: 180 :: 1 :: 0 :: 4 :: 100 :: 46 :: 184 :: 1 :: 3 :: 27 :: 161 :: 0 :: 63 :: 42 :: 89 :: 180 :: 1 :: 0 :: 4 :: 100 :: 181 :: 1 :: 0 :: 42 :: 180 :: 0 :: 33 :: 42 :: 180 :: 1 :: 0 :: 46 :: 16 :: 21 :: 160 :: 0 :: dS_cX11_close_1
theorem dT_cX11_close_0 : cX11_close.data.toList.drop 0 = dS_cX11_close_0 := by decide +kernel
theorem dT_cX11_close_1 : cX11_close.data.toList.drop 64 = dS_cX11_close_1 := ck_nx dT_cX11_close_0 (by decide +kernel) rfl
theorem dg_cX11_close_447 : ck1L dS_cX11_close_1 1 42 = true ∧ ck1L dS_cX11_close_1 2 5 = true ∧ ck1L dS_cX11_close_1 3 3 = true ∧ ck3L dS_cX11_close_1 4 182 262 = true ∧ ck1L dS_cX11_close_1 7 42 = true ∧ ck1L dS_cX11_close_1 8 89 = true ∧ ck3L dS_cX11_close_1 9 180 266 = true ∧ ck1L dS_cX11_close_1 12 4 = true := by decide +kernel
theorem dX11_close_65 : decode cX11_close 65 = .ok (.aload_n 0, 1) := dk_42 (ck1_s (r := 1) dT_cX11_close_1 rfl dg_cX11_close_447.1)
theorem dX11_close_66 : decode cX11_close 66 = .ok (.iconst 2, 1) := dk_5 (ck1_s (r := 2) dT_cX11_close_1 rfl dg_cX11_close_447.2.1)
theorem dX11_close_67 : decode cX11_close 67 = .ok (.iconst 0, 1) := dk_3 (ck1_s (r := 3) dT_cX11_close_1 rfl dg_cX11_close_447.2.2.1)
theorem dX11_close_68 : decode cX11_close 68 = .ok (.invokevirtual 262, 3) := dk_182 (ck3_s (r := 4) dT_cX11_close_1 rfl dg_cX11_close_447.2.2.2.1)
theorem dX11_close_71 : decode cX11_close 71 = .ok (.aload_n 0, 1) := dk_42 (ck1_s (r := 7) dT_cX11_close_1 rfl dg_cX11_close_447.2.2.2.2.1)
theorem dX11_close_72 : decode cX11_close 72 = .ok (.dup, 1) := dk_89 (ck1_s (r := 8) dT_cX11_close_1 rfl dg_cX11_close_447.2.2.2.2.2.1)
theorem dX11_close_73 : decode cX11_close 73 = .ok (.getfield 266, 3) := dk_180 (ck3_s (r := 9) dT_cX11_close_1 rfl dg_cX11_close_447.2.2.2.2.2.2.1)
theorem dX11_close_76 : decode cX11_close 76 = .ok (.iconst 1, 1) := dk_4 (ck1_s (r := 12) dT_cX11_close_1 rfl dg_cX11_close_447.2.2.2.2.2.2.2)
theorem dg_cX11_close_448 : ck1L dS_cX11_close_1 13 100 = true ∧ ck3L dS_cX11_close_1 14 181 266 = true ∧ ck3sL dS_cX11_close_1 17 167 (-81) = true ∧ ck1L dS_cX11_close_1 20 42 = true ∧ ck1L dS_cX11_close_1 21 6 = true ∧ ck1L dS_cX11_close_1 22 42 = true ∧ ck3L dS_cX11_close_1 23 180 33 = true ∧ ck1L dS_cX11_close_1 26 42 = true := by decide +kernel
theorem dX11_close_77 : decode cX11_close 77 = .ok (.isub, 1) := dk_100 (ck1_s (r := 13) dT_cX11_close_1 rfl dg_cX11_close_448.1)
theorem dX11_close_78 : decode cX11_close 78 = .ok (.putfield 266, 3) := dk_181 (ck3_s (r := 14) dT_cX11_close_1 rfl dg_cX11_close_448.2.1)
theorem dX11_close_81 : decode cX11_close 81 = .ok (.goto (-81), 3) := dk_167 (ck3s_s (r := 17) dT_cX11_close_1 rfl dg_cX11_close_448.2.2.1)
theorem dX11_close_84 : decode cX11_close 84 = .ok (.aload_n 0, 1) := dk_42 (ck1_s (r := 20) dT_cX11_close_1 rfl dg_cX11_close_448.2.2.2.1)
theorem dX11_close_85 : decode cX11_close 85 = .ok (.iconst 3, 1) := dk_6 (ck1_s (r := 21) dT_cX11_close_1 rfl dg_cX11_close_448.2.2.2.2.1)
theorem dX11_close_86 : decode cX11_close 86 = .ok (.aload_n 0, 1) := dk_42 (ck1_s (r := 22) dT_cX11_close_1 rfl dg_cX11_close_448.2.2.2.2.2.1)
theorem dX11_close_87 : decode cX11_close 87 = .ok (.getfield 33, 3) := dk_180 (ck3_s (r := 23) dT_cX11_close_1 rfl dg_cX11_close_448.2.2.2.2.2.2.1)
theorem dX11_close_90 : decode cX11_close 90 = .ok (.aload_n 0, 1) := dk_42 (ck1_s (r := 26) dT_cX11_close_1 rfl dg_cX11_close_448.2.2.2.2.2.2.2)
theorem dg_cX11_close_449 : ck3L dS_cX11_close_1 27 180 256 = true ∧ ck1L dS_cX11_close_1 30 46 = true ∧ ck3L dS_cX11_close_1 31 182 262 = true ∧ ck3sL dS_cX11_close_1 34 167 (-98) = true ∧ ck1L dS_cX11_close_1 37 177 = true := by decide +kernel
theorem dX11_close_91 : decode cX11_close 91 = .ok (.getfield 256, 3) := dk_180 (ck3_s (r := 27) dT_cX11_close_1 rfl dg_cX11_close_449.1)
theorem dX11_close_94 : decode cX11_close 94 = .ok (.iaload, 1) := dk_46 (ck1_s (r := 30) dT_cX11_close_1 rfl dg_cX11_close_449.2.1)
theorem dX11_close_95 : decode cX11_close 95 = .ok (.invokevirtual 262, 3) := dk_182 (ck3_s (r := 31) dT_cX11_close_1 rfl dg_cX11_close_449.2.2.1)
theorem dX11_close_98 : decode cX11_close 98 = .ok (.goto (-98), 3) := dk_167 (ck3s_s (r := 34) dT_cX11_close_1 rfl dg_cX11_close_449.2.2.2.1)
theorem dX11_close_101 : decode cX11_close 101 = .ok (.return_, 1) := dk_177 (ck1_s (r := 37) dT_cX11_close_1 rfl dg_cX11_close_449.2.2.2.2)
theorem dg_cX11_cloth_450 : ck1 cX11_cloth 0 42 = true ∧ ck3 cX11_cloth 1 180 111 = true ∧ ck1 cX11_cloth 4 3 = true ∧ ck1 cX11_cloth 5 3 = true ∧ ck1 cX11_cloth 6 79 = true ∧ ck1 cX11_cloth 7 4 = true ∧ ck1 cX11_cloth 8 60 = true ∧ ck1 cX11_cloth 9 27 = true := by decide +kernel
theorem dX11_cloth_0 : decode cX11_cloth 0 = .ok (.aload_n 0, 1) := dk_42 dg_cX11_cloth_450.1
theorem dX11_cloth_1 : decode cX11_cloth 1 = .ok (.getfield 111, 3) := dk_180 dg_cX11_cloth_450.2.1
theorem dX11_cloth_4 : decode cX11_cloth 4 = .ok (.iconst 0, 1) := dk_3 dg_cX11_cloth_450.2.2.1
theorem dX11_cloth_5 : decode cX11_cloth 5 = .ok (.iconst 0, 1) := dk_3 dg_cX11_cloth_450.2.2.2.1
theorem dX11_cloth_6 : decode cX11_cloth 6 = .ok (.iastore, 1) := dk_79 dg_cX11_cloth_450.2.2.2.2.1
theorem dX11_cloth_7 : decode cX11_cloth 7 = .ok (.iconst 1, 1) := dk_4 dg_cX11_cloth_450.2.2.2.2.2.1
theorem dX11_cloth_8 : decode cX11_cloth 8 = .ok (.istore_n 1, 1) := dk_60 dg_cX11_cloth_450.2.2.2.2.2.2.1
theorem dX11_cloth_9 : decode cX11_cloth 9 = .ok (.iload_n 1, 1) := dk_27 dg_cX11_cloth_450.2.2.2.2.2.2.2
theorem dg_cX11_cloth_451 : ck1 cX11_cloth 10 4 = true ∧ ck1 cX11_cloth 11 42 = true ∧ ck3 cX11_cloth 12 180 390 = true ∧ ck1 cX11_cloth 15 120 = true ∧ ck3s cX11_cloth 16 162 70 = true ∧ ck1 cX11_cloth 19 42 = true ∧ ck3 cX11_cloth 20 180 111 = true ∧ ck1 cX11_cloth 23 27 = true := by decide +kernel
theorem dX11_cloth_10 : decode cX11_cloth 10 = .ok (.iconst 1, 1) := dk_4 dg_cX11_cloth_451.1
theorem dX11_cloth_11 : decode cX11_cloth 11 = .ok (.aload_n 0, 1) := dk_42 dg_cX11_cloth_451.2.1
theorem dX11_cloth_12 : decode cX11_cloth 12 = .ok (.getfield 390, 3) := dk_180 dg_cX11_cloth_451.2.2.1
theorem dX11_cloth_15 : decode cX11_cloth 15 = .ok (.ishl, 1) := dk_120 dg_cX11_cloth_451.2.2.2.1
theorem dX11_cloth_16 : decode cX11_cloth 16 = .ok (.if_icmp .ge 70, 3) := dk_162 dg_cX11_cloth_451.2.2.2.2.1
theorem dX11_cloth_19 : decode cX11_cloth 19 = .ok (.aload_n 0, 1) := dk_42 dg_cX11_cloth_451.2.2.2.2.2.1
theorem dX11_cloth_20 : decode cX11_cloth 20 = .ok (.getfield 111, 3) := dk_180 dg_cX11_cloth_451.2.2.2.2.2.2.1
theorem dX11_cloth_23 : decode cX11_cloth 23 = .ok (.iload_n 1, 1) := dk_27 dg_cX11_cloth_451.2.2.2.2.2.2.2
theorem dg_cX11_cloth_452 : ck3 cX11_cloth 24 19 498 = true ∧ ck1 cX11_cloth 27 79 = true ∧ ck1 cX11_cloth 28 4 = true ∧ ck1 cX11_cloth 29 61 = true ∧ ck1 cX11_cloth 30 28 = true ∧ ck1 cX11_cloth 31 27 = true ∧ ck3s cX11_cloth 32 163 48 = true ∧ ck1 cX11_cloth 35 28 = true := by decide +kernel
theorem dX11_cloth_24 : decode cX11_cloth 24 = .ok (.ldc_w 498, 3) := dk_19 dg_cX11_cloth_452.1
theorem dX11_cloth_27 : decode cX11_cloth 27 = .ok (.iastore, 1) := dk_79 dg_cX11_cloth_452.2.1
theorem dX11_cloth_28 : decode cX11_cloth 28 = .ok (.iconst 1, 1) := dk_4 dg_cX11_cloth_452.2.2.1
theorem dX11_cloth_29 : decode cX11_cloth 29 = .ok (.istore_n 2, 1) := dk_61 dg_cX11_cloth_452.2.2.2.1
theorem dX11_cloth_30 : decode cX11_cloth 30 = .ok (.iload_n 2, 1) := dk_28 dg_cX11_cloth_452.2.2.2.2.1
theorem dX11_cloth_31 : decode cX11_cloth 31 = .ok (.iload_n 1, 1) := dk_27 dg_cX11_cloth_452.2.2.2.2.2.1
theorem dX11_cloth_32 : decode cX11_cloth 32 = .ok (.if_icmp .gt 48, 3) := dk_163 dg_cX11_cloth_452.2.2.2.2.2.2.1
theorem dX11_cloth_35 : decode cX11_cloth 35 = .ok (.iload_n 2, 1) := dk_28 dg_cX11_cloth_452.2.2.2.2.2.2.2
theorem dg_cX11_cloth_453 : ck1 cX11_cloth 36 27 = true ∧ ck1 cX11_cloth 37 2 = true ∧ ck1 cX11_cloth 38 130 = true ∧ ck1 cX11_cloth 39 126 = true ∧ ck3s cX11_cloth 40 154 34 = true ∧ ck1 cX11_cloth 43 42 = true ∧ ck3 cX11_cloth 44 180 111 = true ∧ ck1 cX11_cloth 47 27 = true := by decide +kernel
theorem dX11_cloth_36 : decode cX11_cloth 36 = .ok (.iload_n 1, 1) := dk_27 dg_cX11_cloth_453.1
theorem dX11_cloth_37 : decode cX11_cloth 37 = .ok (.iconst (-1), 1) := dk_2 dg_cX11_cloth_453.2.1
theorem dX11_cloth_38 : decode cX11_cloth 38 = .ok (.ixor, 1) := dk_130 dg_cX11_cloth_453.2.2.1
theorem dX11_cloth_39 : decode cX11_cloth 39 = .ok (.iand, 1) := dk_126 dg_cX11_cloth_453.2.2.2.1
theorem dX11_cloth_40 : decode cX11_cloth 40 = .ok (.ifCond .ne 34, 3) := dk_154 dg_cX11_cloth_453.2.2.2.2.1
theorem dX11_cloth_43 : decode cX11_cloth 43 = .ok (.aload_n 0, 1) := dk_42 dg_cX11_cloth_453.2.2.2.2.2.1
theorem dX11_cloth_44 : decode cX11_cloth 44 = .ok (.getfield 111, 3) := dk_180 dg_cX11_cloth_453.2.2.2.2.2.2.1
theorem dX11_cloth_47 : decode cX11_cloth 47 = .ok (.iload_n 1, 1) := dk_27 dg_cX11_cloth_453.2.2.2.2.2.2.2
theorem dg_cX11_cloth_454 : ck1 cX11_cloth 48 42 = true ∧ ck3 cX11_cloth 49 180 111 = true ∧ ck1 cX11_cloth 52 27 = true ∧ ck1 cX11_cloth 53 46 = true ∧ ck1 cX11_cloth 54 42 = true ∧ ck1 cX11_cloth 55 28 = true ∧ ck3 cX11_cloth 56 182 499 = true ∧ ck1 cX11_cloth 59 42 = true := by decide +kernel
theorem dX11_cloth_48 : decode cX11_cloth 48 = .ok (.aload_n 0, 1) := dk_42 dg_cX11_cloth_454.1
theorem dX11_cloth_49 : decode cX11_cloth 49 = .ok (.getfield 111, 3) := dk_180 dg_cX11_cloth_454.2.1
theorem dX11_cloth_52 : decode cX11_cloth 52 = .ok (.iload_n 1, 1) := dk_27 dg_cX11_cloth_454.2.2.1
theorem dX11_cloth_53 : decode cX11_cloth 53 = .ok (.iaload, 1) := dk_46 dg_cX11_cloth_454.2.2.2.1
theorem dX11_cloth_54 : decode cX11_cloth 54 = .ok (.aload_n 0, 1) := dk_42 dg_cX11_cloth_454.2.2.2.2.1
theorem dX11_cloth_55 : decode cX11_cloth 55 = .ok (.iload_n 2, 1) := dk_28 dg_cX11_cloth_454.2.2.2.2.2.1
theorem dX11_cloth_56 : decode cX11_cloth 56 = .ok (.invokevirtual 499, 3) := dk_182 dg_cX11_cloth_454.2.2.2.2.2.2.1
theorem dX11_cloth_59 : decode cX11_cloth 59 = .ok (.aload_n 0, 1) := dk_42 dg_cX11_cloth_454.2.2.2.2.2.2.2
theorem dg_cX11_cloth_455 : ck3 cX11_cloth 60 180 111 = true ∧ ck1 cX11_cloth 63 27 = true := by decide +kernel
theorem dX11_cloth_60 : decode cX11_cloth 60 = .ok (.getfield 111, 3) := dk_180 dg_cX11_cloth_455.1
theorem dX11_cloth_63 : decode cX11_cloth 63 = .ok (.iload_n 1, 1) := dk_27 dg_cX11_cloth_455.2
def dS_cX11_cloth_1 : List UInt8 := 28 :: 2 :: 130 :: 126 :: 46 :: 96 :: 184 :: 1 :: 175 :: 79 :: 132 :: 2 :: 1 :: 167 :: 255 :: 209 :: 132 :: 1 :: 1 :: 167 :: 255 :: 182 :: 42 :: 180 :: 0 :: 111 :: 4 :: 42 :: 180 :: 1 :: 134 :: 120 :: 4 :: 100 :: 46 :: 60 :: 27 :: 19 :: 1 :: 242 :: 161 :: 0 :: 7 :: 2 :: 167 :: 0 :: 4 :: 27 :: 172 :: []
def dS_cX11_cloth_0 : List UInt8 := 42 :: 180 :: 0 :: 111 :: 3 :: 3 :: 79 :: 4 :: 60 :: 27 :: 4 :: 42 :: 180 :: 1 :: 134 :: 120 :: 162 :: 0 :: 70 :: 42 :: 180 :: 0 :: 111 :: 27 :: 19 :: 1 :: 242 :: 79 :: 4 :: 61 :: 28 :: 27 :: 163 :: 0 :: 48 :: 28 :: 27 :: 2 :: 130 :: 126 :: 154 :: 0 :: 34 :: 42 :: 180 :: 0 :: 111 :: 27 :: 42 :: 180 :: 0 :: 111 :: 27 :: 46 :: 42 :: 28 :: 182 :: 1 :: 243 :: 42 :: 180 :: 0 :: 111 :: 27 :: dS_cX11_cloth_1
theorem dT_cX11_cloth_0 : cX11_cloth.data.toList.drop 0 = dS_cX11_cloth_0 := by decide +kernel
theorem dT_cX11_cloth_1 : cX11_cloth.data.toList.drop 64 = dS_cX11_cloth_1 := ck_nx dT_cX11_cloth_0 (by decide +kernel) rfl
theorem dg_cX11_cloth_456 : ck1L dS_cX11_cloth_1 0 28 = true ∧ ck1L dS_cX11_cloth_1 1 2 = true ∧ ck1L dS_cX11_cloth_1 2 130 = true ∧ ck1L dS_cX11_cloth_1 3 126 = true ∧ ck1L dS_cX11_cloth_1 4 46 = true ∧ ck1L dS_cX11_cloth_1 5 96 = true ∧ ck3L dS_cX11_cloth_1 6 184 431 = true ∧ ck1L dS_cX11_cloth_1 9 79 = true := by decide +kernel
theorem dX11_cloth_64 : decode cX11_cloth 64 = .ok (.iload_n 2, 1) := dk_28 (ck1_s (r := 0) dT_cX11_cloth_1 rfl dg_cX11_cloth_456.1)
theorem dX11_cloth_65 : decode cX11_cloth 65 = .ok (.iconst (-1), 1) := dk_2 (ck1_s (r := 1) dT_cX11_cloth_1 rfl dg_cX11_cloth_456.2.1)
theorem dX11_cloth_66 : decode cX11_cloth 66 = .ok (.ixor, 1) := dk_130 (ck1_s (r := 2) dT_cX11_cloth_1 rfl dg_cX11_cloth_456.2.2.1)
theorem dX11_cloth_67 : decode cX11_cloth 67 = .ok (.iand, 1) := dk_126 (ck1_s (r := 3) dT_cX11_cloth_1 rfl dg_cX11_cloth_456.2.2.2.1)
theorem dX11_cloth_68 : decode cX11_cloth 68 = .ok (.iaload, 1) := dk_46 (ck1_s (r := 4) dT_cX11_cloth_1 rfl dg_cX11_cloth_456.2.2.2.2.1)
theorem dX11_cloth_69 : decode cX11_cloth 69 = .ok (.iadd, 1) := dk_96 (ck1_s (r := 5) dT_cX11_cloth_1 rfl dg_cX11_cloth_456.2.2.2.2.2.1)
theorem dX11_cloth_70 : decode cX11_cloth 70 = .ok (.invokestatic 431, 3) := dk_184 (ck3_s (r := 6) dT_cX11_cloth_1 rfl dg_cX11_cloth_456.2.2.2.2.2.2.1)
theorem dX11_cloth_73 : decode cX11_cloth 73 = .ok (.iastore, 1) := dk_79 (ck1_s (r := 9) dT_cX11_cloth_1 rfl dg_cX11_cloth_456.2.2.2.2.2.2.2)
theorem dg_cX11_cloth_457 : ck3iL dS_cX11_cloth_1 10 132 2 1 = true ∧ ck3sL dS_cX11_cloth_1 13 167 (-47) = true ∧ ck3iL dS_cX11_cloth_1 16 132 1 1 = true ∧ ck3sL dS_cX11_cloth_1 19 167 (-74) = true ∧ ck1L dS_cX11_cloth_1 22 42 = true ∧ ck3L dS_cX11_cloth_1 23 180 111 = true ∧ ck1L dS_cX11_cloth_1 26 4 = true ∧ ck1L dS_cX11_cloth_1 27 42 = true := by decide +kernel
theorem dX11_cloth_74 : decode cX11_cloth 74 = .ok (.iinc 2 1, 3) := dk_132 (ck3i_s (r := 10) dT_cX11_cloth_1 rfl dg_cX11_cloth_457.1)
theorem dX11_cloth_77 : decode cX11_cloth 77 = .ok (.goto (-47), 3) := dk_167 (ck3s_s (r := 13) dT_cX11_cloth_1 rfl dg_cX11_cloth_457.2.1)
theorem dX11_cloth_80 : decode cX11_cloth 80 = .ok (.iinc 1 1, 3) := dk_132 (ck3i_s (r := 16) dT_cX11_cloth_1 rfl dg_cX11_cloth_457.2.2.1)
theorem dX11_cloth_83 : decode cX11_cloth 83 = .ok (.goto (-74), 3) := dk_167 (ck3s_s (r := 19) dT_cX11_cloth_1 rfl dg_cX11_cloth_457.2.2.2.1)
theorem dX11_cloth_86 : decode cX11_cloth 86 = .ok (.aload_n 0, 1) := dk_42 (ck1_s (r := 22) dT_cX11_cloth_1 rfl dg_cX11_cloth_457.2.2.2.2.1)
theorem dX11_cloth_87 : decode cX11_cloth 87 = .ok (.getfield 111, 3) := dk_180 (ck3_s (r := 23) dT_cX11_cloth_1 rfl dg_cX11_cloth_457.2.2.2.2.2.1)
theorem dX11_cloth_90 : decode cX11_cloth 90 = .ok (.iconst 1, 1) := dk_4 (ck1_s (r := 26) dT_cX11_cloth_1 rfl dg_cX11_cloth_457.2.2.2.2.2.2.1)
theorem dX11_cloth_91 : decode cX11_cloth 91 = .ok (.aload_n 0, 1) := dk_42 (ck1_s (r := 27) dT_cX11_cloth_1 rfl dg_cX11_cloth_457.2.2.2.2.2.2.2)
theorem dg_cX11_cloth_458 : ck3L dS_cX11_cloth_1 28 180 390 = true ∧ ck1L dS_cX11_cloth_1 31 120 = true ∧ ck1L dS_cX11_cloth_1 32 4 = true ∧ ck1L dS_cX11_cloth_1 33 100 = true ∧ ck1L dS_cX11_cloth_1 34 46 = true ∧ ck1L dS_cX11_cloth_1 35 60 = true ∧ ck1L dS_cX11_cloth_1 36 27 = true ∧ ck3L dS_cX11_cloth_1 37 19 498 = true := by decide +kernel
theorem dX11_cloth_92 : decode cX11_cloth 92 = .ok (.getfield 390, 3) := dk_180 (ck3_s (r := 28) dT_cX11_cloth_1 rfl dg_cX11_cloth_458.1)
theorem dX11_cloth_95 : decode cX11_cloth 95 = .ok (.ishl, 1) := dk_120 (ck1_s (r := 31) dT_cX11_cloth_1 rfl dg_cX11_cloth_458.2.1)
theorem dX11_cloth_96 : decode cX11_cloth 96 = .ok (.iconst 1, 1) := dk_4 (ck1_s (r := 32) dT_cX11_cloth_1 rfl dg_cX11_cloth_458.2.2.1)
theorem dX11_cloth_97 : decode cX11_cloth 97 = .ok (.isub, 1) := dk_100 (ck1_s (r := 33) dT_cX11_cloth_1 rfl dg_cX11_cloth_458.2.2.2.1)
theorem dX11_cloth_98 : decode cX11_cloth 98 = .ok (.iaload, 1) := dk_46 (ck1_s (r := 34) dT_cX11_cloth_1 rfl dg_cX11_cloth_458.2.2.2.2.1)
theorem dX11_cloth_99 : decode cX11_cloth 99 = .ok (.istore_n 1, 1) := dk_60 (ck1_s (r := 35) dT_cX11_cloth_1 rfl dg_cX11_cloth_458.2.2.2.2.2.1)
theorem dX11_cloth_100 : decode cX11_cloth 100 = .ok (.iload_n 1, 1) := dk_27 (ck1_s (r := 36) dT_cX11_cloth_1 rfl dg_cX11_cloth_458.2.2.2.2.2.2.1)
theorem dX11_cloth_101 : decode cX11_cloth 101 = .ok (.ldc_w 498, 3) := dk_19 (ck3_s (r := 37) dT_cX11_cloth_1 rfl dg_cX11_cloth_458.2.2.2.2.2.2.2)
theorem dg_cX11_cloth_459 : ck3sL dS_cX11_cloth_1 40 161 7 = true ∧ ck1L dS_cX11_cloth_1 43 2 = true ∧ ck3sL dS_cX11_cloth_1 44 167 4 = true ∧ ck1L dS_cX11_cloth_1 47 27 = true ∧ ck1L dS_cX11_cloth_1 48 172 = true := by decide +kernel
theorem dX11_cloth_104 : decode cX11_cloth 104 = .ok (.if_icmp .lt 7, 3) := dk_161 (ck3s_s (r := 40) dT_cX11_cloth_1 rfl dg_cX11_cloth_459.1)
theorem dX11_cloth_107 : decode cX11_cloth 107 = .ok (.iconst (-1), 1) := dk_2 (ck1_s (r := 43) dT_cX11_cloth_1 rfl dg_cX11_cloth_459.2.1)
theorem dX11_cloth_108 : decode cX11_cloth 108 = .ok (.goto 4, 3) := dk_167 (ck3s_s (r := 44) dT_cX11_cloth_1 rfl dg_cX11_cloth_459.2.2.1)
theorem dX11_cloth_111 : decode cX11_cloth 111 = .ok (.iload_n 1, 1) := dk_27 (ck1_s (r := 47) dT_cX11_cloth_1 rfl dg_cX11_cloth_459.2.2.2.1)
theorem dX11_cloth_112 : decode cX11_cloth 112 = .ok (.ireturn, 1) := dk_172 (ck1_s (r := 48) dT_cX11_cloth_1 rfl dg_cX11_cloth_459.2.2.2.2)
theorem dg_cX11_coat_460 : ck1 cX11_coat 0 42 = true ∧ ck1 cX11_coat 1 27 = true ∧ ck3 cX11_coat 2 182 455 = true ∧ ck3s cX11_coat 5 154 6 = true ∧ ck2s cX11_coat 8 16 (-2) = true ∧ ck1 cX11_coat 10 172 = true ∧ ck1 cX11_coat 11 42 = true ∧ ck3 cX11_coat 12 182 449 = true := by decide +kernel
theorem dX11_coat_0 : decode cX11_coat 0 = .ok (.aload_n 0, 1) := dk_42 dg_cX11_coat_460.1
theorem dX11_coat_1 : decode cX11_coat 1 = .ok (.iload_n 1, 1) := dk_27 dg_cX11_coat_460.2.1
theorem dX11_coat_2 : decode cX11_coat 2 = .ok (.invokevirtual 455, 3) := dk_182 dg_cX11_coat_460.2.2.1
theorem dX11_coat_5 : decode cX11_coat 5 = .ok (.ifCond .ne 6, 3) := dk_154 dg_cX11_coat_460.2.2.2.1
theorem dX11_coat_8 : decode cX11_coat 8 = .ok (.bipush (-2), 2) := dk_16 dg_cX11_coat_460.2.2.2.2.1
theorem dX11_coat_10 : decode cX11_coat 10 = .ok (.ireturn, 1) := dk_172 dg_cX11_coat_460.2.2.2.2.2.1
theorem dX11_coat_11 : decode cX11_coat 11 = .ok (.aload_n 0, 1) := dk_42 dg_cX11_coat_460.2.2.2.2.2.2.1
theorem dX11_coat_12 : decode cX11_coat 12 = .ok (.invokevirtual 449, 3) := dk_182 dg_cX11_coat_460.2.2.2.2.2.2.2
theorem dg_cX11_coat_461 : ck1 cX11_coat 15 28 = true := by decide +kernel
theorem dX11_coat_15 : decode cX11_coat 15 = .ok (.iload_n 2, 1) := dk_28 dg_cX11_coat_461
theorem dX11_coat_16 : decode cX11_coat 16 = .ok (.tableswitch 98 0 5 #[40, 50, 60, 70, 80, 92], 40) := by decide +kernel
theorem dg_cX11_coat_462 : ck1 cX11_coat 56 42 = true ∧ ck3 cX11_coat 57 180 96 = true ∧ ck2s cX11_coat 60 16 12 = true ∧ ck1 cX11_coat 62 27 = true ∧ ck1 cX11_coat 63 96 = true := by decide +kernel
theorem dX11_coat_56 : decode cX11_coat 56 = .ok (.aload_n 0, 1) := dk_42 dg_cX11_coat_462.1
theorem dX11_coat_57 : decode cX11_coat 57 = .ok (.getfield 96, 3) := dk_180 dg_cX11_coat_462.2.1
theorem dX11_coat_60 : decode cX11_coat 60 = .ok (.bipush 12, 2) := dk_16 dg_cX11_coat_462.2.2.1
theorem dX11_coat_62 : decode cX11_coat 62 = .ok (.iload_n 1, 1) := dk_27 dg_cX11_coat_462.2.2.2.1
theorem dX11_coat_63 : decode cX11_coat 63 = .ok (.iadd, 1) := dk_96 dg_cX11_coat_462.2.2.2.2
def dS_cX11_coat_1 : List UInt8 := 46 :: 172 :: 42 :: 180 :: 0 :: 96 :: 16 :: 18 :: 27 :: 96 :: 46 :: 172 :: 42 :: 180 :: 0 :: 96 :: 16 :: 24 :: 27 :: 96 :: 46 :: 172 :: 42 :: 180 :: 0 :: 96 :: 16 :: 30 :: 27 :: 96 :: 46 :: 172 :: 42 :: 180 :: 0 :: 96 :: 16 :: 36 :: 46 :: 27 :: 122 :: 4 :: 126 :: 172 :: 42 :: 27 :: 182 :: 1 :: 178 :: 172 :: 16 :: 254 :: 172 :: []
def dS_cX11_coat_0 : List UInt8 := 42 :: 27 :: 182 :: 1 :: 199 :: 154 :: 0 :: 6 :: 16 :: 254 :: 172 :: 42 :: 182 :: 1 :: 193 :: 28 :: 170 :: 0 :: 0 :: 0 :: 0 :: 0 :: 0 :: 98 :: 0 :: 0 :: 0 :: 0 :: 0 :: 0 :: 0 :: 5 :: 0 :: 0 :: 0 :: 40 :: 0 :: 0 :: 0 :: 50 :: 0 :: 0 :: 0 :: 60 :: 0 :: 0 :: 0 :: 70 :: 0 :: 0 :: 0 :: 80 :: 0 :: 0 :: 0 :: 92 :: 42 :: 180 :: 0 :: 96 :: 16 :: 12 :: 27 :: 96 :: dS_cX11_coat_1
theorem dT_cX11_coat_0 : cX11_coat.data.toList.drop 0 = dS_cX11_coat_0 := by decide +kernel
theorem dT_cX11_coat_1 : cX11_coat.data.toList.drop 64 = dS_cX11_coat_1 := ck_nx dT_cX11_coat_0 (by decide +kernel) rfl
theorem dg_cX11_coat_463 : ck1L dS_cX11_coat_1 0 46 = true ∧ ck1L dS_cX11_coat_1 1 172 = true ∧ ck1L dS_cX11_coat_1 2 42 = true ∧ ck3L dS_cX11_coat_1 3 180 96 = true ∧ ck2sL dS_cX11_coat_1 6 16 18 = true ∧ ck1L dS_cX11_coat_1 8 27 = true ∧ ck1L dS_cX11_coat_1 9 96 = true ∧ ck1L dS_cX11_coat_1 10 46 = true := by decide +kernel
theorem dX11_coat_64 : decode cX11_coat 64 = .ok (.iaload, 1) := dk_46 (ck1_s (r := 0) dT_cX11_coat_1 rfl dg_cX11_coat_463.1)
theorem dX11_coat_65 : decode cX11_coat 65 = .ok (.ireturn, 1) := dk_172 (ck1_s (r := 1) dT_cX11_coat_1 rfl dg_cX11_coat_463.2.1)
theorem dX11_coat_66 : decode cX11_coat 66 = .ok (.aload_n 0, 1) := dk_42 (ck1_s (r := 2) dT_cX11_coat_1 rfl dg_cX11_coat_463.2.2.1)
theorem dX11_coat_67 : decode cX11_coat 67 = .ok (.getfield 96, 3) := dk_180 (ck3_s (r := 3) dT_cX11_coat_1 rfl dg_cX11_coat_463.2.2.2.1)
theorem dX11_coat_70 : decode cX11_coat 70 = .ok (.bipush 18, 2) := dk_16 (ck2s_s (r := 6) dT_cX11_coat_1 rfl dg_cX11_coat_463.2.2.2.2.1)
theorem dX11_coat_72 : decode cX11_coat 72 = .ok (.iload_n 1, 1) := dk_27 (ck1_s (r := 8) dT_cX11_coat_1 rfl dg_cX11_coat_463.2.2.2.2.2.1)
theorem dX11_coat_73 : decode cX11_coat 73 = .ok (.iadd, 1) := dk_96 (ck1_s (r := 9) dT_cX11_coat_1 rfl dg_cX11_coat_463.2.2.2.2.2.2.1)
theorem dX11_coat_74 : decode cX11_coat 74 = .ok (.iaload, 1) := dk_46 (ck1_s (r := 10) dT_cX11_coat_1 rfl dg_cX11_coat_463.2.2.2.2.2.2.2)
theorem dg_cX11_coat_464 : ck1L dS_cX11_coat_1 11 172 = true ∧ ck1L dS_cX11_coat_1 12 42 = true ∧ ck3L dS_cX11_coat_1 13 180 96 = true ∧ ck2sL dS_cX11_coat_1 16 16 24 = true ∧ ck1L dS_cX11_coat_1 18 27 = true ∧ ck1L dS_cX11_coat_1 19 96 = true ∧ ck1L dS_cX11_coat_1 20 46 = true ∧ ck1L dS_cX11_coat_1 21 172 = true := by decide +kernel
theorem dX11_coat_75 : decode cX11_coat 75 = .ok (.ireturn, 1) := dk_172 (ck1_s (r := 11) dT_cX11_coat_1 rfl dg_cX11_coat_464.1)
theorem dX11_coat_76 : decode cX11_coat 76 = .ok (.aload_n 0, 1) := dk_42 (ck1_s (r := 12) dT_cX11_coat_1 rfl dg_cX11_coat_464.2.1)
theorem dX11_coat_77 : decode cX11_coat 77 = .ok (.getfield 96, 3) := dk_180 (ck3_s (r := 13) dT_cX11_coat_1 rfl dg_cX11_coat_464.2.2.1)
theorem dX11_coat_80 : decode cX11_coat 80 = .ok (.bipush 24, 2) := dk_16 (ck2s_s (r := 16) dT_cX11_coat_1 rfl dg_cX11_coat_464.2.2.2.1)
theorem dX11_coat_82 : decode cX11_coat 82 = .ok (.iload_n 1, 1) := dk_27 (ck1_s (r := 18) dT_cX11_coat_1 rfl dg_cX11_coat_464.2.2.2.2.1)
theorem dX11_coat_83 : decode cX11_coat 83 = .ok (.iadd, 1) := dk_96 (ck1_s (r := 19) dT_cX11_coat_1 rfl dg_cX11_coat_464.2.2.2.2.2.1)
theorem dX11_coat_84 : decode cX11_coat 84 = .ok (.iaload, 1) := dk_46 (ck1_s (r := 20) dT_cX11_coat_1 rfl dg_cX11_coat_464.2.2.2.2.2.2.1)
theorem dX11_coat_85 : decode cX11_coat 85 = .ok (.ireturn, 1) := dk_172 (ck1_s (r := 21) dT_cX11_coat_1 rfl dg_cX11_coat_464.2.2.2.2.2.2.2)
theorem dg_cX11_coat_465 : ck1L dS_cX11_coat_1 22 42 = true ∧ ck3L dS_cX11_coat_1 23 180 96 = true ∧ ck2sL dS_cX11_coat_1 26 16 30 = true ∧ ck1L dS_cX11_coat_1 28 27 = true ∧ ck1L dS_cX11_coat_1 29 96 = true ∧ ck1L dS_cX11_coat_1 30 46 = true ∧ ck1L dS_cX11_coat_1 31 172 = true ∧ ck1L dS_cX11_coat_1 32 42 = true := by decide +kernel
theorem dX11_coat_86 : decode cX11_coat 86 = .ok (.aload_n 0, 1) := dk_42 (ck1_s (r := 22) dT_cX11_coat_1 rfl dg_cX11_coat_465.1)
theorem dX11_coat_87 : decode cX11_coat 87 = .ok (.getfield 96, 3) := dk_180 (ck3_s (r := 23) dT_cX11_coat_1 rfl dg_cX11_coat_465.2.1)
theorem dX11_coat_90 : decode cX11_coat 90 = .ok (.bipush 30, 2) := dk_16 (ck2s_s (r := 26) dT_cX11_coat_1 rfl dg_cX11_coat_465.2.2.1)
theorem dX11_coat_92 : decode cX11_coat 92 = .ok (.iload_n 1, 1) := dk_27 (ck1_s (r := 28) dT_cX11_coat_1 rfl dg_cX11_coat_465.2.2.2.1)
theorem dX11_coat_93 : decode cX11_coat 93 = .ok (.iadd, 1) := dk_96 (ck1_s (r := 29) dT_cX11_coat_1 rfl dg_cX11_coat_465.2.2.2.2.1)
theorem dX11_coat_94 : decode cX11_coat 94 = .ok (.iaload, 1) := dk_46 (ck1_s (r := 30) dT_cX11_coat_1 rfl dg_cX11_coat_465.2.2.2.2.2.1)
theorem dX11_coat_95 : decode cX11_coat 95 = .ok (.ireturn, 1) := dk_172 (ck1_s (r := 31) dT_cX11_coat_1 rfl dg_cX11_coat_465.2.2.2.2.2.2.1)
theorem dX11_coat_96 : decode cX11_coat 96 = .ok (.aload_n 0, 1) := dk_42 (ck1_s (r := 32) dT_cX11_coat_1 rfl dg_cX11_coat_465.2.2.2.2.2.2.2)
theorem dg_cX11_coat_466 : ck3L dS_cX11_coat_1 33 180 96 = true ∧ ck2sL dS_cX11_coat_1 36 16 36 = true ∧ ck1L dS_cX11_coat_1 38 46 = true ∧ ck1L dS_cX11_coat_1 39 27 = true ∧ ck1L dS_cX11_coat_1 40 122 = true ∧ ck1L dS_cX11_coat_1 41 4 = true ∧ ck1L dS_cX11_coat_1 42 126 = true ∧ ck1L dS_cX11_coat_1 43 172 = true := by decide +kernel
theorem dX11_coat_97 : decode cX11_coat 97 = .ok (.getfield 96, 3) := dk_180 (ck3_s (r := 33) dT_cX11_coat_1 rfl dg_cX11_coat_466.1)
theorem dX11_coat_100 : decode cX11_coat 100 = .ok (.bipush 36, 2) := dk_16 (ck2s_s (r := 36) dT_cX11_coat_1 rfl dg_cX11_coat_466.2.1)
theorem dX11_coat_102 : decode cX11_coat 102 = .ok (.iaload, 1) := dk_46 (ck1_s (r := 38) dT_cX11_coat_1 rfl dg_cX11_coat_466.2.2.1)
theorem dX11_coat_103 : decode cX11_coat 103 = .ok (.iload_n 1, 1) := dk_27 (ck1_s (r := 39) dT_cX11_coat_1 rfl dg_cX11_coat_466.2.2.2.1)
theorem dX11_coat_104 : decode cX11_coat 104 = .ok (.ishr, 1) := dk_122 (ck1_s (r := 40) dT_cX11_coat_1 rfl dg_cX11_coat_466.2.2.2.2.1)
theorem dX11_coat_105 : decode cX11_coat 105 = .ok (.iconst 1, 1) := dk_4 (ck1_s (r := 41) dT_cX11_coat_1 rfl dg_cX11_coat_466.2.2.2.2.2.1)
theorem dX11_coat_106 : decode cX11_coat 106 = .ok (.iand, 1) := dk_126 (ck1_s (r := 42) dT_cX11_coat_1 rfl dg_cX11_coat_466.2.2.2.2.2.2.1)
theorem dX11_coat_107 : decode cX11_coat 107 = .ok (.ireturn, 1) := dk_172 (ck1_s (r := 43) dT_cX11_coat_1 rfl dg_cX11_coat_466.2.2.2.2.2.2.2)
theorem dg_cX11_coat_467 : ck1L dS_cX11_coat_1 44 42 = true ∧ ck1L dS_cX11_coat_1 45 27 = true ∧ ck3L dS_cX11_coat_1 46 182 434 = true ∧ ck1L dS_cX11_coat_1 49 172 = true ∧ ck2sL dS_cX11_coat_1 50 16 (-2) = true ∧ ck1L dS_cX11_coat_1 52 172 = true := by decide +kernel
theorem dX11_coat_108 : decode cX11_coat 108 = .ok (.aload_n 0, 1) := dk_42 (ck1_s (r := 44) dT_cX11_coat_1 rfl dg_cX11_coat_467.1)
theorem dX11_coat_109 : decode cX11_coat 109 = .ok (.iload_n 1, 1) := dk_27 (ck1_s (r := 45) dT_cX11_coat_1 rfl dg_cX11_coat_467.2.1)
theorem dX11_coat_110 : decode cX11_coat 110 = .ok (.invokevirtual 434, 3) := dk_182 (ck3_s (r := 46) dT_cX11_coat_1 rfl dg_cX11_coat_467.2.2.1)
theorem dX11_coat_113 : decode cX11_coat 113 = .ok (.ireturn, 1) := dk_172 (ck1_s (r := 49) dT_cX11_coat_1 rfl dg_cX11_coat_467.2.2.2.1)
theorem dX11_coat_114 : decode cX11_coat 114 = .ok (.bipush (-2), 2) := dk_16 (ck2s_s (r := 50) dT_cX11_coat_1 rfl dg_cX11_coat_467.2.2.2.2.1)
theorem dX11_coat_116 : decode cX11_coat 116 = .ok (.ireturn, 1) := dk_172 (ck1_s (r := 52) dT_cX11_coat_1 rfl dg_cX11_coat_467.2.2.2.2.2)
theorem dg_cX11_coatsFor_468 : ck1 cX11_coatsFor 0 3 = true ∧ ck1 cX11_coatsFor 1 61 = true ∧ ck1 cX11_coatsFor 2 3 = true ∧ ck1 cX11_coatsFor 3 62 = true ∧ ck1 cX11_coatsFor 4 29 = true ∧ ck1 cX11_coatsFor 5 42 = true ∧ ck3 cX11_coatsFor 6 180 390 = true ∧ ck3s cX11_coatsFor 9 162 23 = true := by decide +kernel
theorem dX11_coatsFor_0 : decode cX11_coatsFor 0 = .ok (.iconst 0, 1) := dk_3 dg_cX11_coatsFor_468.1
theorem dX11_coatsFor_1 : decode cX11_coatsFor 1 = .ok (.istore_n 2, 1) := dk_61 dg_cX11_coatsFor_468.2.1
theorem dX11_coatsFor_2 : decode cX11_coatsFor 2 = .ok (.iconst 0, 1) := dk_3 dg_cX11_coatsFor_468.2.2.1
theorem dX11_coatsFor_3 : decode cX11_coatsFor 3 = .ok (.istore_n 3, 1) := dk_62 dg_cX11_coatsFor_468.2.2.2.1
theorem dX11_coatsFor_4 : decode cX11_coatsFor 4 = .ok (.iload_n 3, 1) := dk_29 dg_cX11_coatsFor_468.2.2.2.2.1
theorem dX11_coatsFor_5 : decode cX11_coatsFor 5 = .ok (.aload_n 0, 1) := dk_42 dg_cX11_coatsFor_468.2.2.2.2.2.1
theorem dX11_coatsFor_6 : decode cX11_coatsFor 6 = .ok (.getfield 390, 3) := dk_180 dg_cX11_coatsFor_468.2.2.2.2.2.2.1
theorem dX11_coatsFor_9 : decode cX11_coatsFor 9 = .ok (.if_icmp .ge 23, 3) := dk_162 dg_cX11_coatsFor_468.2.2.2.2.2.2.2
theorem dg_cX11_coatsFor_469 : ck1 cX11_coatsFor 12 28 = true ∧ ck1 cX11_coatsFor 13 42 = true ∧ ck1 cX11_coatsFor 14 27 = true ∧ ck1 cX11_coatsFor 15 29 = true ∧ ck3 cX11_coatsFor 16 182 424 = true ∧ ck3 cX11_coatsFor 19 184 310 = true ∧ ck1 cX11_coatsFor 22 29 = true ∧ ck1 cX11_coatsFor 23 120 = true := by decide +kernel
theorem dX11_coatsFor_12 : decode cX11_coatsFor 12 = .ok (.iload_n 2, 1) := dk_28 dg_cX11_coatsFor_469.1
theorem dX11_coatsFor_13 : decode cX11_coatsFor 13 = .ok (.aload_n 0, 1) := dk_42 dg_cX11_coatsFor_469.2.1
theorem dX11_coatsFor_14 : decode cX11_coatsFor 14 = .ok (.iload_n 1, 1) := dk_27 dg_cX11_coatsFor_469.2.2.1
theorem dX11_coatsFor_15 : decode cX11_coatsFor 15 = .ok (.iload_n 3, 1) := dk_29 dg_cX11_coatsFor_469.2.2.2.1
theorem dX11_coatsFor_16 : decode cX11_coatsFor 16 = .ok (.invokevirtual 424, 3) := dk_182 dg_cX11_coatsFor_469.2.2.2.2.1
theorem dX11_coatsFor_19 : decode cX11_coatsFor 19 = .ok (.invokestatic 310, 3) := dk_184 dg_cX11_coatsFor_469.2.2.2.2.2.1
theorem dX11_coatsFor_22 : decode cX11_coatsFor 22 = .ok (.iload_n 3, 1) := dk_29 dg_cX11_coatsFor_469.2.2.2.2.2.2.1
theorem dX11_coatsFor_23 : decode cX11_coatsFor 23 = .ok (.ishl, 1) := dk_120 dg_cX11_coatsFor_469.2.2.2.2.2.2.2
theorem dg_cX11_coatsFor_470 : ck1 cX11_coatsFor 24 128 = true ∧ ck1 cX11_coatsFor 25 61 = true ∧ ck3i cX11_coatsFor 26 132 3 1 = true ∧ ck3s cX11_coatsFor 29 167 (-25) = true ∧ ck1 cX11_coatsFor 32 28 = true ∧ ck1 cX11_coatsFor 33 172 = true := by decide +kernel
theorem dX11_coatsFor_24 : decode cX11_coatsFor 24 = .ok (.ior, 1) := dk_128 dg_cX11_coatsFor_470.1
theorem dX11_coatsFor_25 : decode cX11_coatsFor 25 = .ok (.istore_n 2, 1) := dk_61 dg_cX11_coatsFor_470.2.1
theorem dX11_coatsFor_26 : decode cX11_coatsFor 26 = .ok (.iinc 3 1, 3) := dk_132 dg_cX11_coatsFor_470.2.2.1
theorem dX11_coatsFor_29 : decode cX11_coatsFor 29 = .ok (.goto (-25), 3) := dk_167 dg_cX11_coatsFor_470.2.2.2.1
theorem dX11_coatsFor_32 : decode cX11_coatsFor 32 = .ok (.iload_n 2, 1) := dk_28 dg_cX11_coatsFor_470.2.2.2.2.1
theorem dX11_coatsFor_33 : decode cX11_coatsFor 33 = .ok (.ireturn, 1) := dk_172 dg_cX11_coatsFor_470.2.2.2.2.2
theorem dg_cX11_countUnit_471 : ck1 cX11_countUnit 0 42 = true ∧ ck1 cX11_countUnit 1 89 = true ∧ ck3 cX11_countUnit 2 180 269 = true ∧ ck1 cX11_countUnit 5 4 = true ∧ ck1 cX11_countUnit 6 96 = true ∧ ck3 cX11_countUnit 7 181 269 = true ∧ ck1 cX11_countUnit 10 42 = true ∧ ck1 cX11_countUnit 11 89 = true := by decide +kernel
theorem dX11_countUnit_0 : decode cX11_countUnit 0 = .ok (.aload_n 0, 1) := dk_42 dg_cX11_countUnit_471.1
theorem dX11_countUnit_1 : decode cX11_countUnit 1 = .ok (.dup, 1) := dk_89 dg_cX11_countUnit_471.2.1
theorem dX11_countUnit_2 : decode cX11_countUnit 2 = .ok (.getfield 269, 3) := dk_180 dg_cX11_countUnit_471.2.2.1
theorem dX11_countUnit_5 : decode cX11_countUnit 5 = .ok (.iconst 1, 1) := dk_4 dg_cX11_countUnit_471.2.2.2.1
theorem dX11_countUnit_6 : decode cX11_countUnit 6 = .ok (.iadd, 1) := dk_96 dg_cX11_countUnit_471.2.2.2.2.1
theorem dX11_countUnit_7 : decode cX11_countUnit 7 = .ok (.putfield 269, 3) := dk_181 dg_cX11_countUnit_471.2.2.2.2.2.1
theorem dX11_countUnit_10 : decode cX11_countUnit 10 = .ok (.aload_n 0, 1) := dk_42 dg_cX11_countUnit_471.2.2.2.2.2.2.1
theorem dX11_countUnit_11 : decode cX11_countUnit 11 = .ok (.dup, 1) := dk_89 dg_cX11_countUnit_471.2.2.2.2.2.2.2
theorem dg_cX11_countUnit_472 : ck3 cX11_countUnit 12 180 272 = true ∧ ck1 cX11_countUnit 15 4 = true ∧ ck1 cX11_countUnit 16 96 = true ∧ ck3 cX11_countUnit 17 181 272 = true ∧ ck1 cX11_countUnit 20 177 = true := by decide +kernel
theorem dX11_countUnit_12 : decode cX11_countUnit 12 = .ok (.getfield 272, 3) := dk_180 dg_cX11_countUnit_472.1
theorem dX11_countUnit_15 : decode cX11_countUnit 15 = .ok (.iconst 1, 1) := dk_4 dg_cX11_countUnit_472.2.1
theorem dX11_countUnit_16 : decode cX11_countUnit 16 = .ok (.iadd, 1) := dk_96 dg_cX11_countUnit_472.2.2.1
theorem dX11_countUnit_17 : decode cX11_countUnit 17 = .ok (.putfield 272, 3) := dk_181 dg_cX11_countUnit_472.2.2.2.1
theorem dX11_countUnit_20 : decode cX11_countUnit 20 = .ok (.return_, 1) := dk_177 dg_cX11_countUnit_472.2.2.2.2
theorem dg_cX11_day_473 : ck1 cX11_day 0 42 = true ∧ ck3 cX11_day 1 180 93 = true ∧ ck2s cX11_day 4 16 37 = true ∧ ck1 cX11_day 6 46 = true ∧ ck3s cX11_day 7 17 999 = true ∧ ck3s cX11_day 10 160 5 = true ∧ ck1 cX11_day 13 2 = true ∧ ck1 cX11_day 14 172 = true := by decide +kernel
theorem dX11_day_0 : decode cX11_day 0 = .ok (.aload_n 0, 1) := dk_42 dg_cX11_day_473.1
theorem dX11_day_1 : decode cX11_day 1 = .ok (.getfield 93, 3) := dk_180 dg_cX11_day_473.2.1
theorem dX11_day_4 : decode cX11_day 4 = .ok (.bipush 37, 2) := dk_16 dg_cX11_day_473.2.2.1
theorem dX11_day_6 : decode cX11_day 6 = .ok (.iaload, 1) := dk_46 dg_cX11_day_473.2.2.2.1
theorem dX11_day_7 : decode cX11_day 7 = .ok (.sipush 999, 3) := dk_17 dg_cX11_day_473.2.2.2.2.1
theorem dX11_day_10 : decode cX11_day 10 = .ok (.if_icmp .ne 5, 3) := dk_160 dg_cX11_day_473.2.2.2.2.2.1
theorem dX11_day_13 : decode cX11_day 13 = .ok (.iconst (-1), 1) := dk_2 dg_cX11_day_473.2.2.2.2.2.2.1
theorem dX11_day_14 : decode cX11_day 14 = .ok (.ireturn, 1) := dk_172 dg_cX11_day_473.2.2.2.2.2.2.2
theorem dg_cX11_day_474 : ck1 cX11_day 15 42 = true ∧ ck3 cX11_day 16 182 458 = true ∧ ck1 cX11_day 19 42 = true ∧ ck3 cX11_day 20 182 461 = true ∧ ck1 cX11_day 23 60 = true ∧ ck1 cX11_day 24 42 = true ∧ ck1 cX11_day 25 27 = true ∧ ck3 cX11_day 26 182 464 = true := by decide +kernel
theorem dX11_day_15 : decode cX11_day 15 = .ok (.aload_n 0, 1) := dk_42 dg_cX11_day_474.1
theorem dX11_day_16 : decode cX11_day 16 = .ok (.invokevirtual 458, 3) := dk_182 dg_cX11_day_474.2.1
theorem dX11_day_19 : decode cX11_day 19 = .ok (.aload_n 0, 1) := dk_42 dg_cX11_day_474.2.2.1
theorem dX11_day_20 : decode cX11_day 20 = .ok (.invokevirtual 461, 3) := dk_182 dg_cX11_day_474.2.2.2.1
theorem dX11_day_23 : decode cX11_day 23 = .ok (.istore_n 1, 1) := dk_60 dg_cX11_day_474.2.2.2.2.1
theorem dX11_day_24 : decode cX11_day 24 = .ok (.aload_n 0, 1) := dk_42 dg_cX11_day_474.2.2.2.2.2.1
theorem dX11_day_25 : decode cX11_day 25 = .ok (.iload_n 1, 1) := dk_27 dg_cX11_day_474.2.2.2.2.2.2.1
theorem dX11_day_26 : decode cX11_day 26 = .ok (.invokevirtual 464, 3) := dk_182 dg_cX11_day_474.2.2.2.2.2.2.2
theorem dg_cX11_day_475 : ck1 cX11_day 29 61 = true ∧ ck1 cX11_day 30 42 = true ∧ ck3 cX11_day 31 182 402 = true ∧ ck1 cX11_day 34 28 = true ∧ ck1 cX11_day 35 172 = true := by decide +kernel
theorem dX11_day_29 : decode cX11_day 29 = .ok (.istore_n 2, 1) := dk_61 dg_cX11_day_475.1
theorem dX11_day_30 : decode cX11_day 30 = .ok (.aload_n 0, 1) := dk_42 dg_cX11_day_475.2.1
theorem dX11_day_31 : decode cX11_day 31 = .ok (.invokevirtual 402, 3) := dk_182 dg_cX11_day_475.2.2.1
theorem dX11_day_34 : decode cX11_day 34 = .ok (.iload_n 2, 1) := dk_28 dg_cX11_day_475.2.2.2.1
theorem dX11_day_35 : decode cX11_day 35 = .ok (.ireturn, 1) := dk_172 dg_cX11_day_475.2.2.2.2
theorem dg_cX11_divisor_476 : ck1 cX11_divisor 0 26 = true ∧ ck1 cX11_divisor 1 61 = true ∧ ck1 cX11_divisor 2 27 = true ∧ ck1 cX11_divisor 3 62 = true ∧ ck1 cX11_divisor 4 29 = true ∧ ck3s cX11_divisor 5 158 16 = true ∧ ck1 cX11_divisor 8 28 = true ∧ ck1 cX11_divisor 9 29 = true := by decide +kernel
theorem dX11_divisor_0 : decode cX11_divisor 0 = .ok (.iload_n 0, 1) := dk_26 dg_cX11_divisor_476.1
theorem dX11_divisor_1 : decode cX11_divisor 1 = .ok (.istore_n 2, 1) := dk_61 dg_cX11_divisor_476.2.1
theorem dX11_divisor_2 : decode cX11_divisor 2 = .ok (.iload_n 1, 1) := dk_27 dg_cX11_divisor_476.2.2.1
theorem dX11_divisor_3 : decode cX11_divisor 3 = .ok (.istore_n 3, 1) := dk_62 dg_cX11_divisor_476.2.2.2.1
theorem dX11_divisor_4 : decode cX11_divisor 4 = .ok (.iload_n 3, 1) := dk_29 dg_cX11_divisor_476.2.2.2.2.1
theorem dX11_divisor_5 : decode cX11_divisor 5 = .ok (.ifCond .le 16, 3) := dk_158 dg_cX11_divisor_476.2.2.2.2.2.1
theorem dX11_divisor_8 : decode cX11_divisor 8 = .ok (.iload_n 2, 1) := dk_28 dg_cX11_divisor_476.2.2.2.2.2.2.1
theorem dX11_divisor_9 : decode cX11_divisor 9 = .ok (.iload_n 3, 1) := dk_29 dg_cX11_divisor_476.2.2.2.2.2.2.2
theorem dg_cX11_divisor_477 : ck1 cX11_divisor 10 112 = true ∧ ck2 cX11_divisor 11 54 4 = true ∧ ck1 cX11_divisor 13 29 = true ∧ ck1 cX11_divisor 14 61 = true ∧ ck2 cX11_divisor 15 21 4 = true ∧ ck1 cX11_divisor 17 62 = true ∧ ck3s cX11_divisor 18 167 (-14) = true ∧ ck1 cX11_divisor 21 28 = true := by decide +kernel
theorem dX11_divisor_10 : decode cX11_divisor 10 = .ok (.irem, 1) := dk_112 dg_cX11_divisor_477.1
theorem dX11_divisor_11 : decode cX11_divisor 11 = .ok (.istore 4, 2) := dk_54 dg_cX11_divisor_477.2.1
theorem dX11_divisor_13 : decode cX11_divisor 13 = .ok (.iload_n 3, 1) := dk_29 dg_cX11_divisor_477.2.2.1
theorem dX11_divisor_14 : decode cX11_divisor 14 = .ok (.istore_n 2, 1) := dk_61 dg_cX11_divisor_477.2.2.2.1
theorem dX11_divisor_15 : decode cX11_divisor 15 = .ok (.iload 4, 2) := dk_21 dg_cX11_divisor_477.2.2.2.2.1
theorem dX11_divisor_17 : decode cX11_divisor 17 = .ok (.istore_n 3, 1) := dk_62 dg_cX11_divisor_477.2.2.2.2.2.1
theorem dX11_divisor_18 : decode cX11_divisor 18 = .ok (.goto (-14), 3) := dk_167 dg_cX11_divisor_477.2.2.2.2.2.2.1
theorem dX11_divisor_21 : decode cX11_divisor 21 = .ok (.iload_n 2, 1) := dk_28 dg_cX11_divisor_477.2.2.2.2.2.2.2
theorem dg_cX11_divisor_478 : ck1 cX11_divisor 22 172 = true := by decide +kernel
theorem dX11_divisor_22 : decode cX11_divisor 22 = .ok (.ireturn, 1) := dk_172 dg_cX11_divisor_478
theorem dg_cX11_doff_479 : ck1 cX11_doff 0 42 = true ∧ ck1 cX11_doff 1 27 = true ∧ ck3 cX11_doff 2 182 446 = true ∧ ck3s cX11_doff 5 153 15 = true ∧ ck1 cX11_doff 8 42 = true ∧ ck3 cX11_doff 9 180 93 = true ∧ ck2s cX11_doff 12 16 6 = true ∧ ck1 cX11_doff 14 27 = true := by decide +kernel
theorem dX11_doff_0 : decode cX11_doff 0 = .ok (.aload_n 0, 1) := dk_42 dg_cX11_doff_479.1
theorem dX11_doff_1 : decode cX11_doff 1 = .ok (.iload_n 1, 1) := dk_27 dg_cX11_doff_479.2.1
theorem dX11_doff_2 : decode cX11_doff 2 = .ok (.invokevirtual 446, 3) := dk_182 dg_cX11_doff_479.2.2.1
theorem dX11_doff_5 : decode cX11_doff 5 = .ok (.ifCond .eq 15, 3) := dk_153 dg_cX11_doff_479.2.2.2.1
theorem dX11_doff_8 : decode cX11_doff 8 = .ok (.aload_n 0, 1) := dk_42 dg_cX11_doff_479.2.2.2.2.1
theorem dX11_doff_9 : decode cX11_doff 9 = .ok (.getfield 93, 3) := dk_180 dg_cX11_doff_479.2.2.2.2.2.1
theorem dX11_doff_12 : decode cX11_doff 12 = .ok (.bipush 6, 2) := dk_16 dg_cX11_doff_479.2.2.2.2.2.2.1
theorem dX11_doff_14 : decode cX11_doff 14 = .ok (.iload_n 1, 1) := dk_27 dg_cX11_doff_479.2.2.2.2.2.2.2
theorem dg_cX11_doff_480 : ck1 cX11_doff 15 96 = true ∧ ck1 cX11_doff 16 46 = true ∧ ck3s cX11_doff 17 156 5 = true ∧ ck1 cX11_doff 20 2 = true ∧ ck1 cX11_doff 21 172 = true ∧ ck1 cX11_doff 22 42 = true ∧ ck3 cX11_doff 23 182 458 = true ∧ ck1 cX11_doff 26 42 = true := by decide +kernel
theorem dX11_doff_15 : decode cX11_doff 15 = .ok (.iadd, 1) := dk_96 dg_cX11_doff_480.1
theorem dX11_doff_16 : decode cX11_doff 16 = .ok (.iaload, 1) := dk_46 dg_cX11_doff_480.2.1
theorem dX11_doff_17 : decode cX11_doff 17 = .ok (.ifCond .ge 5, 3) := dk_156 dg_cX11_doff_480.2.2.1
theorem dX11_doff_20 : decode cX11_doff 20 = .ok (.iconst (-1), 1) := dk_2 dg_cX11_doff_480.2.2.2.1
theorem dX11_doff_21 : decode cX11_doff 21 = .ok (.ireturn, 1) := dk_172 dg_cX11_doff_480.2.2.2.2.1
theorem dX11_doff_22 : decode cX11_doff 22 = .ok (.aload_n 0, 1) := dk_42 dg_cX11_doff_480.2.2.2.2.2.1
theorem dX11_doff_23 : decode cX11_doff 23 = .ok (.invokevirtual 458, 3) := dk_182 dg_cX11_doff_480.2.2.2.2.2.2.1
theorem dX11_doff_26 : decode cX11_doff 26 = .ok (.aload_n 0, 1) := dk_42 dg_cX11_doff_480.2.2.2.2.2.2.2
theorem dg_cX11_doff_481 : ck3 cX11_doff 27 180 93 = true ∧ ck2s cX11_doff 30 16 6 = true ∧ ck1 cX11_doff 32 27 = true ∧ ck1 cX11_doff 33 96 = true ∧ ck1 cX11_doff 34 46 = true ∧ ck1 cX11_doff 35 61 = true ∧ ck1 cX11_doff 36 42 = true ∧ ck3 cX11_doff 37 180 93 = true := by decide +kernel
theorem dX11_doff_27 : decode cX11_doff 27 = .ok (.getfield 93, 3) := dk_180 dg_cX11_doff_481.1
theorem dX11_doff_30 : decode cX11_doff 30 = .ok (.bipush 6, 2) := dk_16 dg_cX11_doff_481.2.1
theorem dX11_doff_32 : decode cX11_doff 32 = .ok (.iload_n 1, 1) := dk_27 dg_cX11_doff_481.2.2.1
theorem dX11_doff_33 : decode cX11_doff 33 = .ok (.iadd, 1) := dk_96 dg_cX11_doff_481.2.2.2.1
theorem dX11_doff_34 : decode cX11_doff 34 = .ok (.iaload, 1) := dk_46 dg_cX11_doff_481.2.2.2.2.1
theorem dX11_doff_35 : decode cX11_doff 35 = .ok (.istore_n 2, 1) := dk_61 dg_cX11_doff_481.2.2.2.2.2.1
theorem dX11_doff_36 : decode cX11_doff 36 = .ok (.aload_n 0, 1) := dk_42 dg_cX11_doff_481.2.2.2.2.2.2.1
theorem dX11_doff_37 : decode cX11_doff 37 = .ok (.getfield 93, 3) := dk_180 dg_cX11_doff_481.2.2.2.2.2.2.2
theorem dg_cX11_doff_482 : ck2s cX11_doff 40 16 6 = true ∧ ck1 cX11_doff 42 27 = true ∧ ck1 cX11_doff 43 96 = true ∧ ck1 cX11_doff 44 2 = true ∧ ck1 cX11_doff 45 79 = true ∧ ck1 cX11_doff 46 28 = true ∧ ck1 cX11_doff 47 172 = true := by decide +kernel
theorem dX11_doff_40 : decode cX11_doff 40 = .ok (.bipush 6, 2) := dk_16 dg_cX11_doff_482.1
theorem dX11_doff_42 : decode cX11_doff 42 = .ok (.iload_n 1, 1) := dk_27 dg_cX11_doff_482.2.1
theorem dX11_doff_43 : decode cX11_doff 43 = .ok (.iadd, 1) := dk_96 dg_cX11_doff_482.2.2.1
theorem dX11_doff_44 : decode cX11_doff 44 = .ok (.iconst (-1), 1) := dk_2 dg_cX11_doff_482.2.2.2.1
theorem dX11_doff_45 : decode cX11_doff 45 = .ok (.iastore, 1) := dk_79 dg_cX11_doff_482.2.2.2.2.1
theorem dX11_doff_46 : decode cX11_doff 46 = .ok (.iload_n 2, 1) := dk_28 dg_cX11_doff_482.2.2.2.2.2.1
theorem dX11_doff_47 : decode cX11_doff 47 = .ok (.ireturn, 1) := dk_172 dg_cX11_doff_482.2.2.2.2.2.2
theorem dg_cX11_don_483 : ck1 cX11_don 0 42 = true ∧ ck3 cX11_don 1 182 449 = true ∧ ck1 cX11_don 4 42 = true ∧ ck1 cX11_don 5 27 = true ∧ ck3 cX11_don 6 182 446 = true ∧ ck3s cX11_don 9 153 19 = true ∧ ck1 cX11_don 12 42 = true ∧ ck1 cX11_don 13 28 = true := by decide +kernel
theorem dX11_don_0 : decode cX11_don 0 = .ok (.aload_n 0, 1) := dk_42 dg_cX11_don_483.1
theorem dX11_don_1 : decode cX11_don 1 = .ok (.invokevirtual 449, 3) := dk_182 dg_cX11_don_483.2.1
theorem dX11_don_4 : decode cX11_don 4 = .ok (.aload_n 0, 1) := dk_42 dg_cX11_don_483.2.2.1
theorem dX11_don_5 : decode cX11_don 5 = .ok (.iload_n 1, 1) := dk_27 dg_cX11_don_483.2.2.2.1
theorem dX11_don_6 : decode cX11_don 6 = .ok (.invokevirtual 446, 3) := dk_182 dg_cX11_don_483.2.2.2.2.1
theorem dX11_don_9 : decode cX11_don 9 = .ok (.ifCond .eq 19, 3) := dk_153 dg_cX11_don_483.2.2.2.2.2.1
theorem dX11_don_12 : decode cX11_don 12 = .ok (.aload_n 0, 1) := dk_42 dg_cX11_don_483.2.2.2.2.2.2.1
theorem dX11_don_13 : decode cX11_don 13 = .ok (.iload_n 2, 1) := dk_28 dg_cX11_don_483.2.2.2.2.2.2.2
theorem dg_cX11_don_484 : ck3 cX11_don 14 182 455 = true ∧ ck3s cX11_don 17 153 11 = true ∧ ck1 cX11_don 20 42 = true ∧ ck1 cX11_don 21 28 = true ∧ ck3 cX11_don 22 182 434 = true ∧ ck3s cX11_don 25 155 6 = true ∧ ck2s cX11_don 28 16 (-2) = true ∧ ck1 cX11_don 30 172 = true := by decide +kernel
theorem dX11_don_14 : decode cX11_don 14 = .ok (.invokevirtual 455, 3) := dk_182 dg_cX11_don_484.1
theorem dX11_don_17 : decode cX11_don 17 = .ok (.ifCond .eq 11, 3) := dk_153 dg_cX11_don_484.2.1
theorem dX11_don_20 : decode cX11_don 20 = .ok (.aload_n 0, 1) := dk_42 dg_cX11_don_484.2.2.1
theorem dX11_don_21 : decode cX11_don 21 = .ok (.iload_n 2, 1) := dk_28 dg_cX11_don_484.2.2.2.1
theorem dX11_don_22 : decode cX11_don 22 = .ok (.invokevirtual 434, 3) := dk_182 dg_cX11_don_484.2.2.2.2.1
theorem dX11_don_25 : decode cX11_don 25 = .ok (.ifCond .lt 6, 3) := dk_155 dg_cX11_don_484.2.2.2.2.2.1
theorem dX11_don_28 : decode cX11_don 28 = .ok (.bipush (-2), 2) := dk_16 dg_cX11_don_484.2.2.2.2.2.2.1
theorem dX11_don_30 : decode cX11_don 30 = .ok (.ireturn, 1) := dk_172 dg_cX11_don_484.2.2.2.2.2.2.2
theorem dg_cX11_don_485 : ck1 cX11_don 31 42 = true ∧ ck3 cX11_don 32 182 458 = true ∧ ck1 cX11_don 35 42 = true ∧ ck3 cX11_don 36 180 93 = true ∧ ck2s cX11_don 39 16 6 = true ∧ ck1 cX11_don 41 27 = true ∧ ck1 cX11_don 42 96 = true ∧ ck1 cX11_don 43 46 = true := by decide +kernel
theorem dX11_don_31 : decode cX11_don 31 = .ok (.aload_n 0, 1) := dk_42 dg_cX11_don_485.1
theorem dX11_don_32 : decode cX11_don 32 = .ok (.invokevirtual 458, 3) := dk_182 dg_cX11_don_485.2.1
theorem dX11_don_35 : decode cX11_don 35 = .ok (.aload_n 0, 1) := dk_42 dg_cX11_don_485.2.2.1
theorem dX11_don_36 : decode cX11_don 36 = .ok (.getfield 93, 3) := dk_180 dg_cX11_don_485.2.2.2.1
theorem dX11_don_39 : decode cX11_don 39 = .ok (.bipush 6, 2) := dk_16 dg_cX11_don_485.2.2.2.2.1
theorem dX11_don_41 : decode cX11_don 41 = .ok (.iload_n 1, 1) := dk_27 dg_cX11_don_485.2.2.2.2.2.1
theorem dX11_don_42 : decode cX11_don 42 = .ok (.iadd, 1) := dk_96 dg_cX11_don_485.2.2.2.2.2.2.1
theorem dX11_don_43 : decode cX11_don 43 = .ok (.iaload, 1) := dk_46 dg_cX11_don_485.2.2.2.2.2.2.2
theorem dg_cX11_don_486 : ck1 cX11_don 44 62 = true ∧ ck1 cX11_don 45 42 = true ∧ ck3 cX11_don 46 180 93 = true ∧ ck2s cX11_don 49 16 6 = true ∧ ck1 cX11_don 51 27 = true ∧ ck1 cX11_don 52 96 = true ∧ ck1 cX11_don 53 28 = true ∧ ck1 cX11_don 54 79 = true := by decide +kernel
theorem dX11_don_44 : decode cX11_don 44 = .ok (.istore_n 3, 1) := dk_62 dg_cX11_don_486.1
theorem dX11_don_45 : decode cX11_don 45 = .ok (.aload_n 0, 1) := dk_42 dg_cX11_don_486.2.1
theorem dX11_don_46 : decode cX11_don 46 = .ok (.getfield 93, 3) := dk_180 dg_cX11_don_486.2.2.1
theorem dX11_don_49 : decode cX11_don 49 = .ok (.bipush 6, 2) := dk_16 dg_cX11_don_486.2.2.2.1
theorem dX11_don_51 : decode cX11_don 51 = .ok (.iload_n 1, 1) := dk_27 dg_cX11_don_486.2.2.2.2.1
theorem dX11_don_52 : decode cX11_don 52 = .ok (.iadd, 1) := dk_96 dg_cX11_don_486.2.2.2.2.2.1
theorem dX11_don_53 : decode cX11_don 53 = .ok (.iload_n 2, 1) := dk_28 dg_cX11_don_486.2.2.2.2.2.2.1
theorem dX11_don_54 : decode cX11_don 54 = .ok (.iastore, 1) := dk_79 dg_cX11_don_486.2.2.2.2.2.2.2
theorem dg_cX11_don_487 : ck1 cX11_don 55 29 = true ∧ ck1 cX11_don 56 172 = true := by decide +kernel
theorem dX11_don_55 : decode cX11_don 55 = .ok (.iload_n 3, 1) := dk_29 dg_cX11_don_487.1
theorem dX11_don_56 : decode cX11_don 56 = .ok (.ireturn, 1) := dk_172 dg_cX11_don_487.2
theorem dg_cX11_done_488 : ck1 cX11_done 0 26 = true := by decide +kernel
theorem dX11_done_0 : decode cX11_done 0 = .ok (.iload_n 0, 1) := dk_26 dg_cX11_done_488
theorem dX11_done_1 : decode cX11_done 1 = .ok (.tableswitch 214 37 62 #[143, 197, 214, 214, 214, 127, 119, 214, 123, 214, 131, 214, 214, 214, 214, 214, 214, 214, 214, 214, 214, 214, 214, 155, 183, 169], 119) := by decide +kernel
def dS_cX11_done_3 : List UInt8 := 4 :: 3 :: 184 :: 1 :: 54 :: 172 :: 27 :: 153 :: 0 :: 11 :: 28 :: 153 :: 0 :: 7 :: 4 :: 167 :: 0 :: 4 :: 3 :: 184 :: 1 :: 54 :: 172 :: 27 :: 154 :: 0 :: 7 :: 28 :: 153 :: 0 :: 7 :: 4 :: 167 :: 0 :: 4 :: 3 :: 184 :: 1 :: 54 :: 172 :: []
def dS_cX11_done_2 : List UInt8 := 27 :: 28 :: 104 :: 172 :: 28 :: 154 :: 0 :: 7 :: 3 :: 167 :: 0 :: 6 :: 27 :: 28 :: 108 :: 172 :: 28 :: 154 :: 0 :: 7 :: 3 :: 167 :: 0 :: 6 :: 27 :: 28 :: 112 :: 172 :: 27 :: 28 :: 162 :: 0 :: 7 :: 4 :: 167 :: 0 :: 4 :: 3 :: 184 :: 1 :: 54 :: 172 :: 27 :: 28 :: 164 :: 0 :: 7 :: 4 :: 167 :: 0 :: 4 :: 3 :: 184 :: 1 :: 54 :: 172 :: 27 :: 28 :: 160 :: 0 :: 7 :: 4 :: 167 :: 0 :: dS_cX11_done_3
def dS_cX11_done_1 : List UInt8 := 0 :: 0 :: 0 :: 214 :: 0 :: 0 :: 0 :: 214 :: 0 :: 0 :: 0 :: 214 :: 0 :: 0 :: 0 :: 214 :: 0 :: 0 :: 0 :: 214 :: 0 :: 0 :: 0 :: 214 :: 0 :: 0 :: 0 :: 214 :: 0 :: 0 :: 0 :: 214 :: 0 :: 0 :: 0 :: 214 :: 0 :: 0 :: 0 :: 214 :: 0 :: 0 :: 0 :: 214 :: 0 :: 0 :: 0 :: 155 :: 0 :: 0 :: 0 :: 183 :: 0 :: 0 :: 0 :: 169 :: 27 :: 28 :: 96 :: 172 :: 27 :: 28 :: 100 :: 172 :: dS_cX11_done_2
def dS_cX11_done_0 : List UInt8 := 26 :: 170 :: 0 :: 0 :: 0 :: 0 :: 0 :: 214 :: 0 :: 0 :: 0 :: 37 :: 0 :: 0 :: 0 :: 62 :: 0 :: 0 :: 0 :: 143 :: 0 :: 0 :: 0 :: 197 :: 0 :: 0 :: 0 :: 214 :: 0 :: 0 :: 0 :: 214 :: 0 :: 0 :: 0 :: 214 :: 0 :: 0 :: 0 :: 127 :: 0 :: 0 :: 0 :: 119 :: 0 :: 0 :: 0 :: 214 :: 0 :: 0 :: 0 :: 123 :: 0 :: 0 :: 0 :: 214 :: 0 :: 0 :: 0 :: 131 :: 0 :: 0 :: 0 :: 214 :: dS_cX11_done_1
theorem dT_cX11_done_0 : cX11_done.data.toList.drop 0 = dS_cX11_done_0 := by decide +kernel
theorem dT_cX11_done_1 : cX11_done.data.toList.drop 64 = dS_cX11_done_1 := ck_nx dT_cX11_done_0 (by decide +kernel) rfl
theorem dT_cX11_done_2 : cX11_done.data.toList.drop 128 = dS_cX11_done_2 := ck_nx dT_cX11_done_1 (by decide +kernel) rfl
theorem dT_cX11_done_3 : cX11_done.data.toList.drop 192 = dS_cX11_done_3 := ck_nx dT_cX11_done_2 (by decide +kernel) rfl
theorem dg_cX11_done_489 : ck1L dS_cX11_done_1 56 27 = true ∧ ck1L dS_cX11_done_1 57 28 = true ∧ ck1L dS_cX11_done_1 58 96 = true ∧ ck1L dS_cX11_done_1 59 172 = true ∧ ck1L dS_cX11_done_1 60 27 = true ∧ ck1L dS_cX11_done_1 61 28 = true ∧ ck1L dS_cX11_done_1 62 100 = true ∧ ck1L dS_cX11_done_1 63 172 = true := by decide +kernel
theorem dX11_done_120 : decode cX11_done 120 = .ok (.iload_n 1, 1) := dk_27 (ck1_s (r := 56) dT_cX11_done_1 rfl dg_cX11_done_489.1)
theorem dX11_done_121 : decode cX11_done 121 = .ok (.iload_n 2, 1) := dk_28 (ck1_s (r := 57) dT_cX11_done_1 rfl dg_cX11_done_489.2.1)
theorem dX11_done_122 : decode cX11_done 122 = .ok (.iadd, 1) := dk_96 (ck1_s (r := 58) dT_cX11_done_1 rfl dg_cX11_done_489.2.2.1)
theorem dX11_done_123 : decode cX11_done 123 = .ok (.ireturn, 1) := dk_172 (ck1_s (r := 59) dT_cX11_done_1 rfl dg_cX11_done_489.2.2.2.1)
theorem dX11_done_124 : decode cX11_done 124 = .ok (.iload_n 1, 1) := dk_27 (ck1_s (r := 60) dT_cX11_done_1 rfl dg_cX11_done_489.2.2.2.2.1)
theorem dX11_done_125 : decode cX11_done 125 = .ok (.iload_n 2, 1) := dk_28 (ck1_s (r := 61) dT_cX11_done_1 rfl dg_cX11_done_489.2.2.2.2.2.1)
theorem dX11_done_126 : decode cX11_done 126 = .ok (.isub, 1) := dk_100 (ck1_s (r := 62) dT_cX11_done_1 rfl dg_cX11_done_489.2.2.2.2.2.2.1)
theorem dX11_done_127 : decode cX11_done 127 = .ok (.ireturn, 1) := dk_172 (ck1_s (r := 63) dT_cX11_done_1 rfl dg_cX11_done_489.2.2.2.2.2.2.2)
theorem dg_cX11_done_490 : ck1L dS_cX11_done_2 0 27 = true ∧ ck1L dS_cX11_done_2 1 28 = true ∧ ck1L dS_cX11_done_2 2 104 = true ∧ ck1L dS_cX11_done_2 3 172 = true ∧ ck1L dS_cX11_done_2 4 28 = true ∧ ck3sL dS_cX11_done_2 5 154 7 = true ∧ ck1L dS_cX11_done_2 8 3 = true ∧ ck3sL dS_cX11_done_2 9 167 6 = true := by decide +kernel
theorem dX11_done_128 : decode cX11_done 128 = .ok (.iload_n 1, 1) := dk_27 (ck1_s (r := 0) dT_cX11_done_2 rfl dg_cX11_done_490.1)
theorem dX11_done_129 : decode cX11_done 129 = .ok (.iload_n 2, 1) := dk_28 (ck1_s (r := 1) dT_cX11_done_2 rfl dg_cX11_done_490.2.1)
theorem dX11_done_130 : decode cX11_done 130 = .ok (.imul, 1) := dk_104 (ck1_s (r := 2) dT_cX11_done_2 rfl dg_cX11_done_490.2.2.1)
theorem dX11_done_131 : decode cX11_done 131 = .ok (.ireturn, 1) := dk_172 (ck1_s (r := 3) dT_cX11_done_2 rfl dg_cX11_done_490.2.2.2.1)
theorem dX11_done_132 : decode cX11_done 132 = .ok (.iload_n 2, 1) := dk_28 (ck1_s (r := 4) dT_cX11_done_2 rfl dg_cX11_done_490.2.2.2.2.1)
theorem dX11_done_133 : decode cX11_done 133 = .ok (.ifCond .ne 7, 3) := dk_154 (ck3s_s (r := 5) dT_cX11_done_2 rfl dg_cX11_done_490.2.2.2.2.2.1)
theorem dX11_done_136 : decode cX11_done 136 = .ok (.iconst 0, 1) := dk_3 (ck1_s (r := 8) dT_cX11_done_2 rfl dg_cX11_done_490.2.2.2.2.2.2.1)
theorem dX11_done_137 : decode cX11_done 137 = .ok (.goto 6, 3) := dk_167 (ck3s_s (r := 9) dT_cX11_done_2 rfl dg_cX11_done_490.2.2.2.2.2.2.2)
theorem dg_cX11_done_491 : ck1L dS_cX11_done_2 12 27 = true ∧ ck1L dS_cX11_done_2 13 28 = true ∧ ck1L dS_cX11_done_2 14 108 = true ∧ ck1L dS_cX11_done_2 15 172 = true ∧ ck1L dS_cX11_done_2 16 28 = true ∧ ck3sL dS_cX11_done_2 17 154 7 = true ∧ ck1L dS_cX11_done_2 20 3 = true ∧ ck3sL dS_cX11_done_2 21 167 6 = true := by decide +kernel
theorem dX11_done_140 : decode cX11_done 140 = .ok (.iload_n 1, 1) := dk_27 (ck1_s (r := 12) dT_cX11_done_2 rfl dg_cX11_done_491.1)
theorem dX11_done_141 : decode cX11_done 141 = .ok (.iload_n 2, 1) := dk_28 (ck1_s (r := 13) dT_cX11_done_2 rfl dg_cX11_done_491.2.1)
theorem dX11_done_142 : decode cX11_done 142 = .ok (.idiv, 1) := dk_108 (ck1_s (r := 14) dT_cX11_done_2 rfl dg_cX11_done_491.2.2.1)
theorem dX11_done_143 : decode cX11_done 143 = .ok (.ireturn, 1) := dk_172 (ck1_s (r := 15) dT_cX11_done_2 rfl dg_cX11_done_491.2.2.2.1)
theorem dX11_done_144 : decode cX11_done 144 = .ok (.iload_n 2, 1) := dk_28 (ck1_s (r := 16) dT_cX11_done_2 rfl dg_cX11_done_491.2.2.2.2.1)
theorem dX11_done_145 : decode cX11_done 145 = .ok (.ifCond .ne 7, 3) := dk_154 (ck3s_s (r := 17) dT_cX11_done_2 rfl dg_cX11_done_491.2.2.2.2.2.1)
theorem dX11_done_148 : decode cX11_done 148 = .ok (.iconst 0, 1) := dk_3 (ck1_s (r := 20) dT_cX11_done_2 rfl dg_cX11_done_491.2.2.2.2.2.2.1)
theorem dX11_done_149 : decode cX11_done 149 = .ok (.goto 6, 3) := dk_167 (ck3s_s (r := 21) dT_cX11_done_2 rfl dg_cX11_done_491.2.2.2.2.2.2.2)
theorem dg_cX11_done_492 : ck1L dS_cX11_done_2 24 27 = true ∧ ck1L dS_cX11_done_2 25 28 = true ∧ ck1L dS_cX11_done_2 26 112 = true ∧ ck1L dS_cX11_done_2 27 172 = true ∧ ck1L dS_cX11_done_2 28 27 = true ∧ ck1L dS_cX11_done_2 29 28 = true ∧ ck3sL dS_cX11_done_2 30 162 7 = true ∧ ck1L dS_cX11_done_2 33 4 = true := by decide +kernel
theorem dX11_done_152 : decode cX11_done 152 = .ok (.iload_n 1, 1) := dk_27 (ck1_s (r := 24) dT_cX11_done_2 rfl dg_cX11_done_492.1)
theorem dX11_done_153 : decode cX11_done 153 = .ok (.iload_n 2, 1) := dk_28 (ck1_s (r := 25) dT_cX11_done_2 rfl dg_cX11_done_492.2.1)
theorem dX11_done_154 : decode cX11_done 154 = .ok (.irem, 1) := dk_112 (ck1_s (r := 26) dT_cX11_done_2 rfl dg_cX11_done_492.2.2.1)
theorem dX11_done_155 : decode cX11_done 155 = .ok (.ireturn, 1) := dk_172 (ck1_s (r := 27) dT_cX11_done_2 rfl dg_cX11_done_492.2.2.2.1)
theorem dX11_done_156 : decode cX11_done 156 = .ok (.iload_n 1, 1) := dk_27 (ck1_s (r := 28) dT_cX11_done_2 rfl dg_cX11_done_492.2.2.2.2.1)
theorem dX11_done_157 : decode cX11_done 157 = .ok (.iload_n 2, 1) := dk_28 (ck1_s (r := 29) dT_cX11_done_2 rfl dg_cX11_done_492.2.2.2.2.2.1)
theorem dX11_done_158 : decode cX11_done 158 = .ok (.if_icmp .ge 7, 3) := dk_162 (ck3s_s (r := 30) dT_cX11_done_2 rfl dg_cX11_done_492.2.2.2.2.2.2.1)
theorem dX11_done_161 : decode cX11_done 161 = .ok (.iconst 1, 1) := dk_4 (ck1_s (r := 33) dT_cX11_done_2 rfl dg_cX11_done_492.2.2.2.2.2.2.2)
theorem dg_cX11_done_493 : ck3sL dS_cX11_done_2 34 167 4 = true ∧ ck1L dS_cX11_done_2 37 3 = true ∧ ck3L dS_cX11_done_2 38 184 310 = true ∧ ck1L dS_cX11_done_2 41 172 = true ∧ ck1L dS_cX11_done_2 42 27 = true ∧ ck1L dS_cX11_done_2 43 28 = true ∧ ck3sL dS_cX11_done_2 44 164 7 = true ∧ ck1L dS_cX11_done_2 47 4 = true := by decide +kernel
theorem dX11_done_162 : decode cX11_done 162 = .ok (.goto 4, 3) := dk_167 (ck3s_s (r := 34) dT_cX11_done_2 rfl dg_cX11_done_493.1)
theorem dX11_done_165 : decode cX11_done 165 = .ok (.iconst 0, 1) := dk_3 (ck1_s (r := 37) dT_cX11_done_2 rfl dg_cX11_done_493.2.1)
theorem dX11_done_166 : decode cX11_done 166 = .ok (.invokestatic 310, 3) := dk_184 (ck3_s (r := 38) dT_cX11_done_2 rfl dg_cX11_done_493.2.2.1)
theorem dX11_done_169 : decode cX11_done 169 = .ok (.ireturn, 1) := dk_172 (ck1_s (r := 41) dT_cX11_done_2 rfl dg_cX11_done_493.2.2.2.1)
theorem dX11_done_170 : decode cX11_done 170 = .ok (.iload_n 1, 1) := dk_27 (ck1_s (r := 42) dT_cX11_done_2 rfl dg_cX11_done_493.2.2.2.2.1)
theorem dX11_done_171 : decode cX11_done 171 = .ok (.iload_n 2, 1) := dk_28 (ck1_s (r := 43) dT_cX11_done_2 rfl dg_cX11_done_493.2.2.2.2.2.1)
theorem dX11_done_172 : decode cX11_done 172 = .ok (.if_icmp .le 7, 3) := dk_164 (ck3s_s (r := 44) dT_cX11_done_2 rfl dg_cX11_done_493.2.2.2.2.2.2.1)
theorem dX11_done_175 : decode cX11_done 175 = .ok (.iconst 1, 1) := dk_4 (ck1_s (r := 47) dT_cX11_done_2 rfl dg_cX11_done_493.2.2.2.2.2.2.2)
theorem dg_cX11_done_494 : ck3sL dS_cX11_done_2 48 167 4 = true ∧ ck1L dS_cX11_done_2 51 3 = true ∧ ck3L dS_cX11_done_2 52 184 310 = true ∧ ck1L dS_cX11_done_2 55 172 = true ∧ ck1L dS_cX11_done_2 56 27 = true ∧ ck1L dS_cX11_done_2 57 28 = true ∧ ck3sL dS_cX11_done_2 58 160 7 = true ∧ ck1L dS_cX11_done_2 61 4 = true := by decide +kernel
theorem dX11_done_176 : decode cX11_done 176 = .ok (.goto 4, 3) := dk_167 (ck3s_s (r := 48) dT_cX11_done_2 rfl dg_cX11_done_494.1)
theorem dX11_done_179 : decode cX11_done 179 = .ok (.iconst 0, 1) := dk_3 (ck1_s (r := 51) dT_cX11_done_2 rfl dg_cX11_done_494.2.1)
theorem dX11_done_180 : decode cX11_done 180 = .ok (.invokestatic 310, 3) := dk_184 (ck3_s (r := 52) dT_cX11_done_2 rfl dg_cX11_done_494.2.2.1)
theorem dX11_done_183 : decode cX11_done 183 = .ok (.ireturn, 1) := dk_172 (ck1_s (r := 55) dT_cX11_done_2 rfl dg_cX11_done_494.2.2.2.1)
theorem dX11_done_184 : decode cX11_done 184 = .ok (.iload_n 1, 1) := dk_27 (ck1_s (r := 56) dT_cX11_done_2 rfl dg_cX11_done_494.2.2.2.2.1)
theorem dX11_done_185 : decode cX11_done 185 = .ok (.iload_n 2, 1) := dk_28 (ck1_s (r := 57) dT_cX11_done_2 rfl dg_cX11_done_494.2.2.2.2.2.1)
theorem dX11_done_186 : decode cX11_done 186 = .ok (.if_icmp .ne 7, 3) := dk_160 (ck3s_s (r := 58) dT_cX11_done_2 rfl dg_cX11_done_494.2.2.2.2.2.2.1)
theorem dX11_done_189 : decode cX11_done 189 = .ok (.iconst 1, 1) := dk_4 (ck1_s (r := 61) dT_cX11_done_2 rfl dg_cX11_done_494.2.2.2.2.2.2.2)
theorem dg_cX11_done_495 : ck3sL dS_cX11_done_2 62 167 4 = true ∧ ck1L dS_cX11_done_3 1 3 = true ∧ ck3L dS_cX11_done_3 2 184 310 = true ∧ ck1L dS_cX11_done_3 5 172 = true ∧ ck1L dS_cX11_done_3 6 27 = true ∧ ck3sL dS_cX11_done_3 7 153 11 = true ∧ ck1L dS_cX11_done_3 10 28 = true ∧ ck3sL dS_cX11_done_3 11 153 7 = true := by decide +kernel
theorem dX11_done_190 : decode cX11_done 190 = .ok (.goto 4, 3) := dk_167 (ck3s_s (r := 62) dT_cX11_done_2 rfl dg_cX11_done_495.1)
theorem dX11_done_193 : decode cX11_done 193 = .ok (.iconst 0, 1) := dk_3 (ck1_s (r := 1) dT_cX11_done_3 rfl dg_cX11_done_495.2.1)
theorem dX11_done_194 : decode cX11_done 194 = .ok (.invokestatic 310, 3) := dk_184 (ck3_s (r := 2) dT_cX11_done_3 rfl dg_cX11_done_495.2.2.1)
theorem dX11_done_197 : decode cX11_done 197 = .ok (.ireturn, 1) := dk_172 (ck1_s (r := 5) dT_cX11_done_3 rfl dg_cX11_done_495.2.2.2.1)
theorem dX11_done_198 : decode cX11_done 198 = .ok (.iload_n 1, 1) := dk_27 (ck1_s (r := 6) dT_cX11_done_3 rfl dg_cX11_done_495.2.2.2.2.1)
theorem dX11_done_199 : decode cX11_done 199 = .ok (.ifCond .eq 11, 3) := dk_153 (ck3s_s (r := 7) dT_cX11_done_3 rfl dg_cX11_done_495.2.2.2.2.2.1)
theorem dX11_done_202 : decode cX11_done 202 = .ok (.iload_n 2, 1) := dk_28 (ck1_s (r := 10) dT_cX11_done_3 rfl dg_cX11_done_495.2.2.2.2.2.2.1)
theorem dX11_done_203 : decode cX11_done 203 = .ok (.ifCond .eq 7, 3) := dk_153 (ck3s_s (r := 11) dT_cX11_done_3 rfl dg_cX11_done_495.2.2.2.2.2.2.2)
theorem dg_cX11_done_496 : ck1L dS_cX11_done_3 14 4 = true ∧ ck3sL dS_cX11_done_3 15 167 4 = true ∧ ck1L dS_cX11_done_3 18 3 = true ∧ ck3L dS_cX11_done_3 19 184 310 = true ∧ ck1L dS_cX11_done_3 22 172 = true ∧ ck1L dS_cX11_done_3 23 27 = true ∧ ck3sL dS_cX11_done_3 24 154 7 = true ∧ ck1L dS_cX11_done_3 27 28 = true := by decide +kernel
theorem dX11_done_206 : decode cX11_done 206 = .ok (.iconst 1, 1) := dk_4 (ck1_s (r := 14) dT_cX11_done_3 rfl dg_cX11_done_496.1)
theorem dX11_done_207 : decode cX11_done 207 = .ok (.goto 4, 3) := dk_167 (ck3s_s (r := 15) dT_cX11_done_3 rfl dg_cX11_done_496.2.1)
theorem dX11_done_210 : decode cX11_done 210 = .ok (.iconst 0, 1) := dk_3 (ck1_s (r := 18) dT_cX11_done_3 rfl dg_cX11_done_496.2.2.1)
theorem dX11_done_211 : decode cX11_done 211 = .ok (.invokestatic 310, 3) := dk_184 (ck3_s (r := 19) dT_cX11_done_3 rfl dg_cX11_done_496.2.2.2.1)
theorem dX11_done_214 : decode cX11_done 214 = .ok (.ireturn, 1) := dk_172 (ck1_s (r := 22) dT_cX11_done_3 rfl dg_cX11_done_496.2.2.2.2.1)
theorem dX11_done_215 : decode cX11_done 215 = .ok (.iload_n 1, 1) := dk_27 (ck1_s (r := 23) dT_cX11_done_3 rfl dg_cX11_done_496.2.2.2.2.2.1)
theorem dX11_done_216 : decode cX11_done 216 = .ok (.ifCond .ne 7, 3) := dk_154 (ck3s_s (r := 24) dT_cX11_done_3 rfl dg_cX11_done_496.2.2.2.2.2.2.1)
theorem dX11_done_219 : decode cX11_done 219 = .ok (.iload_n 2, 1) := dk_28 (ck1_s (r := 27) dT_cX11_done_3 rfl dg_cX11_done_496.2.2.2.2.2.2.2)
theorem dg_cX11_done_497 : ck3sL dS_cX11_done_3 28 153 7 = true ∧ ck1L dS_cX11_done_3 31 4 = true ∧ ck3sL dS_cX11_done_3 32 167 4 = true ∧ ck1L dS_cX11_done_3 35 3 = true ∧ ck3L dS_cX11_done_3 36 184 310 = true ∧ ck1L dS_cX11_done_3 39 172 = true := by decide +kernel
theorem dX11_done_220 : decode cX11_done 220 = .ok (.ifCond .eq 7, 3) := dk_153 (ck3s_s (r := 28) dT_cX11_done_3 rfl dg_cX11_done_497.1)
theorem dX11_done_223 : decode cX11_done 223 = .ok (.iconst 1, 1) := dk_4 (ck1_s (r := 31) dT_cX11_done_3 rfl dg_cX11_done_497.2.1)
theorem dX11_done_224 : decode cX11_done 224 = .ok (.goto 4, 3) := dk_167 (ck3s_s (r := 32) dT_cX11_done_3 rfl dg_cX11_done_497.2.2.1)
theorem dX11_done_227 : decode cX11_done 227 = .ok (.iconst 0, 1) := dk_3 (ck1_s (r := 35) dT_cX11_done_3 rfl dg_cX11_done_497.2.2.2.1)
theorem dX11_done_228 : decode cX11_done 228 = .ok (.invokestatic 310, 3) := dk_184 (ck3_s (r := 36) dT_cX11_done_3 rfl dg_cX11_done_497.2.2.2.2.1)
theorem dX11_done_231 : decode cX11_done 231 = .ok (.ireturn, 1) := dk_172 (ck1_s (r := 39) dT_cX11_done_3 rfl dg_cX11_done_497.2.2.2.2.2)
theorem dg_cX11_drawRain_498 : ck1 cX11_drawRain 0 42 = true ∧ ck3 cX11_drawRain 1 180 96 = true ∧ ck2s cX11_drawRain 4 16 38 = true ∧ ck1 cX11_drawRain 6 42 = true ∧ ck3 cX11_drawRain 7 180 96 = true ∧ ck2s cX11_drawRain 10 16 38 = true ∧ ck1 cX11_drawRain 12 46 = true ∧ ck3s cX11_drawRain 13 17 137 = true := by decide +kernel
theorem dX11_drawRain_0 : decode cX11_drawRain 0 = .ok (.aload_n 0, 1) := dk_42 dg_cX11_drawRain_498.1
theorem dX11_drawRain_1 : decode cX11_drawRain 1 = .ok (.getfield 96, 3) := dk_180 dg_cX11_drawRain_498.2.1
theorem dX11_drawRain_4 : decode cX11_drawRain 4 = .ok (.bipush 38, 2) := dk_16 dg_cX11_drawRain_498.2.2.1
theorem dX11_drawRain_6 : decode cX11_drawRain 6 = .ok (.aload_n 0, 1) := dk_42 dg_cX11_drawRain_498.2.2.2.1
theorem dX11_drawRain_7 : decode cX11_drawRain 7 = .ok (.getfield 96, 3) := dk_180 dg_cX11_drawRain_498.2.2.2.2.1
theorem dX11_drawRain_10 : decode cX11_drawRain 10 = .ok (.bipush 38, 2) := dk_16 dg_cX11_drawRain_498.2.2.2.2.2.1
theorem dX11_drawRain_12 : decode cX11_drawRain 12 = .ok (.iaload, 1) := dk_46 dg_cX11_drawRain_498.2.2.2.2.2.2.1
theorem dX11_drawRain_13 : decode cX11_drawRain 13 = .ok (.sipush 137, 3) := dk_17 dg_cX11_drawRain_498.2.2.2.2.2.2.2
theorem dg_cX11_drawRain_499 : ck1 cX11_drawRain 16 104 = true ∧ ck2s cX11_drawRain 17 16 71 = true ∧ ck1 cX11_drawRain 19 96 = true ∧ ck3s cX11_drawRain 20 17 1000 = true ∧ ck1 cX11_drawRain 23 112 = true ∧ ck1 cX11_drawRain 24 79 = true ∧ ck1 cX11_drawRain 25 42 = true ∧ ck3 cX11_drawRain 26 180 96 = true := by decide +kernel
theorem dX11_drawRain_16 : decode cX11_drawRain 16 = .ok (.imul, 1) := dk_104 dg_cX11_drawRain_499.1
theorem dX11_drawRain_17 : decode cX11_drawRain 17 = .ok (.bipush 71, 2) := dk_16 dg_cX11_drawRain_499.2.1
theorem dX11_drawRain_19 : decode cX11_drawRain 19 = .ok (.iadd, 1) := dk_96 dg_cX11_drawRain_499.2.2.1
theorem dX11_drawRain_20 : decode cX11_drawRain 20 = .ok (.sipush 1000, 3) := dk_17 dg_cX11_drawRain_499.2.2.2.1
theorem dX11_drawRain_23 : decode cX11_drawRain 23 = .ok (.irem, 1) := dk_112 dg_cX11_drawRain_499.2.2.2.2.1
theorem dX11_drawRain_24 : decode cX11_drawRain 24 = .ok (.iastore, 1) := dk_79 dg_cX11_drawRain_499.2.2.2.2.2.1
theorem dX11_drawRain_25 : decode cX11_drawRain 25 = .ok (.aload_n 0, 1) := dk_42 dg_cX11_drawRain_499.2.2.2.2.2.2.1
theorem dX11_drawRain_26 : decode cX11_drawRain 26 = .ok (.getfield 96, 3) := dk_180 dg_cX11_drawRain_499.2.2.2.2.2.2.2
theorem dg_cX11_drawRain_500 : ck2s cX11_drawRain 29 16 38 = true ∧ ck1 cX11_drawRain 31 46 = true ∧ ck2s cX11_drawRain 32 16 100 = true ∧ ck1 cX11_drawRain 34 112 = true ∧ ck1 cX11_drawRain 35 42 = true ∧ ck3 cX11_drawRain 36 180 393 = true ∧ ck3s cX11_drawRain 39 162 7 = true ∧ ck1 cX11_drawRain 42 4 = true := by decide +kernel
theorem dX11_drawRain_29 : decode cX11_drawRain 29 = .ok (.bipush 38, 2) := dk_16 dg_cX11_drawRain_500.1
theorem dX11_drawRain_31 : decode cX11_drawRain 31 = .ok (.iaload, 1) := dk_46 dg_cX11_drawRain_500.2.1
theorem dX11_drawRain_32 : decode cX11_drawRain 32 = .ok (.bipush 100, 2) := dk_16 dg_cX11_drawRain_500.2.2.1
theorem dX11_drawRain_34 : decode cX11_drawRain 34 = .ok (.irem, 1) := dk_112 dg_cX11_drawRain_500.2.2.2.1
theorem dX11_drawRain_35 : decode cX11_drawRain 35 = .ok (.aload_n 0, 1) := dk_42 dg_cX11_drawRain_500.2.2.2.2.1
theorem dX11_drawRain_36 : decode cX11_drawRain 36 = .ok (.getfield 393, 3) := dk_180 dg_cX11_drawRain_500.2.2.2.2.2.1
theorem dX11_drawRain_39 : decode cX11_drawRain 39 = .ok (.if_icmp .ge 7, 3) := dk_162 dg_cX11_drawRain_500.2.2.2.2.2.2.1
theorem dX11_drawRain_42 : decode cX11_drawRain 42 = .ok (.iconst 1, 1) := dk_4 dg_cX11_drawRain_500.2.2.2.2.2.2.2
theorem dg_cX11_drawRain_501 : ck3s cX11_drawRain 43 167 4 = true ∧ ck1 cX11_drawRain 46 3 = true ∧ ck1 cX11_drawRain 47 172 = true := by decide +kernel
theorem dX11_drawRain_43 : decode cX11_drawRain 43 = .ok (.goto 4, 3) := dk_167 dg_cX11_drawRain_501.1
theorem dX11_drawRain_46 : decode cX11_drawRain 46 = .ok (.iconst 0, 1) := dk_3 dg_cX11_drawRain_501.2.1
theorem dX11_drawRain_47 : decode cX11_drawRain 47 = .ok (.ireturn, 1) := dk_172 dg_cX11_drawRain_501.2.2
theorem dg_cX11_dress_502 : ck1 cX11_dress 0 27 = true ∧ ck1 cX11_dress 1 3 = true ∧ ck1 cX11_dress 2 4 = true ∧ ck3 cX11_dress 3 184 417 = true ∧ ck3s cX11_dress 6 154 5 = true ∧ ck1 cX11_dress 9 2 = true ∧ ck1 cX11_dress 10 172 = true ∧ ck1 cX11_dress 11 42 = true := by decide +kernel
theorem dX11_dress_0 : decode cX11_dress 0 = .ok (.iload_n 1, 1) := dk_27 dg_cX11_dress_502.1
theorem dX11_dress_1 : decode cX11_dress 1 = .ok (.iconst 0, 1) := dk_3 dg_cX11_dress_502.2.1
theorem dX11_dress_2 : decode cX11_dress 2 = .ok (.iconst 1, 1) := dk_4 dg_cX11_dress_502.2.2.1
theorem dX11_dress_3 : decode cX11_dress 3 = .ok (.invokestatic 417, 3) := dk_184 dg_cX11_dress_502.2.2.2.1
theorem dX11_dress_6 : decode cX11_dress 6 = .ok (.ifCond .ne 5, 3) := dk_154 dg_cX11_dress_502.2.2.2.2.1
theorem dX11_dress_9 : decode cX11_dress 9 = .ok (.iconst (-1), 1) := dk_2 dg_cX11_dress_502.2.2.2.2.2.1
theorem dX11_dress_10 : decode cX11_dress 10 = .ok (.ireturn, 1) := dk_172 dg_cX11_dress_502.2.2.2.2.2.2.1
theorem dX11_dress_11 : decode cX11_dress 11 = .ok (.aload_n 0, 1) := dk_42 dg_cX11_dress_502.2.2.2.2.2.2.2
theorem dg_cX11_dress_503 : ck3 cX11_dress 12 182 470 = true ∧ ck1 cX11_dress 15 2 = true ∧ ck1 cX11_dress 16 61 = true ∧ ck1 cX11_dress 17 3 = true ∧ ck1 cX11_dress 18 62 = true ∧ ck1 cX11_dress 19 3 = true ∧ ck2 cX11_dress 20 54 4 = true ∧ ck2 cX11_dress 22 21 4 = true := by decide +kernel
theorem dX11_dress_12 : decode cX11_dress 12 = .ok (.invokevirtual 470, 3) := dk_182 dg_cX11_dress_503.1
theorem dX11_dress_15 : decode cX11_dress 15 = .ok (.iconst (-1), 1) := dk_2 dg_cX11_dress_503.2.1
theorem dX11_dress_16 : decode cX11_dress 16 = .ok (.istore_n 2, 1) := dk_61 dg_cX11_dress_503.2.2.1
theorem dX11_dress_17 : decode cX11_dress 17 = .ok (.iconst 0, 1) := dk_3 dg_cX11_dress_503.2.2.2.1
theorem dX11_dress_18 : decode cX11_dress 18 = .ok (.istore_n 3, 1) := dk_62 dg_cX11_dress_503.2.2.2.2.1
theorem dX11_dress_19 : decode cX11_dress 19 = .ok (.iconst 0, 1) := dk_3 dg_cX11_dress_503.2.2.2.2.2.1
theorem dX11_dress_20 : decode cX11_dress 20 = .ok (.istore 4, 2) := dk_54 dg_cX11_dress_503.2.2.2.2.2.2.1
theorem dX11_dress_22 : decode cX11_dress 22 = .ok (.iload 4, 2) := dk_21 dg_cX11_dress_503.2.2.2.2.2.2.2
theorem dg_cX11_dress_504 : ck1 cX11_dress 24 42 = true ∧ ck3 cX11_dress 25 180 390 = true ∧ ck1 cX11_dress 28 4 = true ∧ ck1 cX11_dress 29 96 = true ∧ ck1 cX11_dress 30 42 = true ∧ ck3 cX11_dress 31 180 387 = true ∧ ck3 cX11_dress 34 184 473 = true ∧ ck3s cX11_dress 37 162 85 = true := by decide +kernel
theorem dX11_dress_24 : decode cX11_dress 24 = .ok (.aload_n 0, 1) := dk_42 dg_cX11_dress_504.1
theorem dX11_dress_25 : decode cX11_dress 25 = .ok (.getfield 390, 3) := dk_180 dg_cX11_dress_504.2.1
theorem dX11_dress_28 : decode cX11_dress 28 = .ok (.iconst 1, 1) := dk_4 dg_cX11_dress_504.2.2.1
theorem dX11_dress_29 : decode cX11_dress 29 = .ok (.iadd, 1) := dk_96 dg_cX11_dress_504.2.2.2.1
theorem dX11_dress_30 : decode cX11_dress 30 = .ok (.aload_n 0, 1) := dk_42 dg_cX11_dress_504.2.2.2.2.1
theorem dX11_dress_31 : decode cX11_dress 31 = .ok (.getfield 387, 3) := dk_180 dg_cX11_dress_504.2.2.2.2.2.1
theorem dX11_dress_34 : decode cX11_dress 34 = .ok (.invokestatic 473, 3) := dk_184 dg_cX11_dress_504.2.2.2.2.2.2.1
theorem dX11_dress_37 : decode cX11_dress 37 = .ok (.if_icmp .ge 85, 3) := dk_162 dg_cX11_dress_504.2.2.2.2.2.2.2
theorem dg_cX11_dress_505 : ck1 cX11_dress 40 42 = true ∧ ck2 cX11_dress 41 21 4 = true ∧ ck3 cX11_dress 43 182 476 = true ∧ ck2 cX11_dress 46 54 5 = true ∧ ck2 cX11_dress 48 21 5 = true ∧ ck3s cX11_dress 50 155 66 = true ∧ ck2 cX11_dress 53 21 5 = true ∧ ck1 cX11_dress 55 28 = true := by decide +kernel
theorem dX11_dress_40 : decode cX11_dress 40 = .ok (.aload_n 0, 1) := dk_42 dg_cX11_dress_505.1
theorem dX11_dress_41 : decode cX11_dress 41 = .ok (.iload 4, 2) := dk_21 dg_cX11_dress_505.2.1
theorem dX11_dress_43 : decode cX11_dress 43 = .ok (.invokevirtual 476, 3) := dk_182 dg_cX11_dress_505.2.2.1
theorem dX11_dress_46 : decode cX11_dress 46 = .ok (.istore 5, 2) := dk_54 dg_cX11_dress_505.2.2.2.1
theorem dX11_dress_48 : decode cX11_dress 48 = .ok (.iload 5, 2) := dk_21 dg_cX11_dress_505.2.2.2.2.1
theorem dX11_dress_50 : decode cX11_dress 50 = .ok (.ifCond .lt 66, 3) := dk_155 dg_cX11_dress_505.2.2.2.2.2.1
theorem dX11_dress_53 : decode cX11_dress 53 = .ok (.iload 5, 2) := dk_21 dg_cX11_dress_505.2.2.2.2.2.2.1
theorem dX11_dress_55 : decode cX11_dress 55 = .ok (.iload_n 2, 1) := dk_28 dg_cX11_dress_505.2.2.2.2.2.2.2
theorem dg_cX11_dress_506 : ck3s cX11_dress 56 161 60 = true ∧ ck2 cX11_dress 59 21 5 = true ∧ ck1 cX11_dress 61 28 = true ∧ ck3s cX11_dress 62 160 14 = true := by decide +kernel
theorem dX11_dress_56 : decode cX11_dress 56 = .ok (.if_icmp .lt 60, 3) := dk_161 dg_cX11_dress_506.1
theorem dX11_dress_59 : decode cX11_dress 59 = .ok (.iload 5, 2) := dk_21 dg_cX11_dress_506.2.1
theorem dX11_dress_61 : decode cX11_dress 61 = .ok (.iload_n 2, 1) := dk_28 dg_cX11_dress_506.2.2.1
theorem dX11_dress_62 : decode cX11_dress 62 = .ok (.if_icmp .ne 14, 3) := dk_160 dg_cX11_dress_506.2.2.2
def dS_cX11_dress_2 : List UInt8 := 1 :: 158 :: 27 :: 154 :: 0 :: 7 :: 28 :: 167 :: 0 :: 4 :: 29 :: 172 :: []
def dS_cX11_dress_1 : List UInt8 := 14 :: 42 :: 182 :: 1 :: 223 :: 29 :: 161 :: 0 :: 6 :: 167 :: 0 :: 43 :: 21 :: 5 :: 61 :: 42 :: 182 :: 1 :: 223 :: 62 :: 3 :: 54 :: 6 :: 21 :: 6 :: 42 :: 180 :: 1 :: 131 :: 162 :: 0 :: 23 :: 42 :: 180 :: 0 :: 102 :: 21 :: 6 :: 42 :: 180 :: 0 :: 105 :: 21 :: 6 :: 46 :: 79 :: 132 :: 6 :: 1 :: 167 :: 255 :: 230 :: 132 :: 4 :: 1 :: 167 :: 255 :: 159 :: 42 :: 42 :: 180 :: 1 :: 131 :: 181 :: dS_cX11_dress_2
def dS_cX11_dress_0 : List UInt8 := 27 :: 3 :: 4 :: 184 :: 1 :: 161 :: 154 :: 0 :: 5 :: 2 :: 172 :: 42 :: 182 :: 1 :: 214 :: 2 :: 61 :: 3 :: 62 :: 3 :: 54 :: 4 :: 21 :: 4 :: 42 :: 180 :: 1 :: 134 :: 4 :: 96 :: 42 :: 180 :: 1 :: 131 :: 184 :: 1 :: 217 :: 162 :: 0 :: 85 :: 42 :: 21 :: 4 :: 182 :: 1 :: 220 :: 54 :: 5 :: 21 :: 5 :: 155 :: 0 :: 66 :: 21 :: 5 :: 28 :: 161 :: 0 :: 60 :: 21 :: 5 :: 28 :: 160 :: 0 :: dS_cX11_dress_1
theorem dT_cX11_dress_0 : cX11_dress.data.toList.drop 0 = dS_cX11_dress_0 := by decide +kernel
theorem dT_cX11_dress_1 : cX11_dress.data.toList.drop 64 = dS_cX11_dress_1 := ck_nx dT_cX11_dress_0 (by decide +kernel) rfl
theorem dT_cX11_dress_2 : cX11_dress.data.toList.drop 128 = dS_cX11_dress_2 := ck_nx dT_cX11_dress_1 (by decide +kernel) rfl
theorem dg_cX11_dress_507 : ck1L dS_cX11_dress_1 1 42 = true ∧ ck3L dS_cX11_dress_1 2 182 479 = true ∧ ck1L dS_cX11_dress_1 5 29 = true ∧ ck3sL dS_cX11_dress_1 6 161 6 = true ∧ ck3sL dS_cX11_dress_1 9 167 43 = true ∧ ck2L dS_cX11_dress_1 12 21 5 = true ∧ ck1L dS_cX11_dress_1 14 61 = true ∧ ck1L dS_cX11_dress_1 15 42 = true := by decide +kernel
theorem dX11_dress_65 : decode cX11_dress 65 = .ok (.aload_n 0, 1) := dk_42 (ck1_s (r := 1) dT_cX11_dress_1 rfl dg_cX11_dress_507.1)
theorem dX11_dress_66 : decode cX11_dress 66 = .ok (.invokevirtual 479, 3) := dk_182 (ck3_s (r := 2) dT_cX11_dress_1 rfl dg_cX11_dress_507.2.1)
theorem dX11_dress_69 : decode cX11_dress 69 = .ok (.iload_n 3, 1) := dk_29 (ck1_s (r := 5) dT_cX11_dress_1 rfl dg_cX11_dress_507.2.2.1)
theorem dX11_dress_70 : decode cX11_dress 70 = .ok (.if_icmp .lt 6, 3) := dk_161 (ck3s_s (r := 6) dT_cX11_dress_1 rfl dg_cX11_dress_507.2.2.2.1)
theorem dX11_dress_73 : decode cX11_dress 73 = .ok (.goto 43, 3) := dk_167 (ck3s_s (r := 9) dT_cX11_dress_1 rfl dg_cX11_dress_507.2.2.2.2.1)
theorem dX11_dress_76 : decode cX11_dress 76 = .ok (.iload 5, 2) := dk_21 (ck2_s (r := 12) dT_cX11_dress_1 rfl dg_cX11_dress_507.2.2.2.2.2.1)
theorem dX11_dress_78 : decode cX11_dress 78 = .ok (.istore_n 2, 1) := dk_61 (ck1_s (r := 14) dT_cX11_dress_1 rfl dg_cX11_dress_507.2.2.2.2.2.2.1)
theorem dX11_dress_79 : decode cX11_dress 79 = .ok (.aload_n 0, 1) := dk_42 (ck1_s (r := 15) dT_cX11_dress_1 rfl dg_cX11_dress_507.2.2.2.2.2.2.2)
theorem dg_cX11_dress_508 : ck3L dS_cX11_dress_1 16 182 479 = true ∧ ck1L dS_cX11_dress_1 19 62 = true ∧ ck1L dS_cX11_dress_1 20 3 = true ∧ ck2L dS_cX11_dress_1 21 54 6 = true ∧ ck2L dS_cX11_dress_1 23 21 6 = true ∧ ck1L dS_cX11_dress_1 25 42 = true ∧ ck3L dS_cX11_dress_1 26 180 387 = true ∧ ck3sL dS_cX11_dress_1 29 162 23 = true := by decide +kernel
theorem dX11_dress_80 : decode cX11_dress 80 = .ok (.invokevirtual 479, 3) := dk_182 (ck3_s (r := 16) dT_cX11_dress_1 rfl dg_cX11_dress_508.1)
theorem dX11_dress_83 : decode cX11_dress 83 = .ok (.istore_n 3, 1) := dk_62 (ck1_s (r := 19) dT_cX11_dress_1 rfl dg_cX11_dress_508.2.1)
theorem dX11_dress_84 : decode cX11_dress 84 = .ok (.iconst 0, 1) := dk_3 (ck1_s (r := 20) dT_cX11_dress_1 rfl dg_cX11_dress_508.2.2.1)
theorem dX11_dress_85 : decode cX11_dress 85 = .ok (.istore 6, 2) := dk_54 (ck2_s (r := 21) dT_cX11_dress_1 rfl dg_cX11_dress_508.2.2.2.1)
theorem dX11_dress_87 : decode cX11_dress 87 = .ok (.iload 6, 2) := dk_21 (ck2_s (r := 23) dT_cX11_dress_1 rfl dg_cX11_dress_508.2.2.2.2.1)
theorem dX11_dress_89 : decode cX11_dress 89 = .ok (.aload_n 0, 1) := dk_42 (ck1_s (r := 25) dT_cX11_dress_1 rfl dg_cX11_dress_508.2.2.2.2.2.1)
theorem dX11_dress_90 : decode cX11_dress 90 = .ok (.getfield 387, 3) := dk_180 (ck3_s (r := 26) dT_cX11_dress_1 rfl dg_cX11_dress_508.2.2.2.2.2.2.1)
theorem dX11_dress_93 : decode cX11_dress 93 = .ok (.if_icmp .ge 23, 3) := dk_162 (ck3s_s (r := 29) dT_cX11_dress_1 rfl dg_cX11_dress_508.2.2.2.2.2.2.2)
theorem dg_cX11_dress_509 : ck1L dS_cX11_dress_1 32 42 = true ∧ ck3L dS_cX11_dress_1 33 180 102 = true ∧ ck2L dS_cX11_dress_1 36 21 6 = true ∧ ck1L dS_cX11_dress_1 38 42 = true ∧ ck3L dS_cX11_dress_1 39 180 105 = true ∧ ck2L dS_cX11_dress_1 42 21 6 = true ∧ ck1L dS_cX11_dress_1 44 46 = true ∧ ck1L dS_cX11_dress_1 45 79 = true := by decide +kernel
theorem dX11_dress_96 : decode cX11_dress 96 = .ok (.aload_n 0, 1) := dk_42 (ck1_s (r := 32) dT_cX11_dress_1 rfl dg_cX11_dress_509.1)
theorem dX11_dress_97 : decode cX11_dress 97 = .ok (.getfield 102, 3) := dk_180 (ck3_s (r := 33) dT_cX11_dress_1 rfl dg_cX11_dress_509.2.1)
theorem dX11_dress_100 : decode cX11_dress 100 = .ok (.iload 6, 2) := dk_21 (ck2_s (r := 36) dT_cX11_dress_1 rfl dg_cX11_dress_509.2.2.1)
theorem dX11_dress_102 : decode cX11_dress 102 = .ok (.aload_n 0, 1) := dk_42 (ck1_s (r := 38) dT_cX11_dress_1 rfl dg_cX11_dress_509.2.2.2.1)
theorem dX11_dress_103 : decode cX11_dress 103 = .ok (.getfield 105, 3) := dk_180 (ck3_s (r := 39) dT_cX11_dress_1 rfl dg_cX11_dress_509.2.2.2.2.1)
theorem dX11_dress_106 : decode cX11_dress 106 = .ok (.iload 6, 2) := dk_21 (ck2_s (r := 42) dT_cX11_dress_1 rfl dg_cX11_dress_509.2.2.2.2.2.1)
theorem dX11_dress_108 : decode cX11_dress 108 = .ok (.iaload, 1) := dk_46 (ck1_s (r := 44) dT_cX11_dress_1 rfl dg_cX11_dress_509.2.2.2.2.2.2.1)
theorem dX11_dress_109 : decode cX11_dress 109 = .ok (.iastore, 1) := dk_79 (ck1_s (r := 45) dT_cX11_dress_1 rfl dg_cX11_dress_509.2.2.2.2.2.2.2)
theorem dg_cX11_dress_510 : ck3iL dS_cX11_dress_1 46 132 6 1 = true ∧ ck3sL dS_cX11_dress_1 49 167 (-26) = true ∧ ck3iL dS_cX11_dress_1 52 132 4 1 = true ∧ ck3sL dS_cX11_dress_1 55 167 (-97) = true ∧ ck1L dS_cX11_dress_1 58 42 = true ∧ ck1L dS_cX11_dress_1 59 42 = true ∧ ck3L dS_cX11_dress_1 60 180 387 = true ∧ ck3L dS_cX11_dress_1 63 181 414 = true := by decide +kernel
theorem dX11_dress_110 : decode cX11_dress 110 = .ok (.iinc 6 1, 3) := dk_132 (ck3i_s (r := 46) dT_cX11_dress_1 rfl dg_cX11_dress_510.1)
theorem dX11_dress_113 : decode cX11_dress 113 = .ok (.goto (-26), 3) := dk_167 (ck3s_s (r := 49) dT_cX11_dress_1 rfl dg_cX11_dress_510.2.1)
theorem dX11_dress_116 : decode cX11_dress 116 = .ok (.iinc 4 1, 3) := dk_132 (ck3i_s (r := 52) dT_cX11_dress_1 rfl dg_cX11_dress_510.2.2.1)
theorem dX11_dress_119 : decode cX11_dress 119 = .ok (.goto (-97), 3) := dk_167 (ck3s_s (r := 55) dT_cX11_dress_1 rfl dg_cX11_dress_510.2.2.2.1)
theorem dX11_dress_122 : decode cX11_dress 122 = .ok (.aload_n 0, 1) := dk_42 (ck1_s (r := 58) dT_cX11_dress_1 rfl dg_cX11_dress_510.2.2.2.2.1)
theorem dX11_dress_123 : decode cX11_dress 123 = .ok (.aload_n 0, 1) := dk_42 (ck1_s (r := 59) dT_cX11_dress_1 rfl dg_cX11_dress_510.2.2.2.2.2.1)
theorem dX11_dress_124 : decode cX11_dress 124 = .ok (.getfield 387, 3) := dk_180 (ck3_s (r := 60) dT_cX11_dress_1 rfl dg_cX11_dress_510.2.2.2.2.2.2.1)
theorem dX11_dress_127 : decode cX11_dress 127 = .ok (.putfield 414, 3) := dk_181 (ck3_s (r := 63) dT_cX11_dress_1 rfl dg_cX11_dress_510.2.2.2.2.2.2.2)
theorem dg_cX11_dress_511 : ck1L dS_cX11_dress_2 2 27 = true ∧ ck3sL dS_cX11_dress_2 3 154 7 = true ∧ ck1L dS_cX11_dress_2 6 28 = true ∧ ck3sL dS_cX11_dress_2 7 167 4 = true ∧ ck1L dS_cX11_dress_2 10 29 = true ∧ ck1L dS_cX11_dress_2 11 172 = true := by decide +kernel
theorem dX11_dress_130 : decode cX11_dress 130 = .ok (.iload_n 1, 1) := dk_27 (ck1_s (r := 2) dT_cX11_dress_2 rfl dg_cX11_dress_511.1)
theorem dX11_dress_131 : decode cX11_dress 131 = .ok (.ifCond .ne 7, 3) := dk_154 (ck3s_s (r := 3) dT_cX11_dress_2 rfl dg_cX11_dress_511.2.1)
theorem dX11_dress_134 : decode cX11_dress 134 = .ok (.iload_n 2, 1) := dk_28 (ck1_s (r := 6) dT_cX11_dress_2 rfl dg_cX11_dress_511.2.2.1)
theorem dX11_dress_135 : decode cX11_dress 135 = .ok (.goto 4, 3) := dk_167 (ck3s_s (r := 7) dT_cX11_dress_2 rfl dg_cX11_dress_511.2.2.2.1)
theorem dX11_dress_138 : decode cX11_dress 138 = .ok (.iload_n 3, 1) := dk_29 (ck1_s (r := 10) dT_cX11_dress_2 rfl dg_cX11_dress_511.2.2.2.2.1)
theorem dX11_dress_139 : decode cX11_dress 139 = .ok (.ireturn, 1) := dk_172 (ck1_s (r := 11) dT_cX11_dress_2 rfl dg_cX11_dress_511.2.2.2.2.2)
theorem dg_cX11_ease_512 : ck1 cX11_ease 0 42 = true ∧ ck3 cX11_ease 1 182 449 = true ∧ ck1 cX11_ease 4 3 = true ∧ ck1 cX11_ease 5 60 = true ∧ ck1 cX11_ease 6 3 = true ∧ ck1 cX11_ease 7 61 = true ∧ ck1 cX11_ease 8 28 = true ∧ ck1 cX11_ease 9 42 = true := by decide +kernel
theorem dX11_ease_0 : decode cX11_ease 0 = .ok (.aload_n 0, 1) := dk_42 dg_cX11_ease_512.1
theorem dX11_ease_1 : decode cX11_ease 1 = .ok (.invokevirtual 449, 3) := dk_182 dg_cX11_ease_512.2.1
theorem dX11_ease_4 : decode cX11_ease 4 = .ok (.iconst 0, 1) := dk_3 dg_cX11_ease_512.2.2.1
theorem dX11_ease_5 : decode cX11_ease 5 = .ok (.istore_n 1, 1) := dk_60 dg_cX11_ease_512.2.2.2.1
theorem dX11_ease_6 : decode cX11_ease 6 = .ok (.iconst 0, 1) := dk_3 dg_cX11_ease_512.2.2.2.2.1
theorem dX11_ease_7 : decode cX11_ease 7 = .ok (.istore_n 2, 1) := dk_61 dg_cX11_ease_512.2.2.2.2.2.1
theorem dX11_ease_8 : decode cX11_ease 8 = .ok (.iload_n 2, 1) := dk_28 dg_cX11_ease_512.2.2.2.2.2.2.1
theorem dX11_ease_9 : decode cX11_ease 9 = .ok (.aload_n 0, 1) := dk_42 dg_cX11_ease_512.2.2.2.2.2.2.2
theorem dg_cX11_ease_513 : ck3 cX11_ease 10 180 387 = true ∧ ck3s cX11_ease 13 162 19 = true ∧ ck1 cX11_ease 16 27 = true ∧ ck1 cX11_ease 17 42 = true ∧ ck1 cX11_ease 18 28 = true ∧ ck3 cX11_ease 19 182 521 = true ∧ ck3 cX11_ease 22 184 437 = true ∧ ck1 cX11_ease 25 60 = true := by decide +kernel
theorem dX11_ease_10 : decode cX11_ease 10 = .ok (.getfield 387, 3) := dk_180 dg_cX11_ease_513.1
theorem dX11_ease_13 : decode cX11_ease 13 = .ok (.if_icmp .ge 19, 3) := dk_162 dg_cX11_ease_513.2.1
theorem dX11_ease_16 : decode cX11_ease 16 = .ok (.iload_n 1, 1) := dk_27 dg_cX11_ease_513.2.2.1
theorem dX11_ease_17 : decode cX11_ease 17 = .ok (.aload_n 0, 1) := dk_42 dg_cX11_ease_513.2.2.2.1
theorem dX11_ease_18 : decode cX11_ease 18 = .ok (.iload_n 2, 1) := dk_28 dg_cX11_ease_513.2.2.2.2.1
theorem dX11_ease_19 : decode cX11_ease 19 = .ok (.invokevirtual 521, 3) := dk_182 dg_cX11_ease_513.2.2.2.2.2.1
theorem dX11_ease_22 : decode cX11_ease 22 = .ok (.invokestatic 437, 3) := dk_184 dg_cX11_ease_513.2.2.2.2.2.2.1
theorem dX11_ease_25 : decode cX11_ease 25 = .ok (.istore_n 1, 1) := dk_60 dg_cX11_ease_513.2.2.2.2.2.2.2
theorem dg_cX11_ease_514 : ck3i cX11_ease 26 132 2 1 = true ∧ ck3s cX11_ease 29 167 (-21) = true ∧ ck1 cX11_ease 32 27 = true ∧ ck1 cX11_ease 33 172 = true := by decide +kernel
theorem dX11_ease_26 : decode cX11_ease 26 = .ok (.iinc 2 1, 3) := dk_132 dg_cX11_ease_514.1
theorem dX11_ease_29 : decode cX11_ease 29 = .ok (.goto (-21), 3) := dk_167 dg_cX11_ease_514.2.1
theorem dX11_ease_32 : decode cX11_ease 32 = .ok (.iload_n 1, 1) := dk_27 dg_cX11_ease_514.2.2.1
theorem dX11_ease_33 : decode cX11_ease 33 = .ok (.ireturn, 1) := dk_172 dg_cX11_ease_514.2.2.2
theorem dg_cX11_end_515 : ck1 cX11_end 0 27 = true ∧ ck3s cX11_end 1 155 11 = true ∧ ck1 cX11_end 4 27 = true ∧ ck1 cX11_end 5 42 = true ∧ ck3 cX11_end 6 180 139 = true ∧ ck3s cX11_end 9 164 5 = true ∧ ck1 cX11_end 12 2 = true ∧ ck1 cX11_end 13 172 = true := by decide +kernel
theorem dX11_end_0 : decode cX11_end 0 = .ok (.iload_n 1, 1) := dk_27 dg_cX11_end_515.1
theorem dX11_end_1 : decode cX11_end 1 = .ok (.ifCond .lt 11, 3) := dk_155 dg_cX11_end_515.2.1
theorem dX11_end_4 : decode cX11_end 4 = .ok (.iload_n 1, 1) := dk_27 dg_cX11_end_515.2.2.1
theorem dX11_end_5 : decode cX11_end 5 = .ok (.aload_n 0, 1) := dk_42 dg_cX11_end_515.2.2.2.1
theorem dX11_end_6 : decode cX11_end 6 = .ok (.getfield 139, 3) := dk_180 dg_cX11_end_515.2.2.2.2.1
theorem dX11_end_9 : decode cX11_end 9 = .ok (.if_icmp .le 5, 3) := dk_164 dg_cX11_end_515.2.2.2.2.2.1
theorem dX11_end_12 : decode cX11_end 12 = .ok (.iconst (-1), 1) := dk_2 dg_cX11_end_515.2.2.2.2.2.2.1
theorem dX11_end_13 : decode cX11_end 13 = .ok (.ireturn, 1) := dk_172 dg_cX11_end_515.2.2.2.2.2.2.2
theorem dg_cX11_end_516 : ck1 cX11_end 14 42 = true ∧ ck1 cX11_end 15 27 = true ∧ ck3 cX11_end 16 181 139 = true ∧ ck1 cX11_end 19 27 = true ∧ ck1 cX11_end 20 172 = true := by decide +kernel
theorem dX11_end_14 : decode cX11_end 14 = .ok (.aload_n 0, 1) := dk_42 dg_cX11_end_516.1
theorem dX11_end_15 : decode cX11_end 15 = .ok (.iload_n 1, 1) := dk_27 dg_cX11_end_516.2.1
theorem dX11_end_16 : decode cX11_end 16 = .ok (.putfield 139, 3) := dk_181 dg_cX11_end_516.2.2.1
theorem dX11_end_19 : decode cX11_end 19 = .ok (.iload_n 1, 1) := dk_27 dg_cX11_end_516.2.2.2.1
theorem dX11_end_20 : decode cX11_end 20 = .ok (.ireturn, 1) := dk_172 dg_cX11_end_516.2.2.2.2
theorem dg_cX11_exchange_517 : ck1 cX11_exchange 0 3 = true ∧ ck1 cX11_exchange 1 61 = true ∧ ck1 cX11_exchange 2 28 = true ∧ ck2s cX11_exchange 3 16 39 = true ∧ ck3s cX11_exchange 5 162 39 = true ∧ ck1 cX11_exchange 8 42 = true ∧ ck3 cX11_exchange 9 180 99 = true ∧ ck1 cX11_exchange 12 27 = true := by decide +kernel
theorem dX11_exchange_0 : decode cX11_exchange 0 = .ok (.iconst 0, 1) := dk_3 dg_cX11_exchange_517.1
theorem dX11_exchange_1 : decode cX11_exchange 1 = .ok (.istore_n 2, 1) := dk_61 dg_cX11_exchange_517.2.1
theorem dX11_exchange_2 : decode cX11_exchange 2 = .ok (.iload_n 2, 1) := dk_28 dg_cX11_exchange_517.2.2.1
theorem dX11_exchange_3 : decode cX11_exchange 3 = .ok (.bipush 39, 2) := dk_16 dg_cX11_exchange_517.2.2.2.1
theorem dX11_exchange_5 : decode cX11_exchange 5 = .ok (.if_icmp .ge 39, 3) := dk_162 dg_cX11_exchange_517.2.2.2.2.1
theorem dX11_exchange_8 : decode cX11_exchange 8 = .ok (.aload_n 0, 1) := dk_42 dg_cX11_exchange_517.2.2.2.2.2.1
theorem dX11_exchange_9 : decode cX11_exchange 9 = .ok (.getfield 99, 3) := dk_180 dg_cX11_exchange_517.2.2.2.2.2.2.1
theorem dX11_exchange_12 : decode cX11_exchange 12 = .ok (.iload_n 1, 1) := dk_27 dg_cX11_exchange_517.2.2.2.2.2.2.2
theorem dg_cX11_exchange_518 : ck1 cX11_exchange 13 28 = true ∧ ck1 cX11_exchange 14 96 = true ∧ ck1 cX11_exchange 15 46 = true ∧ ck1 cX11_exchange 16 62 = true ∧ ck1 cX11_exchange 17 42 = true ∧ ck3 cX11_exchange 18 180 99 = true ∧ ck1 cX11_exchange 21 27 = true ∧ ck1 cX11_exchange 22 28 = true := by decide +kernel
theorem dX11_exchange_13 : decode cX11_exchange 13 = .ok (.iload_n 2, 1) := dk_28 dg_cX11_exchange_518.1
theorem dX11_exchange_14 : decode cX11_exchange 14 = .ok (.iadd, 1) := dk_96 dg_cX11_exchange_518.2.1
theorem dX11_exchange_15 : decode cX11_exchange 15 = .ok (.iaload, 1) := dk_46 dg_cX11_exchange_518.2.2.1
theorem dX11_exchange_16 : decode cX11_exchange 16 = .ok (.istore_n 3, 1) := dk_62 dg_cX11_exchange_518.2.2.2.1
theorem dX11_exchange_17 : decode cX11_exchange 17 = .ok (.aload_n 0, 1) := dk_42 dg_cX11_exchange_518.2.2.2.2.1
theorem dX11_exchange_18 : decode cX11_exchange 18 = .ok (.getfield 99, 3) := dk_180 dg_cX11_exchange_518.2.2.2.2.2.1
theorem dX11_exchange_21 : decode cX11_exchange 21 = .ok (.iload_n 1, 1) := dk_27 dg_cX11_exchange_518.2.2.2.2.2.2.1
theorem dX11_exchange_22 : decode cX11_exchange 22 = .ok (.iload_n 2, 1) := dk_28 dg_cX11_exchange_518.2.2.2.2.2.2.2
theorem dg_cX11_exchange_519 : ck1 cX11_exchange 23 96 = true ∧ ck1 cX11_exchange 24 42 = true ∧ ck3 cX11_exchange 25 180 93 = true ∧ ck1 cX11_exchange 28 28 = true ∧ ck1 cX11_exchange 29 46 = true ∧ ck1 cX11_exchange 30 79 = true ∧ ck1 cX11_exchange 31 42 = true ∧ ck3 cX11_exchange 32 180 93 = true := by decide +kernel
theorem dX11_exchange_23 : decode cX11_exchange 23 = .ok (.iadd, 1) := dk_96 dg_cX11_exchange_519.1
theorem dX11_exchange_24 : decode cX11_exchange 24 = .ok (.aload_n 0, 1) := dk_42 dg_cX11_exchange_519.2.1
theorem dX11_exchange_25 : decode cX11_exchange 25 = .ok (.getfield 93, 3) := dk_180 dg_cX11_exchange_519.2.2.1
theorem dX11_exchange_28 : decode cX11_exchange 28 = .ok (.iload_n 2, 1) := dk_28 dg_cX11_exchange_519.2.2.2.1
theorem dX11_exchange_29 : decode cX11_exchange 29 = .ok (.iaload, 1) := dk_46 dg_cX11_exchange_519.2.2.2.2.1
theorem dX11_exchange_30 : decode cX11_exchange 30 = .ok (.iastore, 1) := dk_79 dg_cX11_exchange_519.2.2.2.2.2.1
theorem dX11_exchange_31 : decode cX11_exchange 31 = .ok (.aload_n 0, 1) := dk_42 dg_cX11_exchange_519.2.2.2.2.2.2.1
theorem dX11_exchange_32 : decode cX11_exchange 32 = .ok (.getfield 93, 3) := dk_180 dg_cX11_exchange_519.2.2.2.2.2.2.2
theorem dg_cX11_exchange_520 : ck1 cX11_exchange 35 28 = true ∧ ck1 cX11_exchange 36 29 = true ∧ ck1 cX11_exchange 37 79 = true ∧ ck3i cX11_exchange 38 132 2 1 = true ∧ ck3s cX11_exchange 41 167 (-39) = true ∧ ck1 cX11_exchange 44 177 = true := by decide +kernel
theorem dX11_exchange_35 : decode cX11_exchange 35 = .ok (.iload_n 2, 1) := dk_28 dg_cX11_exchange_520.1
theorem dX11_exchange_36 : decode cX11_exchange 36 = .ok (.iload_n 3, 1) := dk_29 dg_cX11_exchange_520.2.1
theorem dX11_exchange_37 : decode cX11_exchange 37 = .ok (.iastore, 1) := dk_79 dg_cX11_exchange_520.2.2.1
theorem dX11_exchange_38 : decode cX11_exchange 38 = .ok (.iinc 2 1, 3) := dk_132 dg_cX11_exchange_520.2.2.2.1
theorem dX11_exchange_41 : decode cX11_exchange 41 = .ok (.goto (-39), 3) := dk_167 dg_cX11_exchange_520.2.2.2.2.1
theorem dX11_exchange_44 : decode cX11_exchange 44 = .ok (.return_, 1) := dk_177 dg_cX11_exchange_520.2.2.2.2.2
theorem dg_cX11_fault_521 : ck1 cX11_fault 0 27 = true ∧ ck3s cX11_fault 1 154 10 = true ∧ ck1 cX11_fault 4 42 = true ∧ ck3 cX11_fault 5 180 179 = true ∧ ck3s cX11_fault 8 167 16 = true ∧ ck1 cX11_fault 11 27 = true ∧ ck1 cX11_fault 12 4 = true ∧ ck3s cX11_fault 13 160 10 = true := by decide +kernel
theorem dX11_fault_0 : decode cX11_fault 0 = .ok (.iload_n 1, 1) := dk_27 dg_cX11_fault_521.1
theorem dX11_fault_1 : decode cX11_fault 1 = .ok (.ifCond .ne 10, 3) := dk_154 dg_cX11_fault_521.2.1
theorem dX11_fault_4 : decode cX11_fault 4 = .ok (.aload_n 0, 1) := dk_42 dg_cX11_fault_521.2.2.1
theorem dX11_fault_5 : decode cX11_fault 5 = .ok (.getfield 179, 3) := dk_180 dg_cX11_fault_521.2.2.2.1
theorem dX11_fault_8 : decode cX11_fault 8 = .ok (.goto 16, 3) := dk_167 dg_cX11_fault_521.2.2.2.2.1
theorem dX11_fault_11 : decode cX11_fault 11 = .ok (.iload_n 1, 1) := dk_27 dg_cX11_fault_521.2.2.2.2.2.1
theorem dX11_fault_12 : decode cX11_fault 12 = .ok (.iconst 1, 1) := dk_4 dg_cX11_fault_521.2.2.2.2.2.2.1
theorem dX11_fault_13 : decode cX11_fault 13 = .ok (.if_icmp .ne 10, 3) := dk_160 dg_cX11_fault_521.2.2.2.2.2.2.2
theorem dg_cX11_fault_522 : ck1 cX11_fault 16 42 = true ∧ ck3 cX11_fault 17 180 13 = true ∧ ck3s cX11_fault 20 167 4 = true ∧ ck1 cX11_fault 23 2 = true ∧ ck1 cX11_fault 24 172 = true := by decide +kernel
theorem dX11_fault_16 : decode cX11_fault 16 = .ok (.aload_n 0, 1) := dk_42 dg_cX11_fault_522.1
theorem dX11_fault_17 : decode cX11_fault 17 = .ok (.getfield 13, 3) := dk_180 dg_cX11_fault_522.2.1
theorem dX11_fault_20 : decode cX11_fault 20 = .ok (.goto 4, 3) := dk_167 dg_cX11_fault_522.2.2.1
theorem dX11_fault_23 : decode cX11_fault 23 = .ok (.iconst (-1), 1) := dk_2 dg_cX11_fault_522.2.2.2.1
theorem dX11_fault_24 : decode cX11_fault 24 = .ok (.ireturn, 1) := dk_172 dg_cX11_fault_522.2.2.2.2
theorem dg_cX11_feed_523 : ck1 cX11_feed 0 42 = true ∧ ck3 cX11_feed 1 180 139 = true ∧ ck2s cX11_feed 4 16 20 = true ∧ ck1 cX11_feed 6 96 = true ∧ ck3s cX11_feed 7 17 1600 = true ∧ ck3s cX11_feed 10 164 5 = true ∧ ck1 cX11_feed 13 2 = true ∧ ck1 cX11_feed 14 172 = true := by decide +kernel
theorem dX11_feed_0 : decode cX11_feed 0 = .ok (.aload_n 0, 1) := dk_42 dg_cX11_feed_523.1
theorem dX11_feed_1 : decode cX11_feed 1 = .ok (.getfield 139, 3) := dk_180 dg_cX11_feed_523.2.1
theorem dX11_feed_4 : decode cX11_feed 4 = .ok (.bipush 20, 2) := dk_16 dg_cX11_feed_523.2.2.1
theorem dX11_feed_6 : decode cX11_feed 6 = .ok (.iadd, 1) := dk_96 dg_cX11_feed_523.2.2.2.1
theorem dX11_feed_7 : decode cX11_feed 7 = .ok (.sipush 1600, 3) := dk_17 dg_cX11_feed_523.2.2.2.2.1
theorem dX11_feed_10 : decode cX11_feed 10 = .ok (.if_icmp .le 5, 3) := dk_164 dg_cX11_feed_523.2.2.2.2.2.1
theorem dX11_feed_13 : decode cX11_feed 13 = .ok (.iconst (-1), 1) := dk_2 dg_cX11_feed_523.2.2.2.2.2.2.1
theorem dX11_feed_14 : decode cX11_feed 14 = .ok (.ireturn, 1) := dk_172 dg_cX11_feed_523.2.2.2.2.2.2.2
theorem dg_cX11_feed_524 : ck1 cX11_feed 15 42 = true ∧ ck1 cX11_feed 16 27 = true ∧ ck3 cX11_feed 17 182 142 = true ∧ ck1 cX11_feed 20 42 = true ∧ ck1 cX11_feed 21 28 = true ∧ ck3 cX11_feed 22 182 142 = true ∧ ck1 cX11_feed 25 42 = true ∧ ck1 cX11_feed 26 29 = true := by decide +kernel
theorem dX11_feed_15 : decode cX11_feed 15 = .ok (.aload_n 0, 1) := dk_42 dg_cX11_feed_524.1
theorem dX11_feed_16 : decode cX11_feed 16 = .ok (.iload_n 1, 1) := dk_27 dg_cX11_feed_524.2.1
theorem dX11_feed_17 : decode cX11_feed 17 = .ok (.invokevirtual 142, 3) := dk_182 dg_cX11_feed_524.2.2.1
theorem dX11_feed_20 : decode cX11_feed 20 = .ok (.aload_n 0, 1) := dk_42 dg_cX11_feed_524.2.2.2.1
theorem dX11_feed_21 : decode cX11_feed 21 = .ok (.iload_n 2, 1) := dk_28 dg_cX11_feed_524.2.2.2.2.1
theorem dX11_feed_22 : decode cX11_feed 22 = .ok (.invokevirtual 142, 3) := dk_182 dg_cX11_feed_524.2.2.2.2.2.1
theorem dX11_feed_25 : decode cX11_feed 25 = .ok (.aload_n 0, 1) := dk_42 dg_cX11_feed_524.2.2.2.2.2.2.1
theorem dX11_feed_26 : decode cX11_feed 26 = .ok (.iload_n 3, 1) := dk_29 dg_cX11_feed_524.2.2.2.2.2.2.2
theorem dg_cX11_feed_525 : ck3 cX11_feed 27 182 142 = true ∧ ck1 cX11_feed 30 42 = true ∧ ck2 cX11_feed 31 21 4 = true ∧ ck3 cX11_feed 33 182 142 = true ∧ ck1 cX11_feed 36 42 = true ∧ ck2 cX11_feed 37 21 5 = true ∧ ck3 cX11_feed 39 182 142 = true ∧ ck1 cX11_feed 42 42 = true := by decide +kernel
theorem dX11_feed_27 : decode cX11_feed 27 = .ok (.invokevirtual 142, 3) := dk_182 dg_cX11_feed_525.1
theorem dX11_feed_30 : decode cX11_feed 30 = .ok (.aload_n 0, 1) := dk_42 dg_cX11_feed_525.2.1
theorem dX11_feed_31 : decode cX11_feed 31 = .ok (.iload 4, 2) := dk_21 dg_cX11_feed_525.2.2.1
theorem dX11_feed_33 : decode cX11_feed 33 = .ok (.invokevirtual 142, 3) := dk_182 dg_cX11_feed_525.2.2.2.1
theorem dX11_feed_36 : decode cX11_feed 36 = .ok (.aload_n 0, 1) := dk_42 dg_cX11_feed_525.2.2.2.2.1
theorem dX11_feed_37 : decode cX11_feed 37 = .ok (.iload 5, 2) := dk_21 dg_cX11_feed_525.2.2.2.2.2.1
theorem dX11_feed_39 : decode cX11_feed 39 = .ok (.invokevirtual 142, 3) := dk_182 dg_cX11_feed_525.2.2.2.2.2.2.1
theorem dX11_feed_42 : decode cX11_feed 42 = .ok (.aload_n 0, 1) := dk_42 dg_cX11_feed_525.2.2.2.2.2.2.2
theorem dg_cX11_feed_526 : ck3 cX11_feed 43 180 139 = true ∧ ck1 cX11_feed 46 172 = true := by decide +kernel
theorem dX11_feed_43 : decode cX11_feed 43 = .ok (.getfield 139, 3) := dk_180 dg_cX11_feed_526.1
theorem dX11_feed_46 : decode cX11_feed 46 = .ok (.ireturn, 1) := dk_172 dg_cX11_feed_526.2
theorem dg_cX11_fill_527 : ck1 cX11_fill 0 3 = true ∧ ck1 cX11_fill 1 60 = true ∧ ck1 cX11_fill 2 27 = true ∧ ck2s cX11_fill 3 16 39 = true ∧ ck3s cX11_fill 5 162 21 = true ∧ ck1 cX11_fill 8 42 = true ∧ ck3 cX11_fill 9 180 96 = true ∧ ck1 cX11_fill 12 27 = true := by decide +kernel
theorem dX11_fill_0 : decode cX11_fill 0 = .ok (.iconst 0, 1) := dk_3 dg_cX11_fill_527.1
theorem dX11_fill_1 : decode cX11_fill 1 = .ok (.istore_n 1, 1) := dk_60 dg_cX11_fill_527.2.1
theorem dX11_fill_2 : decode cX11_fill 2 = .ok (.iload_n 1, 1) := dk_27 dg_cX11_fill_527.2.2.1
theorem dX11_fill_3 : decode cX11_fill 3 = .ok (.bipush 39, 2) := dk_16 dg_cX11_fill_527.2.2.2.1
theorem dX11_fill_5 : decode cX11_fill 5 = .ok (.if_icmp .ge 21, 3) := dk_162 dg_cX11_fill_527.2.2.2.2.1
theorem dX11_fill_8 : decode cX11_fill 8 = .ok (.aload_n 0, 1) := dk_42 dg_cX11_fill_527.2.2.2.2.2.1
theorem dX11_fill_9 : decode cX11_fill 9 = .ok (.getfield 96, 3) := dk_180 dg_cX11_fill_527.2.2.2.2.2.2.1
theorem dX11_fill_12 : decode cX11_fill 12 = .ok (.iload_n 1, 1) := dk_27 dg_cX11_fill_527.2.2.2.2.2.2.2
theorem dg_cX11_fill_528 : ck1 cX11_fill 13 42 = true ∧ ck3 cX11_fill 14 180 93 = true ∧ ck1 cX11_fill 17 27 = true ∧ ck1 cX11_fill 18 46 = true ∧ ck1 cX11_fill 19 79 = true ∧ ck3i cX11_fill 20 132 1 1 = true ∧ ck3s cX11_fill 23 167 (-21) = true ∧ ck1 cX11_fill 26 177 = true := by decide +kernel
theorem dX11_fill_13 : decode cX11_fill 13 = .ok (.aload_n 0, 1) := dk_42 dg_cX11_fill_528.1
theorem dX11_fill_14 : decode cX11_fill 14 = .ok (.getfield 93, 3) := dk_180 dg_cX11_fill_528.2.1
theorem dX11_fill_17 : decode cX11_fill 17 = .ok (.iload_n 1, 1) := dk_27 dg_cX11_fill_528.2.2.1
theorem dX11_fill_18 : decode cX11_fill 18 = .ok (.iaload, 1) := dk_46 dg_cX11_fill_528.2.2.2.1
theorem dX11_fill_19 : decode cX11_fill 19 = .ok (.iastore, 1) := dk_79 dg_cX11_fill_528.2.2.2.2.1
theorem dX11_fill_20 : decode cX11_fill 20 = .ok (.iinc 1 1, 3) := dk_132 dg_cX11_fill_528.2.2.2.2.2.1
theorem dX11_fill_23 : decode cX11_fill 23 = .ok (.goto (-21), 3) := dk_167 dg_cX11_fill_528.2.2.2.2.2.2.1
theorem dX11_fill_26 : decode cX11_fill 26 = .ok (.return_, 1) := dk_177 dg_cX11_fill_528.2.2.2.2.2.2.2
theorem dg_cX11_fits_529 : ck1 cX11_fits 0 28 = true ∧ ck3s cX11_fits 1 155 20 = true ∧ ck1 cX11_fits 4 42 = true ∧ ck1 cX11_fits 5 27 = true ∧ ck1 cX11_fits 6 28 = true ∧ ck3 cX11_fits 7 182 421 = true ∧ ck1 cX11_fits 10 42 = true ∧ ck3 cX11_fits 11 180 84 = true := by decide +kernel
theorem dX11_fits_0 : decode cX11_fits 0 = .ok (.iload_n 2, 1) := dk_28 dg_cX11_fits_529.1
theorem dX11_fits_1 : decode cX11_fits 1 = .ok (.ifCond .lt 20, 3) := dk_155 dg_cX11_fits_529.2.1
theorem dX11_fits_4 : decode cX11_fits 4 = .ok (.aload_n 0, 1) := dk_42 dg_cX11_fits_529.2.2.1
theorem dX11_fits_5 : decode cX11_fits 5 = .ok (.iload_n 1, 1) := dk_27 dg_cX11_fits_529.2.2.2.1
theorem dX11_fits_6 : decode cX11_fits 6 = .ok (.iload_n 2, 1) := dk_28 dg_cX11_fits_529.2.2.2.2.1
theorem dX11_fits_7 : decode cX11_fits 7 = .ok (.invokevirtual 421, 3) := dk_182 dg_cX11_fits_529.2.2.2.2.2.1
theorem dX11_fits_10 : decode cX11_fits 10 = .ok (.aload_n 0, 1) := dk_42 dg_cX11_fits_529.2.2.2.2.2.2.1
theorem dX11_fits_11 : decode cX11_fits 11 = .ok (.getfield 84, 3) := dk_180 dg_cX11_fits_529.2.2.2.2.2.2.2
theorem dg_cX11_fits_530 : ck3s cX11_fits 14 163 7 = true ∧ ck1 cX11_fits 17 4 = true ∧ ck3s cX11_fits 18 167 4 = true ∧ ck1 cX11_fits 21 3 = true ∧ ck1 cX11_fits 22 172 = true := by decide +kernel
theorem dX11_fits_14 : decode cX11_fits 14 = .ok (.if_icmp .gt 7, 3) := dk_163 dg_cX11_fits_530.1
theorem dX11_fits_17 : decode cX11_fits 17 = .ok (.iconst 1, 1) := dk_4 dg_cX11_fits_530.2.1
theorem dX11_fits_18 : decode cX11_fits 18 = .ok (.goto 4, 3) := dk_167 dg_cX11_fits_530.2.2.1
theorem dX11_fits_21 : decode cX11_fits 21 = .ok (.iconst 0, 1) := dk_3 dg_cX11_fits_530.2.2.2.1
theorem dX11_fits_22 : decode cX11_fits 22 = .ok (.ireturn, 1) := dk_172 dg_cX11_fits_530.2.2.2.2
theorem dg_cX11_fitsGrowth_531 : ck1 cX11_fitsGrowth 0 4 = true ∧ ck1 cX11_fitsGrowth 1 62 = true ∧ ck1 cX11_fitsGrowth 2 3 = true ∧ ck2 cX11_fitsGrowth 3 54 4 = true ∧ ck2 cX11_fitsGrowth 5 21 4 = true ∧ ck1 cX11_fitsGrowth 7 42 = true ∧ ck3 cX11_fitsGrowth 8 180 411 = true ∧ ck3s cX11_fitsGrowth 11 162 81 = true := by decide +kernel
theorem dX11_fitsGrowth_0 : decode cX11_fitsGrowth 0 = .ok (.iconst 1, 1) := dk_4 dg_cX11_fitsGrowth_531.1
theorem dX11_fitsGrowth_1 : decode cX11_fitsGrowth 1 = .ok (.istore_n 3, 1) := dk_62 dg_cX11_fitsGrowth_531.2.1
theorem dX11_fitsGrowth_2 : decode cX11_fitsGrowth 2 = .ok (.iconst 0, 1) := dk_3 dg_cX11_fitsGrowth_531.2.2.1
theorem dX11_fitsGrowth_3 : decode cX11_fitsGrowth 3 = .ok (.istore 4, 2) := dk_54 dg_cX11_fitsGrowth_531.2.2.2.1
theorem dX11_fitsGrowth_5 : decode cX11_fitsGrowth 5 = .ok (.iload 4, 2) := dk_21 dg_cX11_fitsGrowth_531.2.2.2.2.1
theorem dX11_fitsGrowth_7 : decode cX11_fitsGrowth 7 = .ok (.aload_n 0, 1) := dk_42 dg_cX11_fitsGrowth_531.2.2.2.2.2.1
theorem dX11_fitsGrowth_8 : decode cX11_fitsGrowth 8 = .ok (.getfield 411, 3) := dk_180 dg_cX11_fitsGrowth_531.2.2.2.2.2.2.1
theorem dX11_fitsGrowth_11 : decode cX11_fitsGrowth 11 = .ok (.if_icmp .ge 81, 3) := dk_162 dg_cX11_fitsGrowth_531.2.2.2.2.2.2.2
theorem dg_cX11_fitsGrowth_532 : ck1 cX11_fitsGrowth 14 29 = true ∧ ck3s cX11_fitsGrowth 15 153 77 = true ∧ ck1 cX11_fitsGrowth 18 42 = true ∧ ck3 cX11_fitsGrowth 19 180 117 = true ∧ ck2 cX11_fitsGrowth 22 21 4 = true ∧ ck1 cX11_fitsGrowth 24 46 = true ∧ ck1 cX11_fitsGrowth 25 28 = true ∧ ck3s cX11_fitsGrowth 26 163 60 = true := by decide +kernel
theorem dX11_fitsGrowth_14 : decode cX11_fitsGrowth 14 = .ok (.iload_n 3, 1) := dk_29 dg_cX11_fitsGrowth_532.1
theorem dX11_fitsGrowth_15 : decode cX11_fitsGrowth 15 = .ok (.ifCond .eq 77, 3) := dk_153 dg_cX11_fitsGrowth_532.2.1
theorem dX11_fitsGrowth_18 : decode cX11_fitsGrowth 18 = .ok (.aload_n 0, 1) := dk_42 dg_cX11_fitsGrowth_532.2.2.1
theorem dX11_fitsGrowth_19 : decode cX11_fitsGrowth 19 = .ok (.getfield 117, 3) := dk_180 dg_cX11_fitsGrowth_532.2.2.2.1
theorem dX11_fitsGrowth_22 : decode cX11_fitsGrowth 22 = .ok (.iload 4, 2) := dk_21 dg_cX11_fitsGrowth_532.2.2.2.2.1
theorem dX11_fitsGrowth_24 : decode cX11_fitsGrowth 24 = .ok (.iaload, 1) := dk_46 dg_cX11_fitsGrowth_532.2.2.2.2.2.1
theorem dX11_fitsGrowth_25 : decode cX11_fitsGrowth 25 = .ok (.iload_n 2, 1) := dk_28 dg_cX11_fitsGrowth_532.2.2.2.2.2.2.1
theorem dX11_fitsGrowth_26 : decode cX11_fitsGrowth 26 = .ok (.if_icmp .gt 60, 3) := dk_163 dg_cX11_fitsGrowth_532.2.2.2.2.2.2.2
theorem dg_cX11_fitsGrowth_533 : ck1 cX11_fitsGrowth 29 42 = true ∧ ck3 cX11_fitsGrowth 30 180 120 = true ∧ ck2 cX11_fitsGrowth 33 21 4 = true ∧ ck1 cX11_fitsGrowth 35 46 = true ∧ ck3s cX11_fitsGrowth 36 155 17 = true ∧ ck1 cX11_fitsGrowth 39 42 = true ∧ ck3 cX11_fitsGrowth 40 180 120 = true ∧ ck2 cX11_fitsGrowth 43 21 4 = true := by decide +kernel
theorem dX11_fitsGrowth_29 : decode cX11_fitsGrowth 29 = .ok (.aload_n 0, 1) := dk_42 dg_cX11_fitsGrowth_533.1
theorem dX11_fitsGrowth_30 : decode cX11_fitsGrowth 30 = .ok (.getfield 120, 3) := dk_180 dg_cX11_fitsGrowth_533.2.1
theorem dX11_fitsGrowth_33 : decode cX11_fitsGrowth 33 = .ok (.iload 4, 2) := dk_21 dg_cX11_fitsGrowth_533.2.2.1
theorem dX11_fitsGrowth_35 : decode cX11_fitsGrowth 35 = .ok (.iaload, 1) := dk_46 dg_cX11_fitsGrowth_533.2.2.2.1
theorem dX11_fitsGrowth_36 : decode cX11_fitsGrowth 36 = .ok (.ifCond .lt 17, 3) := dk_155 dg_cX11_fitsGrowth_533.2.2.2.2.1
theorem dX11_fitsGrowth_39 : decode cX11_fitsGrowth 39 = .ok (.aload_n 0, 1) := dk_42 dg_cX11_fitsGrowth_533.2.2.2.2.2.1
theorem dX11_fitsGrowth_40 : decode cX11_fitsGrowth 40 = .ok (.getfield 120, 3) := dk_180 dg_cX11_fitsGrowth_533.2.2.2.2.2.2.1
theorem dX11_fitsGrowth_43 : decode cX11_fitsGrowth 43 = .ok (.iload 4, 2) := dk_21 dg_cX11_fitsGrowth_533.2.2.2.2.2.2.2
theorem dg_cX11_fitsGrowth_534 : ck1 cX11_fitsGrowth 45 46 = true ∧ ck1 cX11_fitsGrowth 46 28 = true ∧ ck3s cX11_fitsGrowth 47 163 6 = true ∧ ck3s cX11_fitsGrowth 50 167 36 = true ∧ ck1 cX11_fitsGrowth 53 42 = true ∧ ck3 cX11_fitsGrowth 54 180 127 = true ∧ ck2s cX11_fitsGrowth 57 16 21 = true ∧ ck1 cX11_fitsGrowth 59 27 = true := by decide +kernel
theorem dX11_fitsGrowth_45 : decode cX11_fitsGrowth 45 = .ok (.iaload, 1) := dk_46 dg_cX11_fitsGrowth_534.1
theorem dX11_fitsGrowth_46 : decode cX11_fitsGrowth 46 = .ok (.iload_n 2, 1) := dk_28 dg_cX11_fitsGrowth_534.2.1
theorem dX11_fitsGrowth_47 : decode cX11_fitsGrowth 47 = .ok (.if_icmp .gt 6, 3) := dk_163 dg_cX11_fitsGrowth_534.2.2.1
theorem dX11_fitsGrowth_50 : decode cX11_fitsGrowth 50 = .ok (.goto 36, 3) := dk_167 dg_cX11_fitsGrowth_534.2.2.2.1
theorem dX11_fitsGrowth_53 : decode cX11_fitsGrowth 53 = .ok (.aload_n 0, 1) := dk_42 dg_cX11_fitsGrowth_534.2.2.2.2.1
theorem dX11_fitsGrowth_54 : decode cX11_fitsGrowth 54 = .ok (.getfield 127, 3) := dk_180 dg_cX11_fitsGrowth_534.2.2.2.2.2.1
theorem dX11_fitsGrowth_57 : decode cX11_fitsGrowth 57 = .ok (.bipush 21, 2) := dk_16 dg_cX11_fitsGrowth_534.2.2.2.2.2.2.1
theorem dX11_fitsGrowth_59 : decode cX11_fitsGrowth 59 = .ok (.iload_n 1, 1) := dk_27 dg_cX11_fitsGrowth_534.2.2.2.2.2.2.2
theorem dg_cX11_fitsGrowth_535 : ck1 cX11_fitsGrowth 60 104 = true ∧ ck1 cX11_fitsGrowth 61 42 = true ∧ ck3 cX11_fitsGrowth 62 180 114 = true := by decide +kernel
theorem dX11_fitsGrowth_60 : decode cX11_fitsGrowth 60 = .ok (.imul, 1) := dk_104 dg_cX11_fitsGrowth_535.1
theorem dX11_fitsGrowth_61 : decode cX11_fitsGrowth 61 = .ok (.aload_n 0, 1) := dk_42 dg_cX11_fitsGrowth_535.2.1
theorem dX11_fitsGrowth_62 : decode cX11_fitsGrowth 62 = .ok (.getfield 114, 3) := dk_180 dg_cX11_fitsGrowth_535.2.2
def dS_cX11_fitsGrowth_1 : List UInt8 := 114 :: 21 :: 4 :: 46 :: 96 :: 51 :: 42 :: 180 :: 0 :: 123 :: 21 :: 4 :: 51 :: 160 :: 0 :: 7 :: 4 :: 167 :: 0 :: 4 :: 3 :: 62 :: 132 :: 4 :: 1 :: 167 :: 255 :: 172 :: 29 :: 172 :: []
def dS_cX11_fitsGrowth_0 : List UInt8 := 4 :: 62 :: 3 :: 54 :: 4 :: 21 :: 4 :: 42 :: 180 :: 1 :: 155 :: 162 :: 0 :: 81 :: 29 :: 153 :: 0 :: 77 :: 42 :: 180 :: 0 :: 117 :: 21 :: 4 :: 46 :: 28 :: 163 :: 0 :: 60 :: 42 :: 180 :: 0 :: 120 :: 21 :: 4 :: 46 :: 155 :: 0 :: 17 :: 42 :: 180 :: 0 :: 120 :: 21 :: 4 :: 46 :: 28 :: 163 :: 0 :: 6 :: 167 :: 0 :: 36 :: 42 :: 180 :: 0 :: 127 :: 16 :: 21 :: 27 :: 104 :: 42 :: 180 :: 0 :: dS_cX11_fitsGrowth_1
theorem dT_cX11_fitsGrowth_0 : cX11_fitsGrowth.data.toList.drop 0 = dS_cX11_fitsGrowth_0 := by decide +kernel
theorem dT_cX11_fitsGrowth_1 : cX11_fitsGrowth.data.toList.drop 64 = dS_cX11_fitsGrowth_1 := ck_nx dT_cX11_fitsGrowth_0 (by decide +kernel) rfl
theorem dg_cX11_fitsGrowth_536 : ck2L dS_cX11_fitsGrowth_1 1 21 4 = true ∧ ck1L dS_cX11_fitsGrowth_1 3 46 = true ∧ ck1L dS_cX11_fitsGrowth_1 4 96 = true ∧ ck1L dS_cX11_fitsGrowth_1 5 51 = true ∧ ck1L dS_cX11_fitsGrowth_1 6 42 = true ∧ ck3L dS_cX11_fitsGrowth_1 7 180 123 = true ∧ ck2L dS_cX11_fitsGrowth_1 10 21 4 = true ∧ ck1L dS_cX11_fitsGrowth_1 12 51 = true := by decide +kernel
theorem dX11_fitsGrowth_65 : decode cX11_fitsGrowth 65 = .ok (.iload 4, 2) := dk_21 (ck2_s (r := 1) dT_cX11_fitsGrowth_1 rfl dg_cX11_fitsGrowth_536.1)
theorem dX11_fitsGrowth_67 : decode cX11_fitsGrowth 67 = .ok (.iaload, 1) := dk_46 (ck1_s (r := 3) dT_cX11_fitsGrowth_1 rfl dg_cX11_fitsGrowth_536.2.1)
theorem dX11_fitsGrowth_68 : decode cX11_fitsGrowth 68 = .ok (.iadd, 1) := dk_96 (ck1_s (r := 4) dT_cX11_fitsGrowth_1 rfl dg_cX11_fitsGrowth_536.2.2.1)
theorem dX11_fitsGrowth_69 : decode cX11_fitsGrowth 69 = .ok (.baload, 1) := dk_51 (ck1_s (r := 5) dT_cX11_fitsGrowth_1 rfl dg_cX11_fitsGrowth_536.2.2.2.1)
theorem dX11_fitsGrowth_70 : decode cX11_fitsGrowth 70 = .ok (.aload_n 0, 1) := dk_42 (ck1_s (r := 6) dT_cX11_fitsGrowth_1 rfl dg_cX11_fitsGrowth_536.2.2.2.2.1)
theorem dX11_fitsGrowth_71 : decode cX11_fitsGrowth 71 = .ok (.getfield 123, 3) := dk_180 (ck3_s (r := 7) dT_cX11_fitsGrowth_1 rfl dg_cX11_fitsGrowth_536.2.2.2.2.2.1)
theorem dX11_fitsGrowth_74 : decode cX11_fitsGrowth 74 = .ok (.iload 4, 2) := dk_21 (ck2_s (r := 10) dT_cX11_fitsGrowth_1 rfl dg_cX11_fitsGrowth_536.2.2.2.2.2.2.1)
theorem dX11_fitsGrowth_76 : decode cX11_fitsGrowth 76 = .ok (.baload, 1) := dk_51 (ck1_s (r := 12) dT_cX11_fitsGrowth_1 rfl dg_cX11_fitsGrowth_536.2.2.2.2.2.2.2)
theorem dg_cX11_fitsGrowth_537 : ck3sL dS_cX11_fitsGrowth_1 13 160 7 = true ∧ ck1L dS_cX11_fitsGrowth_1 16 4 = true ∧ ck3sL dS_cX11_fitsGrowth_1 17 167 4 = true ∧ ck1L dS_cX11_fitsGrowth_1 20 3 = true ∧ ck1L dS_cX11_fitsGrowth_1 21 62 = true ∧ ck3iL dS_cX11_fitsGrowth_1 22 132 4 1 = true ∧ ck3sL dS_cX11_fitsGrowth_1 25 167 (-84) = true ∧ ck1L dS_cX11_fitsGrowth_1 28 29 = true := by decide +kernel
theorem dX11_fitsGrowth_77 : decode cX11_fitsGrowth 77 = .ok (.if_icmp .ne 7, 3) := dk_160 (ck3s_s (r := 13) dT_cX11_fitsGrowth_1 rfl dg_cX11_fitsGrowth_537.1)
theorem dX11_fitsGrowth_80 : decode cX11_fitsGrowth 80 = .ok (.iconst 1, 1) := dk_4 (ck1_s (r := 16) dT_cX11_fitsGrowth_1 rfl dg_cX11_fitsGrowth_537.2.1)
theorem dX11_fitsGrowth_81 : decode cX11_fitsGrowth 81 = .ok (.goto 4, 3) := dk_167 (ck3s_s (r := 17) dT_cX11_fitsGrowth_1 rfl dg_cX11_fitsGrowth_537.2.2.1)
theorem dX11_fitsGrowth_84 : decode cX11_fitsGrowth 84 = .ok (.iconst 0, 1) := dk_3 (ck1_s (r := 20) dT_cX11_fitsGrowth_1 rfl dg_cX11_fitsGrowth_537.2.2.2.1)
theorem dX11_fitsGrowth_85 : decode cX11_fitsGrowth 85 = .ok (.istore_n 3, 1) := dk_62 (ck1_s (r := 21) dT_cX11_fitsGrowth_1 rfl dg_cX11_fitsGrowth_537.2.2.2.2.1)
theorem dX11_fitsGrowth_86 : decode cX11_fitsGrowth 86 = .ok (.iinc 4 1, 3) := dk_132 (ck3i_s (r := 22) dT_cX11_fitsGrowth_1 rfl dg_cX11_fitsGrowth_537.2.2.2.2.2.1)
theorem dX11_fitsGrowth_89 : decode cX11_fitsGrowth 89 = .ok (.goto (-84), 3) := dk_167 (ck3s_s (r := 25) dT_cX11_fitsGrowth_1 rfl dg_cX11_fitsGrowth_537.2.2.2.2.2.2.1)
theorem dX11_fitsGrowth_92 : decode cX11_fitsGrowth 92 = .ok (.iload_n 3, 1) := dk_29 (ck1_s (r := 28) dT_cX11_fitsGrowth_1 rfl dg_cX11_fitsGrowth_537.2.2.2.2.2.2.2)
theorem dg_cX11_fitsGrowth_538 : ck1L dS_cX11_fitsGrowth_1 29 172 = true := by decide +kernel
theorem dX11_fitsGrowth_93 : decode cX11_fitsGrowth 93 = .ok (.ireturn, 1) := dk_172 (ck1_s (r := 29) dT_cX11_fitsGrowth_1 rfl dg_cX11_fitsGrowth_538)
theorem dg_cX11_fitsOwn_539 : ck1 cX11_fitsOwn 0 42 = true ∧ ck1 cX11_fitsOwn 1 27 = true ∧ ck1 cX11_fitsOwn 2 42 = true ∧ ck3 cX11_fitsOwn 3 180 96 = true ∧ ck2s cX11_fitsOwn 6 16 6 = true ∧ ck1 cX11_fitsOwn 8 27 = true ∧ ck1 cX11_fitsOwn 9 96 = true ∧ ck1 cX11_fitsOwn 10 46 = true := by decide +kernel
theorem dX11_fitsOwn_0 : decode cX11_fitsOwn 0 = .ok (.aload_n 0, 1) := dk_42 dg_cX11_fitsOwn_539.1
theorem dX11_fitsOwn_1 : decode cX11_fitsOwn 1 = .ok (.iload_n 1, 1) := dk_27 dg_cX11_fitsOwn_539.2.1
theorem dX11_fitsOwn_2 : decode cX11_fitsOwn 2 = .ok (.aload_n 0, 1) := dk_42 dg_cX11_fitsOwn_539.2.2.1
theorem dX11_fitsOwn_3 : decode cX11_fitsOwn 3 = .ok (.getfield 96, 3) := dk_180 dg_cX11_fitsOwn_539.2.2.2.1
theorem dX11_fitsOwn_6 : decode cX11_fitsOwn 6 = .ok (.bipush 6, 2) := dk_16 dg_cX11_fitsOwn_539.2.2.2.2.1
theorem dX11_fitsOwn_8 : decode cX11_fitsOwn 8 = .ok (.iload_n 1, 1) := dk_27 dg_cX11_fitsOwn_539.2.2.2.2.2.1
theorem dX11_fitsOwn_9 : decode cX11_fitsOwn 9 = .ok (.iadd, 1) := dk_96 dg_cX11_fitsOwn_539.2.2.2.2.2.2.1
theorem dX11_fitsOwn_10 : decode cX11_fitsOwn 10 = .ok (.iaload, 1) := dk_46 dg_cX11_fitsOwn_539.2.2.2.2.2.2.2
theorem dg_cX11_fitsOwn_540 : ck3 cX11_fitsOwn 11 182 424 = true ∧ ck1 cX11_fitsOwn 14 172 = true := by decide +kernel
theorem dX11_fitsOwn_11 : decode cX11_fitsOwn 11 = .ok (.invokevirtual 424, 3) := dk_182 dg_cX11_fitsOwn_540.1
theorem dX11_fitsOwn_14 : decode cX11_fitsOwn 14 = .ok (.ireturn, 1) := dk_172 dg_cX11_fitsOwn_540.2
theorem dg_cX11_fitted_541 : ck1 cX11_fitted 0 42 = true ∧ ck3 cX11_fitted 1 182 449 = true ∧ ck1 cX11_fitted 4 42 = true ∧ ck3 cX11_fitted 5 182 443 = true ∧ ck1 cX11_fitted 8 172 = true := by decide +kernel
theorem dX11_fitted_0 : decode cX11_fitted 0 = .ok (.aload_n 0, 1) := dk_42 dg_cX11_fitted_541.1
theorem dX11_fitted_1 : decode cX11_fitted 1 = .ok (.invokevirtual 449, 3) := dk_182 dg_cX11_fitted_541.2.1
theorem dX11_fitted_4 : decode cX11_fitted 4 = .ok (.aload_n 0, 1) := dk_42 dg_cX11_fitted_541.2.2.1
theorem dX11_fitted_5 : decode cX11_fitted 5 = .ok (.invokevirtual 443, 3) := dk_182 dg_cX11_fitted_541.2.2.2.1
theorem dX11_fitted_8 : decode cX11_fitted 8 = .ok (.ireturn, 1) := dk_172 dg_cX11_fitted_541.2.2.2.2
theorem dg_cX11_fittedOnes_542 : ck1 cX11_fittedOnes 0 3 = true ∧ ck1 cX11_fittedOnes 1 60 = true ∧ ck1 cX11_fittedOnes 2 3 = true ∧ ck1 cX11_fittedOnes 3 61 = true ∧ ck1 cX11_fittedOnes 4 28 = true ∧ ck1 cX11_fittedOnes 5 42 = true ∧ ck3 cX11_fittedOnes 6 180 387 = true ∧ ck3s cX11_fittedOnes 9 162 22 = true := by decide +kernel
theorem dX11_fittedOnes_0 : decode cX11_fittedOnes 0 = .ok (.iconst 0, 1) := dk_3 dg_cX11_fittedOnes_542.1
theorem dX11_fittedOnes_1 : decode cX11_fittedOnes 1 = .ok (.istore_n 1, 1) := dk_60 dg_cX11_fittedOnes_542.2.1
theorem dX11_fittedOnes_2 : decode cX11_fittedOnes 2 = .ok (.iconst 0, 1) := dk_3 dg_cX11_fittedOnes_542.2.2.1
theorem dX11_fittedOnes_3 : decode cX11_fittedOnes 3 = .ok (.istore_n 2, 1) := dk_61 dg_cX11_fittedOnes_542.2.2.2.1
theorem dX11_fittedOnes_4 : decode cX11_fittedOnes 4 = .ok (.iload_n 2, 1) := dk_28 dg_cX11_fittedOnes_542.2.2.2.2.1
theorem dX11_fittedOnes_5 : decode cX11_fittedOnes 5 = .ok (.aload_n 0, 1) := dk_42 dg_cX11_fittedOnes_542.2.2.2.2.2.1
theorem dX11_fittedOnes_6 : decode cX11_fittedOnes 6 = .ok (.getfield 387, 3) := dk_180 dg_cX11_fittedOnes_542.2.2.2.2.2.2.1
theorem dX11_fittedOnes_9 : decode cX11_fittedOnes 9 = .ok (.if_icmp .ge 22, 3) := dk_162 dg_cX11_fittedOnes_542.2.2.2.2.2.2.2
theorem dg_cX11_fittedOnes_543 : ck1 cX11_fittedOnes 12 27 = true ∧ ck1 cX11_fittedOnes 13 42 = true ∧ ck1 cX11_fittedOnes 14 28 = true ∧ ck3 cX11_fittedOnes 15 182 428 = true ∧ ck3 cX11_fittedOnes 18 184 310 = true ∧ ck1 cX11_fittedOnes 21 28 = true ∧ ck1 cX11_fittedOnes 22 120 = true ∧ ck1 cX11_fittedOnes 23 128 = true := by decide +kernel
theorem dX11_fittedOnes_12 : decode cX11_fittedOnes 12 = .ok (.iload_n 1, 1) := dk_27 dg_cX11_fittedOnes_543.1
theorem dX11_fittedOnes_13 : decode cX11_fittedOnes 13 = .ok (.aload_n 0, 1) := dk_42 dg_cX11_fittedOnes_543.2.1
theorem dX11_fittedOnes_14 : decode cX11_fittedOnes 14 = .ok (.iload_n 2, 1) := dk_28 dg_cX11_fittedOnes_543.2.2.1
theorem dX11_fittedOnes_15 : decode cX11_fittedOnes 15 = .ok (.invokevirtual 428, 3) := dk_182 dg_cX11_fittedOnes_543.2.2.2.1
theorem dX11_fittedOnes_18 : decode cX11_fittedOnes 18 = .ok (.invokestatic 310, 3) := dk_184 dg_cX11_fittedOnes_543.2.2.2.2.1
theorem dX11_fittedOnes_21 : decode cX11_fittedOnes 21 = .ok (.iload_n 2, 1) := dk_28 dg_cX11_fittedOnes_543.2.2.2.2.2.1
theorem dX11_fittedOnes_22 : decode cX11_fittedOnes 22 = .ok (.ishl, 1) := dk_120 dg_cX11_fittedOnes_543.2.2.2.2.2.2.1
theorem dX11_fittedOnes_23 : decode cX11_fittedOnes 23 = .ok (.ior, 1) := dk_128 dg_cX11_fittedOnes_543.2.2.2.2.2.2.2
theorem dg_cX11_fittedOnes_544 : ck1 cX11_fittedOnes 24 60 = true ∧ ck3i cX11_fittedOnes 25 132 2 1 = true ∧ ck3s cX11_fittedOnes 28 167 (-24) = true ∧ ck1 cX11_fittedOnes 31 27 = true ∧ ck1 cX11_fittedOnes 32 172 = true := by decide +kernel
theorem dX11_fittedOnes_24 : decode cX11_fittedOnes 24 = .ok (.istore_n 1, 1) := dk_60 dg_cX11_fittedOnes_544.1
theorem dX11_fittedOnes_25 : decode cX11_fittedOnes 25 = .ok (.iinc 2 1, 3) := dk_132 dg_cX11_fittedOnes_544.2.1
theorem dX11_fittedOnes_28 : decode cX11_fittedOnes 28 = .ok (.goto (-24), 3) := dk_167 dg_cX11_fittedOnes_544.2.2.1
theorem dX11_fittedOnes_31 : decode cX11_fittedOnes 31 = .ok (.iload_n 1, 1) := dk_27 dg_cX11_fittedOnes_544.2.2.2.1
theorem dX11_fittedOnes_32 : decode cX11_fittedOnes 32 = .ok (.ireturn, 1) := dk_172 dg_cX11_fittedOnes_544.2.2.2.2
theorem dg_cX11_formula_545 : ck1 cX11_formula 0 42 = true ∧ ck3 cX11_formula 1 182 235 = true ∧ ck1 cX11_formula 4 42 = true ∧ ck1 cX11_formula 5 4 = true ∧ ck3 cX11_formula 6 181 291 = true ∧ ck1 cX11_formula 9 42 = true ∧ ck1 cX11_formula 10 3 = true ∧ ck3 cX11_formula 11 181 253 = true := by decide +kernel
theorem dX11_formula_0 : decode cX11_formula 0 = .ok (.aload_n 0, 1) := dk_42 dg_cX11_formula_545.1
theorem dX11_formula_1 : decode cX11_formula 1 = .ok (.invokevirtual 235, 3) := dk_182 dg_cX11_formula_545.2.1
theorem dX11_formula_4 : decode cX11_formula 4 = .ok (.aload_n 0, 1) := dk_42 dg_cX11_formula_545.2.2.1
theorem dX11_formula_5 : decode cX11_formula 5 = .ok (.iconst 1, 1) := dk_4 dg_cX11_formula_545.2.2.2.1
theorem dX11_formula_6 : decode cX11_formula 6 = .ok (.putfield 291, 3) := dk_181 dg_cX11_formula_545.2.2.2.2.1
theorem dX11_formula_9 : decode cX11_formula 9 = .ok (.aload_n 0, 1) := dk_42 dg_cX11_formula_545.2.2.2.2.2.1
theorem dX11_formula_10 : decode cX11_formula 10 = .ok (.iconst 0, 1) := dk_3 dg_cX11_formula_545.2.2.2.2.2.2.1
theorem dX11_formula_11 : decode cX11_formula 11 = .ok (.putfield 253, 3) := dk_181 dg_cX11_formula_545.2.2.2.2.2.2.2
theorem dg_cX11_formula_546 : ck1 cX11_formula 14 42 = true ∧ ck1 cX11_formula 15 3 = true ∧ ck3 cX11_formula 16 181 256 = true ∧ ck1 cX11_formula 19 42 = true ∧ ck1 cX11_formula 20 3 = true ∧ ck3 cX11_formula 21 181 266 = true ∧ ck1 cX11_formula 24 42 = true ∧ ck1 cX11_formula 25 3 = true := by decide +kernel
theorem dX11_formula_14 : decode cX11_formula 14 = .ok (.aload_n 0, 1) := dk_42 dg_cX11_formula_546.1
theorem dX11_formula_15 : decode cX11_formula 15 = .ok (.iconst 0, 1) := dk_3 dg_cX11_formula_546.2.1
theorem dX11_formula_16 : decode cX11_formula 16 = .ok (.putfield 256, 3) := dk_181 dg_cX11_formula_546.2.2.1
theorem dX11_formula_19 : decode cX11_formula 19 = .ok (.aload_n 0, 1) := dk_42 dg_cX11_formula_546.2.2.2.1
theorem dX11_formula_20 : decode cX11_formula 20 = .ok (.iconst 0, 1) := dk_3 dg_cX11_formula_546.2.2.2.2.1
theorem dX11_formula_21 : decode cX11_formula 21 = .ok (.putfield 266, 3) := dk_181 dg_cX11_formula_546.2.2.2.2.2.1
theorem dX11_formula_24 : decode cX11_formula 24 = .ok (.aload_n 0, 1) := dk_42 dg_cX11_formula_546.2.2.2.2.2.2.1
theorem dX11_formula_25 : decode cX11_formula 25 = .ok (.iconst 0, 1) := dk_3 dg_cX11_formula_546.2.2.2.2.2.2.2
theorem dg_cX11_formula_547 : ck3 cX11_formula 26 181 272 = true ∧ ck1 cX11_formula 29 42 = true ∧ ck3 cX11_formula 30 182 295 = true ∧ ck1 cX11_formula 33 4 = true ∧ ck1 cX11_formula 34 60 = true ∧ ck1 cX11_formula 35 27 = true ∧ ck3s cX11_formula 36 153 126 = true ∧ ck1 cX11_formula 39 42 = true := by decide +kernel
theorem dX11_formula_26 : decode cX11_formula 26 = .ok (.putfield 272, 3) := dk_181 dg_cX11_formula_547.1
theorem dX11_formula_29 : decode cX11_formula 29 = .ok (.aload_n 0, 1) := dk_42 dg_cX11_formula_547.2.1
theorem dX11_formula_30 : decode cX11_formula 30 = .ok (.invokevirtual 295, 3) := dk_182 dg_cX11_formula_547.2.2.1
theorem dX11_formula_33 : decode cX11_formula 33 = .ok (.iconst 1, 1) := dk_4 dg_cX11_formula_547.2.2.2.1
theorem dX11_formula_34 : decode cX11_formula 34 = .ok (.istore_n 1, 1) := dk_60 dg_cX11_formula_547.2.2.2.2.1
theorem dX11_formula_35 : decode cX11_formula 35 = .ok (.iload_n 1, 1) := dk_27 dg_cX11_formula_547.2.2.2.2.2.1
theorem dX11_formula_36 : decode cX11_formula 36 = .ok (.ifCond .eq 126, 3) := dk_153 dg_cX11_formula_547.2.2.2.2.2.2.1
theorem dX11_formula_39 : decode cX11_formula 39 = .ok (.aload_n 0, 1) := dk_42 dg_cX11_formula_547.2.2.2.2.2.2.2
theorem dg_cX11_formula_548 : ck3 cX11_formula 40 180 179 = true ∧ ck3s cX11_formula 43 154 119 = true ∧ ck1 cX11_formula 46 42 = true ∧ ck3 cX11_formula 47 182 298 = true ∧ ck1 cX11_formula 50 61 = true ∧ ck1 cX11_formula 51 42 = true ∧ ck3 cX11_formula 52 180 166 = true ∧ ck2s cX11_formula 55 16 41 = true := by decide +kernel
theorem dX11_formula_40 : decode cX11_formula 40 = .ok (.getfield 179, 3) := dk_180 dg_cX11_formula_548.1
theorem dX11_formula_43 : decode cX11_formula 43 = .ok (.ifCond .ne 119, 3) := dk_154 dg_cX11_formula_548.2.1
theorem dX11_formula_46 : decode cX11_formula 46 = .ok (.aload_n 0, 1) := dk_42 dg_cX11_formula_548.2.2.1
theorem dX11_formula_47 : decode cX11_formula 47 = .ok (.invokevirtual 298, 3) := dk_182 dg_cX11_formula_548.2.2.2.1
theorem dX11_formula_50 : decode cX11_formula 50 = .ok (.istore_n 2, 1) := dk_61 dg_cX11_formula_548.2.2.2.2.1
theorem dX11_formula_51 : decode cX11_formula 51 = .ok (.aload_n 0, 1) := dk_42 dg_cX11_formula_548.2.2.2.2.2.1
theorem dX11_formula_52 : decode cX11_formula 52 = .ok (.getfield 166, 3) := dk_180 dg_cX11_formula_548.2.2.2.2.2.2.1
theorem dX11_formula_55 : decode cX11_formula 55 = .ok (.bipush 41, 2) := dk_16 dg_cX11_formula_548.2.2.2.2.2.2.2
theorem dg_cX11_formula_549 : ck3s cX11_formula 57 160 42 = true ∧ ck1 cX11_formula 60 42 = true ∧ ck3 cX11_formula 61 182 301 = true := by decide +kernel
theorem dX11_formula_57 : decode cX11_formula 57 = .ok (.if_icmp .ne 42, 3) := dk_160 dg_cX11_formula_549.1
theorem dX11_formula_60 : decode cX11_formula 60 = .ok (.aload_n 0, 1) := dk_42 dg_cX11_formula_549.2.1
theorem dX11_formula_61 : decode cX11_formula 61 = .ok (.invokevirtual 301, 3) := dk_182 dg_cX11_formula_549.2.2
def dS_cX11_formula_3 : List UInt8 := 48 :: 177 :: []
def dS_cX11_formula_2 : List UInt8 := 0 :: 33 :: 42 :: 180 :: 1 :: 0 :: 28 :: 79 :: 42 :: 89 :: 180 :: 1 :: 0 :: 4 :: 96 :: 181 :: 1 :: 0 :: 42 :: 182 :: 0 :: 235 :: 42 :: 182 :: 1 :: 39 :: 167 :: 0 :: 5 :: 3 :: 60 :: 167 :: 255 :: 132 :: 42 :: 180 :: 0 :: 179 :: 154 :: 0 :: 15 :: 42 :: 182 :: 1 :: 45 :: 153 :: 0 :: 8 :: 42 :: 5 :: 182 :: 0 :: 232 :: 42 :: 180 :: 0 :: 179 :: 154 :: 0 :: 8 :: 42 :: 3 :: 182 :: 1 :: dS_cX11_formula_3
def dS_cX11_formula_1 : List UInt8 := 153 :: 0 :: 35 :: 42 :: 3 :: 182 :: 1 :: 48 :: 42 :: 89 :: 180 :: 1 :: 0 :: 4 :: 100 :: 181 :: 1 :: 0 :: 42 :: 89 :: 180 :: 1 :: 10 :: 4 :: 100 :: 181 :: 1 :: 10 :: 42 :: 182 :: 0 :: 235 :: 167 :: 0 :: 63 :: 28 :: 153 :: 0 :: 57 :: 28 :: 184 :: 1 :: 3 :: 7 :: 160 :: 0 :: 10 :: 42 :: 182 :: 1 :: 51 :: 154 :: 0 :: 42 :: 42 :: 28 :: 184 :: 1 :: 3 :: 182 :: 1 :: 48 :: 42 :: 180 :: dS_cX11_formula_2
def dS_cX11_formula_0 : List UInt8 := 42 :: 182 :: 0 :: 235 :: 42 :: 4 :: 181 :: 1 :: 35 :: 42 :: 3 :: 181 :: 0 :: 253 :: 42 :: 3 :: 181 :: 1 :: 0 :: 42 :: 3 :: 181 :: 1 :: 10 :: 42 :: 3 :: 181 :: 1 :: 16 :: 42 :: 182 :: 1 :: 39 :: 4 :: 60 :: 27 :: 153 :: 0 :: 126 :: 42 :: 180 :: 0 :: 179 :: 154 :: 0 :: 119 :: 42 :: 182 :: 1 :: 42 :: 61 :: 42 :: 180 :: 0 :: 166 :: 16 :: 41 :: 160 :: 0 :: 42 :: 42 :: 182 :: 1 :: 45 :: dS_cX11_formula_1
theorem dT_cX11_formula_0 : cX11_formula.data.toList.drop 0 = dS_cX11_formula_0 := by decide +kernel
theorem dT_cX11_formula_1 : cX11_formula.data.toList.drop 64 = dS_cX11_formula_1 := ck_nx dT_cX11_formula_0 (by decide +kernel) rfl
theorem dT_cX11_formula_2 : cX11_formula.data.toList.drop 128 = dS_cX11_formula_2 := ck_nx dT_cX11_formula_1 (by decide +kernel) rfl
theorem dT_cX11_formula_3 : cX11_formula.data.toList.drop 192 = dS_cX11_formula_3 := ck_nx dT_cX11_formula_2 (by decide +kernel) rfl
theorem dg_cX11_formula_550 : ck3sL dS_cX11_formula_1 0 153 35 = true ∧ ck1L dS_cX11_formula_1 3 42 = true ∧ ck1L dS_cX11_formula_1 4 3 = true ∧ ck3L dS_cX11_formula_1 5 182 304 = true ∧ ck1L dS_cX11_formula_1 8 42 = true ∧ ck1L dS_cX11_formula_1 9 89 = true ∧ ck3L dS_cX11_formula_1 10 180 256 = true ∧ ck1L dS_cX11_formula_1 13 4 = true := by decide +kernel
theorem dX11_formula_64 : decode cX11_formula 64 = .ok (.ifCond .eq 35, 3) := dk_153 (ck3s_s (r := 0) dT_cX11_formula_1 rfl dg_cX11_formula_550.1)
theorem dX11_formula_67 : decode cX11_formula 67 = .ok (.aload_n 0, 1) := dk_42 (ck1_s (r := 3) dT_cX11_formula_1 rfl dg_cX11_formula_550.2.1)
theorem dX11_formula_68 : decode cX11_formula 68 = .ok (.iconst 0, 1) := dk_3 (ck1_s (r := 4) dT_cX11_formula_1 rfl dg_cX11_formula_550.2.2.1)
theorem dX11_formula_69 : decode cX11_formula 69 = .ok (.invokevirtual 304, 3) := dk_182 (ck3_s (r := 5) dT_cX11_formula_1 rfl dg_cX11_formula_550.2.2.2.1)
theorem dX11_formula_72 : decode cX11_formula 72 = .ok (.aload_n 0, 1) := dk_42 (ck1_s (r := 8) dT_cX11_formula_1 rfl dg_cX11_formula_550.2.2.2.2.1)
theorem dX11_formula_73 : decode cX11_formula 73 = .ok (.dup, 1) := dk_89 (ck1_s (r := 9) dT_cX11_formula_1 rfl dg_cX11_formula_550.2.2.2.2.2.1)
theorem dX11_formula_74 : decode cX11_formula 74 = .ok (.getfield 256, 3) := dk_180 (ck3_s (r := 10) dT_cX11_formula_1 rfl dg_cX11_formula_550.2.2.2.2.2.2.1)
theorem dX11_formula_77 : decode cX11_formula 77 = .ok (.iconst 1, 1) := dk_4 (ck1_s (r := 13) dT_cX11_formula_1 rfl dg_cX11_formula_550.2.2.2.2.2.2.2)
theorem dg_cX11_formula_551 : ck1L dS_cX11_formula_1 14 100 = true ∧ ck3L dS_cX11_formula_1 15 181 256 = true ∧ ck1L dS_cX11_formula_1 18 42 = true ∧ ck1L dS_cX11_formula_1 19 89 = true ∧ ck3L dS_cX11_formula_1 20 180 266 = true ∧ ck1L dS_cX11_formula_1 23 4 = true ∧ ck1L dS_cX11_formula_1 24 100 = true ∧ ck3L dS_cX11_formula_1 25 181 266 = true := by decide +kernel
theorem dX11_formula_78 : decode cX11_formula 78 = .ok (.isub, 1) := dk_100 (ck1_s (r := 14) dT_cX11_formula_1 rfl dg_cX11_formula_551.1)
theorem dX11_formula_79 : decode cX11_formula 79 = .ok (.putfield 256, 3) := dk_181 (ck3_s (r := 15) dT_cX11_formula_1 rfl dg_cX11_formula_551.2.1)
theorem dX11_formula_82 : decode cX11_formula 82 = .ok (.aload_n 0, 1) := dk_42 (ck1_s (r := 18) dT_cX11_formula_1 rfl dg_cX11_formula_551.2.2.1)
theorem dX11_formula_83 : decode cX11_formula 83 = .ok (.dup, 1) := dk_89 (ck1_s (r := 19) dT_cX11_formula_1 rfl dg_cX11_formula_551.2.2.2.1)
theorem dX11_formula_84 : decode cX11_formula 84 = .ok (.getfield 266, 3) := dk_180 (ck3_s (r := 20) dT_cX11_formula_1 rfl dg_cX11_formula_551.2.2.2.2.1)
theorem dX11_formula_87 : decode cX11_formula 87 = .ok (.iconst 1, 1) := dk_4 (ck1_s (r := 23) dT_cX11_formula_1 rfl dg_cX11_formula_551.2.2.2.2.2.1)
theorem dX11_formula_88 : decode cX11_formula 88 = .ok (.isub, 1) := dk_100 (ck1_s (r := 24) dT_cX11_formula_1 rfl dg_cX11_formula_551.2.2.2.2.2.2.1)
theorem dX11_formula_89 : decode cX11_formula 89 = .ok (.putfield 266, 3) := dk_181 (ck3_s (r := 25) dT_cX11_formula_1 rfl dg_cX11_formula_551.2.2.2.2.2.2.2)
theorem dg_cX11_formula_552 : ck1L dS_cX11_formula_1 28 42 = true ∧ ck3L dS_cX11_formula_1 29 182 235 = true ∧ ck3sL dS_cX11_formula_1 32 167 63 = true ∧ ck1L dS_cX11_formula_1 35 28 = true ∧ ck3sL dS_cX11_formula_1 36 153 57 = true ∧ ck1L dS_cX11_formula_1 39 28 = true ∧ ck3L dS_cX11_formula_1 40 184 259 = true ∧ ck1L dS_cX11_formula_1 43 7 = true := by decide +kernel
theorem dX11_formula_92 : decode cX11_formula 92 = .ok (.aload_n 0, 1) := dk_42 (ck1_s (r := 28) dT_cX11_formula_1 rfl dg_cX11_formula_552.1)
theorem dX11_formula_93 : decode cX11_formula 93 = .ok (.invokevirtual 235, 3) := dk_182 (ck3_s (r := 29) dT_cX11_formula_1 rfl dg_cX11_formula_552.2.1)
theorem dX11_formula_96 : decode cX11_formula 96 = .ok (.goto 63, 3) := dk_167 (ck3s_s (r := 32) dT_cX11_formula_1 rfl dg_cX11_formula_552.2.2.1)
theorem dX11_formula_99 : decode cX11_formula 99 = .ok (.iload_n 2, 1) := dk_28 (ck1_s (r := 35) dT_cX11_formula_1 rfl dg_cX11_formula_552.2.2.2.1)
theorem dX11_formula_100 : decode cX11_formula 100 = .ok (.ifCond .eq 57, 3) := dk_153 (ck3s_s (r := 36) dT_cX11_formula_1 rfl dg_cX11_formula_552.2.2.2.2.1)
theorem dX11_formula_103 : decode cX11_formula 103 = .ok (.iload_n 2, 1) := dk_28 (ck1_s (r := 39) dT_cX11_formula_1 rfl dg_cX11_formula_552.2.2.2.2.2.1)
theorem dX11_formula_104 : decode cX11_formula 104 = .ok (.invokestatic 259, 3) := dk_184 (ck3_s (r := 40) dT_cX11_formula_1 rfl dg_cX11_formula_552.2.2.2.2.2.2.1)
theorem dX11_formula_107 : decode cX11_formula 107 = .ok (.iconst 4, 1) := dk_7 (ck1_s (r := 43) dT_cX11_formula_1 rfl dg_cX11_formula_552.2.2.2.2.2.2.2)
theorem dg_cX11_formula_553 : ck3sL dS_cX11_formula_1 44 160 10 = true ∧ ck1L dS_cX11_formula_1 47 42 = true ∧ ck3L dS_cX11_formula_1 48 182 307 = true ∧ ck3sL dS_cX11_formula_1 51 154 42 = true ∧ ck1L dS_cX11_formula_1 54 42 = true ∧ ck1L dS_cX11_formula_1 55 28 = true ∧ ck3L dS_cX11_formula_1 56 184 259 = true ∧ ck3L dS_cX11_formula_1 59 182 304 = true := by decide +kernel
theorem dX11_formula_108 : decode cX11_formula 108 = .ok (.if_icmp .ne 10, 3) := dk_160 (ck3s_s (r := 44) dT_cX11_formula_1 rfl dg_cX11_formula_553.1)
theorem dX11_formula_111 : decode cX11_formula 111 = .ok (.aload_n 0, 1) := dk_42 (ck1_s (r := 47) dT_cX11_formula_1 rfl dg_cX11_formula_553.2.1)
theorem dX11_formula_112 : decode cX11_formula 112 = .ok (.invokevirtual 307, 3) := dk_182 (ck3_s (r := 48) dT_cX11_formula_1 rfl dg_cX11_formula_553.2.2.1)
theorem dX11_formula_115 : decode cX11_formula 115 = .ok (.ifCond .ne 42, 3) := dk_154 (ck3s_s (r := 51) dT_cX11_formula_1 rfl dg_cX11_formula_553.2.2.2.1)
theorem dX11_formula_118 : decode cX11_formula 118 = .ok (.aload_n 0, 1) := dk_42 (ck1_s (r := 54) dT_cX11_formula_1 rfl dg_cX11_formula_553.2.2.2.2.1)
theorem dX11_formula_119 : decode cX11_formula 119 = .ok (.iload_n 2, 1) := dk_28 (ck1_s (r := 55) dT_cX11_formula_1 rfl dg_cX11_formula_553.2.2.2.2.2.1)
theorem dX11_formula_120 : decode cX11_formula 120 = .ok (.invokestatic 259, 3) := dk_184 (ck3_s (r := 56) dT_cX11_formula_1 rfl dg_cX11_formula_553.2.2.2.2.2.2.1)
theorem dX11_formula_123 : decode cX11_formula 123 = .ok (.invokevirtual 304, 3) := dk_182 (ck3_s (r := 59) dT_cX11_formula_1 rfl dg_cX11_formula_553.2.2.2.2.2.2.2)
theorem dg_cX11_formula_554 : ck1L dS_cX11_formula_1 62 42 = true ∧ ck3L dS_cX11_formula_1 63 180 33 = true ∧ ck1L dS_cX11_formula_2 2 42 = true ∧ ck3L dS_cX11_formula_2 3 180 256 = true ∧ ck1L dS_cX11_formula_2 6 28 = true ∧ ck1L dS_cX11_formula_2 7 79 = true ∧ ck1L dS_cX11_formula_2 8 42 = true ∧ ck1L dS_cX11_formula_2 9 89 = true := by decide +kernel
theorem dX11_formula_126 : decode cX11_formula 126 = .ok (.aload_n 0, 1) := dk_42 (ck1_s (r := 62) dT_cX11_formula_1 rfl dg_cX11_formula_554.1)
theorem dX11_formula_127 : decode cX11_formula 127 = .ok (.getfield 33, 3) := dk_180 (ck3_s (r := 63) dT_cX11_formula_1 rfl dg_cX11_formula_554.2.1)
theorem dX11_formula_130 : decode cX11_formula 130 = .ok (.aload_n 0, 1) := dk_42 (ck1_s (r := 2) dT_cX11_formula_2 rfl dg_cX11_formula_554.2.2.1)
theorem dX11_formula_131 : decode cX11_formula 131 = .ok (.getfield 256, 3) := dk_180 (ck3_s (r := 3) dT_cX11_formula_2 rfl dg_cX11_formula_554.2.2.2.1)
theorem dX11_formula_134 : decode cX11_formula 134 = .ok (.iload_n 2, 1) := dk_28 (ck1_s (r := 6) dT_cX11_formula_2 rfl dg_cX11_formula_554.2.2.2.2.1)
theorem dX11_formula_135 : decode cX11_formula 135 = .ok (.iastore, 1) := dk_79 (ck1_s (r := 7) dT_cX11_formula_2 rfl dg_cX11_formula_554.2.2.2.2.2.1)
theorem dX11_formula_136 : decode cX11_formula 136 = .ok (.aload_n 0, 1) := dk_42 (ck1_s (r := 8) dT_cX11_formula_2 rfl dg_cX11_formula_554.2.2.2.2.2.2.1)
theorem dX11_formula_137 : decode cX11_formula 137 = .ok (.dup, 1) := dk_89 (ck1_s (r := 9) dT_cX11_formula_2 rfl dg_cX11_formula_554.2.2.2.2.2.2.2)
theorem dg_cX11_formula_555 : ck3L dS_cX11_formula_2 10 180 256 = true ∧ ck1L dS_cX11_formula_2 13 4 = true ∧ ck1L dS_cX11_formula_2 14 96 = true ∧ ck3L dS_cX11_formula_2 15 181 256 = true ∧ ck1L dS_cX11_formula_2 18 42 = true ∧ ck3L dS_cX11_formula_2 19 182 235 = true ∧ ck1L dS_cX11_formula_2 22 42 = true ∧ ck3L dS_cX11_formula_2 23 182 295 = true := by decide +kernel
theorem dX11_formula_138 : decode cX11_formula 138 = .ok (.getfield 256, 3) := dk_180 (ck3_s (r := 10) dT_cX11_formula_2 rfl dg_cX11_formula_555.1)
theorem dX11_formula_141 : decode cX11_formula 141 = .ok (.iconst 1, 1) := dk_4 (ck1_s (r := 13) dT_cX11_formula_2 rfl dg_cX11_formula_555.2.1)
theorem dX11_formula_142 : decode cX11_formula 142 = .ok (.iadd, 1) := dk_96 (ck1_s (r := 14) dT_cX11_formula_2 rfl dg_cX11_formula_555.2.2.1)
theorem dX11_formula_143 : decode cX11_formula 143 = .ok (.putfield 256, 3) := dk_181 (ck3_s (r := 15) dT_cX11_formula_2 rfl dg_cX11_formula_555.2.2.2.1)
theorem dX11_formula_146 : decode cX11_formula 146 = .ok (.aload_n 0, 1) := dk_42 (ck1_s (r := 18) dT_cX11_formula_2 rfl dg_cX11_formula_555.2.2.2.2.1)
theorem dX11_formula_147 : decode cX11_formula 147 = .ok (.invokevirtual 235, 3) := dk_182 (ck3_s (r := 19) dT_cX11_formula_2 rfl dg_cX11_formula_555.2.2.2.2.2.1)
theorem dX11_formula_150 : decode cX11_formula 150 = .ok (.aload_n 0, 1) := dk_42 (ck1_s (r := 22) dT_cX11_formula_2 rfl dg_cX11_formula_555.2.2.2.2.2.2.1)
theorem dX11_formula_151 : decode cX11_formula 151 = .ok (.invokevirtual 295, 3) := dk_182 (ck3_s (r := 23) dT_cX11_formula_2 rfl dg_cX11_formula_555.2.2.2.2.2.2.2)
theorem dg_cX11_formula_556 : ck3sL dS_cX11_formula_2 26 167 5 = true ∧ ck1L dS_cX11_formula_2 29 3 = true ∧ ck1L dS_cX11_formula_2 30 60 = true ∧ ck3sL dS_cX11_formula_2 31 167 (-124) = true ∧ ck1L dS_cX11_formula_2 34 42 = true ∧ ck3L dS_cX11_formula_2 35 180 179 = true ∧ ck3sL dS_cX11_formula_2 38 154 15 = true ∧ ck1L dS_cX11_formula_2 41 42 = true := by decide +kernel
theorem dX11_formula_154 : decode cX11_formula 154 = .ok (.goto 5, 3) := dk_167 (ck3s_s (r := 26) dT_cX11_formula_2 rfl dg_cX11_formula_556.1)
theorem dX11_formula_157 : decode cX11_formula 157 = .ok (.iconst 0, 1) := dk_3 (ck1_s (r := 29) dT_cX11_formula_2 rfl dg_cX11_formula_556.2.1)
theorem dX11_formula_158 : decode cX11_formula 158 = .ok (.istore_n 1, 1) := dk_60 (ck1_s (r := 30) dT_cX11_formula_2 rfl dg_cX11_formula_556.2.2.1)
theorem dX11_formula_159 : decode cX11_formula 159 = .ok (.goto (-124), 3) := dk_167 (ck3s_s (r := 31) dT_cX11_formula_2 rfl dg_cX11_formula_556.2.2.2.1)
theorem dX11_formula_162 : decode cX11_formula 162 = .ok (.aload_n 0, 1) := dk_42 (ck1_s (r := 34) dT_cX11_formula_2 rfl dg_cX11_formula_556.2.2.2.2.1)
theorem dX11_formula_163 : decode cX11_formula 163 = .ok (.getfield 179, 3) := dk_180 (ck3_s (r := 35) dT_cX11_formula_2 rfl dg_cX11_formula_556.2.2.2.2.2.1)
theorem dX11_formula_166 : decode cX11_formula 166 = .ok (.ifCond .ne 15, 3) := dk_154 (ck3s_s (r := 38) dT_cX11_formula_2 rfl dg_cX11_formula_556.2.2.2.2.2.2.1)
theorem dX11_formula_169 : decode cX11_formula 169 = .ok (.aload_n 0, 1) := dk_42 (ck1_s (r := 41) dT_cX11_formula_2 rfl dg_cX11_formula_556.2.2.2.2.2.2.2)
theorem dg_cX11_formula_557 : ck3L dS_cX11_formula_2 42 182 301 = true ∧ ck3sL dS_cX11_formula_2 45 153 8 = true ∧ ck1L dS_cX11_formula_2 48 42 = true ∧ ck1L dS_cX11_formula_2 49 5 = true ∧ ck3L dS_cX11_formula_2 50 182 232 = true ∧ ck1L dS_cX11_formula_2 53 42 = true ∧ ck3L dS_cX11_formula_2 54 180 179 = true ∧ ck3sL dS_cX11_formula_2 57 154 8 = true := by decide +kernel
theorem dX11_formula_170 : decode cX11_formula 170 = .ok (.invokevirtual 301, 3) := dk_182 (ck3_s (r := 42) dT_cX11_formula_2 rfl dg_cX11_formula_557.1)
theorem dX11_formula_173 : decode cX11_formula 173 = .ok (.ifCond .eq 8, 3) := dk_153 (ck3s_s (r := 45) dT_cX11_formula_2 rfl dg_cX11_formula_557.2.1)
theorem dX11_formula_176 : decode cX11_formula 176 = .ok (.aload_n 0, 1) := dk_42 (ck1_s (r := 48) dT_cX11_formula_2 rfl dg_cX11_formula_557.2.2.1)
theorem dX11_formula_177 : decode cX11_formula 177 = .ok (.iconst 2, 1) := dk_5 (ck1_s (r := 49) dT_cX11_formula_2 rfl dg_cX11_formula_557.2.2.2.1)
theorem dX11_formula_178 : decode cX11_formula 178 = .ok (.invokevirtual 232, 3) := dk_182 (ck3_s (r := 50) dT_cX11_formula_2 rfl dg_cX11_formula_557.2.2.2.2.1)
theorem dX11_formula_181 : decode cX11_formula 181 = .ok (.aload_n 0, 1) := dk_42 (ck1_s (r := 53) dT_cX11_formula_2 rfl dg_cX11_formula_557.2.2.2.2.2.1)
theorem dX11_formula_182 : decode cX11_formula 182 = .ok (.getfield 179, 3) := dk_180 (ck3_s (r := 54) dT_cX11_formula_2 rfl dg_cX11_formula_557.2.2.2.2.2.2.1)
theorem dX11_formula_185 : decode cX11_formula 185 = .ok (.ifCond .ne 8, 3) := dk_154 (ck3s_s (r := 57) dT_cX11_formula_2 rfl dg_cX11_formula_557.2.2.2.2.2.2.2)
theorem dg_cX11_formula_558 : ck1L dS_cX11_formula_2 60 42 = true ∧ ck1L dS_cX11_formula_2 61 3 = true ∧ ck3L dS_cX11_formula_2 62 182 304 = true ∧ ck1L dS_cX11_formula_3 1 177 = true := by decide +kernel
theorem dX11_formula_188 : decode cX11_formula 188 = .ok (.aload_n 0, 1) := dk_42 (ck1_s (r := 60) dT_cX11_formula_2 rfl dg_cX11_formula_558.1)
theorem dX11_formula_189 : decode cX11_formula 189 = .ok (.iconst 0, 1) := dk_3 (ck1_s (r := 61) dT_cX11_formula_2 rfl dg_cX11_formula_558.2.1)
theorem dX11_formula_190 : decode cX11_formula 190 = .ok (.invokevirtual 304, 3) := dk_182 (ck3_s (r := 62) dT_cX11_formula_2 rfl dg_cX11_formula_558.2.2.1)
theorem dX11_formula_193 : decode cX11_formula 193 = .ok (.return_, 1) := dk_177 (ck1_s (r := 1) dT_cX11_formula_3 rfl dg_cX11_formula_558.2.2.2)
theorem dg_cX11_four_559 : ck2s cX11_four 0 16 24 = true ∧ ck1 cX11_four 2 61 = true ∧ ck1 cX11_four 3 28 = true ∧ ck3s cX11_four 4 155 35 = true ∧ ck1 cX11_four 7 42 = true ∧ ck3 cX11_four 8 180 7 = true ∧ ck1 cX11_four 11 42 = true ∧ ck3 cX11_four 12 180 139 = true := by decide +kernel
theorem dX11_four_0 : decode cX11_four 0 = .ok (.bipush 24, 2) := dk_16 dg_cX11_four_559.1
theorem dX11_four_2 : decode cX11_four 2 = .ok (.istore_n 2, 1) := dk_61 dg_cX11_four_559.2.1
theorem dX11_four_3 : decode cX11_four 3 = .ok (.iload_n 2, 1) := dk_28 dg_cX11_four_559.2.2.1
theorem dX11_four_4 : decode cX11_four 4 = .ok (.ifCond .lt 35, 3) := dk_155 dg_cX11_four_559.2.2.2.1
theorem dX11_four_7 : decode cX11_four 7 = .ok (.aload_n 0, 1) := dk_42 dg_cX11_four_559.2.2.2.2.1
theorem dX11_four_8 : decode cX11_four 8 = .ok (.getfield 7, 3) := dk_180 dg_cX11_four_559.2.2.2.2.2.1
theorem dX11_four_11 : decode cX11_four 11 = .ok (.aload_n 0, 1) := dk_42 dg_cX11_four_559.2.2.2.2.2.2.1
theorem dX11_four_12 : decode cX11_four 12 = .ok (.getfield 139, 3) := dk_180 dg_cX11_four_559.2.2.2.2.2.2.2
theorem dg_cX11_four_560 : ck1 cX11_four 15 27 = true ∧ ck1 cX11_four 16 28 = true ∧ ck1 cX11_four 17 122 = true ∧ ck3s cX11_four 18 17 255 = true ∧ ck1 cX11_four 21 126 = true ∧ ck1 cX11_four 22 79 = true ∧ ck1 cX11_four 23 42 = true ∧ ck1 cX11_four 24 89 = true := by decide +kernel
theorem dX11_four_15 : decode cX11_four 15 = .ok (.iload_n 1, 1) := dk_27 dg_cX11_four_560.1
theorem dX11_four_16 : decode cX11_four 16 = .ok (.iload_n 2, 1) := dk_28 dg_cX11_four_560.2.1
theorem dX11_four_17 : decode cX11_four 17 = .ok (.ishr, 1) := dk_122 dg_cX11_four_560.2.2.1
theorem dX11_four_18 : decode cX11_four 18 = .ok (.sipush 255, 3) := dk_17 dg_cX11_four_560.2.2.2.1
theorem dX11_four_21 : decode cX11_four 21 = .ok (.iand, 1) := dk_126 dg_cX11_four_560.2.2.2.2.1
theorem dX11_four_22 : decode cX11_four 22 = .ok (.iastore, 1) := dk_79 dg_cX11_four_560.2.2.2.2.2.1
theorem dX11_four_23 : decode cX11_four 23 = .ok (.aload_n 0, 1) := dk_42 dg_cX11_four_560.2.2.2.2.2.2.1
theorem dX11_four_24 : decode cX11_four 24 = .ok (.dup, 1) := dk_89 dg_cX11_four_560.2.2.2.2.2.2.2
theorem dg_cX11_four_561 : ck3 cX11_four 25 180 139 = true ∧ ck1 cX11_four 28 4 = true ∧ ck1 cX11_four 29 96 = true ∧ ck3 cX11_four 30 181 139 = true ∧ ck3i cX11_four 33 132 2 (-8) = true ∧ ck3s cX11_four 36 167 (-33) = true ∧ ck1 cX11_four 39 177 = true := by decide +kernel
theorem dX11_four_25 : decode cX11_four 25 = .ok (.getfield 139, 3) := dk_180 dg_cX11_four_561.1
theorem dX11_four_28 : decode cX11_four 28 = .ok (.iconst 1, 1) := dk_4 dg_cX11_four_561.2.1
theorem dX11_four_29 : decode cX11_four 29 = .ok (.iadd, 1) := dk_96 dg_cX11_four_561.2.2.1
theorem dX11_four_30 : decode cX11_four 30 = .ok (.putfield 139, 3) := dk_181 dg_cX11_four_561.2.2.2.1
theorem dX11_four_33 : decode cX11_four 33 = .ok (.iinc 2 (-8), 3) := dk_132 dg_cX11_four_561.2.2.2.2.1
theorem dX11_four_36 : decode cX11_four 36 = .ok (.goto (-33), 3) := dk_167 dg_cX11_four_561.2.2.2.2.2.1
theorem dX11_four_39 : decode cX11_four 39 = .ok (.return_, 1) := dk_177 dg_cX11_four_561.2.2.2.2.2.2
theorem dg_cX11_freeCoats_562 : ck1 cX11_freeCoats 0 3 = true ∧ ck1 cX11_freeCoats 1 60 = true ∧ ck1 cX11_freeCoats 2 3 = true ∧ ck1 cX11_freeCoats 3 61 = true ∧ ck1 cX11_freeCoats 4 28 = true ∧ ck1 cX11_freeCoats 5 42 = true ∧ ck3 cX11_freeCoats 6 180 390 = true ∧ ck3s cX11_freeCoats 9 162 30 = true := by decide +kernel
theorem dX11_freeCoats_0 : decode cX11_freeCoats 0 = .ok (.iconst 0, 1) := dk_3 dg_cX11_freeCoats_562.1
theorem dX11_freeCoats_1 : decode cX11_freeCoats 1 = .ok (.istore_n 1, 1) := dk_60 dg_cX11_freeCoats_562.2.1
theorem dX11_freeCoats_2 : decode cX11_freeCoats 2 = .ok (.iconst 0, 1) := dk_3 dg_cX11_freeCoats_562.2.2.1
theorem dX11_freeCoats_3 : decode cX11_freeCoats 3 = .ok (.istore_n 2, 1) := dk_61 dg_cX11_freeCoats_562.2.2.2.1
theorem dX11_freeCoats_4 : decode cX11_freeCoats 4 = .ok (.iload_n 2, 1) := dk_28 dg_cX11_freeCoats_562.2.2.2.2.1
theorem dX11_freeCoats_5 : decode cX11_freeCoats 5 = .ok (.aload_n 0, 1) := dk_42 dg_cX11_freeCoats_562.2.2.2.2.2.1
theorem dX11_freeCoats_6 : decode cX11_freeCoats 6 = .ok (.getfield 390, 3) := dk_180 dg_cX11_freeCoats_562.2.2.2.2.2.2.1
theorem dX11_freeCoats_9 : decode cX11_freeCoats 9 = .ok (.if_icmp .ge 30, 3) := dk_162 dg_cX11_freeCoats_562.2.2.2.2.2.2.2
theorem dg_cX11_freeCoats_563 : ck1 cX11_freeCoats 12 27 = true ∧ ck1 cX11_freeCoats 13 42 = true ∧ ck1 cX11_freeCoats 14 28 = true ∧ ck3 cX11_freeCoats 15 182 434 = true ∧ ck3s cX11_freeCoats 18 156 7 = true ∧ ck1 cX11_freeCoats 21 4 = true ∧ ck3s cX11_freeCoats 22 167 4 = true ∧ ck1 cX11_freeCoats 25 3 = true := by decide +kernel
theorem dX11_freeCoats_12 : decode cX11_freeCoats 12 = .ok (.iload_n 1, 1) := dk_27 dg_cX11_freeCoats_563.1
theorem dX11_freeCoats_13 : decode cX11_freeCoats 13 = .ok (.aload_n 0, 1) := dk_42 dg_cX11_freeCoats_563.2.1
theorem dX11_freeCoats_14 : decode cX11_freeCoats 14 = .ok (.iload_n 2, 1) := dk_28 dg_cX11_freeCoats_563.2.2.1
theorem dX11_freeCoats_15 : decode cX11_freeCoats 15 = .ok (.invokevirtual 434, 3) := dk_182 dg_cX11_freeCoats_563.2.2.2.1
theorem dX11_freeCoats_18 : decode cX11_freeCoats 18 = .ok (.ifCond .ge 7, 3) := dk_156 dg_cX11_freeCoats_563.2.2.2.2.1
theorem dX11_freeCoats_21 : decode cX11_freeCoats 21 = .ok (.iconst 1, 1) := dk_4 dg_cX11_freeCoats_563.2.2.2.2.2.1
theorem dX11_freeCoats_22 : decode cX11_freeCoats 22 = .ok (.goto 4, 3) := dk_167 dg_cX11_freeCoats_563.2.2.2.2.2.2.1
theorem dX11_freeCoats_25 : decode cX11_freeCoats 25 = .ok (.iconst 0, 1) := dk_3 dg_cX11_freeCoats_563.2.2.2.2.2.2.2
theorem dg_cX11_freeCoats_564 : ck3 cX11_freeCoats 26 184 310 = true ∧ ck1 cX11_freeCoats 29 28 = true ∧ ck1 cX11_freeCoats 30 120 = true ∧ ck1 cX11_freeCoats 31 128 = true ∧ ck1 cX11_freeCoats 32 60 = true ∧ ck3i cX11_freeCoats 33 132 2 1 = true ∧ ck3s cX11_freeCoats 36 167 (-32) = true ∧ ck1 cX11_freeCoats 39 27 = true := by decide +kernel
theorem dX11_freeCoats_26 : decode cX11_freeCoats 26 = .ok (.invokestatic 310, 3) := dk_184 dg_cX11_freeCoats_564.1
theorem dX11_freeCoats_29 : decode cX11_freeCoats 29 = .ok (.iload_n 2, 1) := dk_28 dg_cX11_freeCoats_564.2.1
theorem dX11_freeCoats_30 : decode cX11_freeCoats 30 = .ok (.ishl, 1) := dk_120 dg_cX11_freeCoats_564.2.2.1
theorem dX11_freeCoats_31 : decode cX11_freeCoats 31 = .ok (.ior, 1) := dk_128 dg_cX11_freeCoats_564.2.2.2.1
theorem dX11_freeCoats_32 : decode cX11_freeCoats 32 = .ok (.istore_n 1, 1) := dk_60 dg_cX11_freeCoats_564.2.2.2.2.1
theorem dX11_freeCoats_33 : decode cX11_freeCoats 33 = .ok (.iinc 2 1, 3) := dk_132 dg_cX11_freeCoats_564.2.2.2.2.2.1
theorem dX11_freeCoats_36 : decode cX11_freeCoats 36 = .ok (.goto (-32), 3) := dk_167 dg_cX11_freeCoats_564.2.2.2.2.2.2.1
theorem dX11_freeCoats_39 : decode cX11_freeCoats 39 = .ok (.iload_n 1, 1) := dk_27 dg_cX11_freeCoats_564.2.2.2.2.2.2.2
theorem dg_cX11_freeCoats_565 : ck1 cX11_freeCoats 40 172 = true := by decide +kernel
theorem dX11_freeCoats_40 : decode cX11_freeCoats 40 = .ok (.ireturn, 1) := dk_172 dg_cX11_freeCoats_565
theorem dg_cX11_front_566 : ck1 cX11_front 0 27 = true ∧ ck1 cX11_front 1 3 = true ∧ ck3s cX11_front 2 17 999 = true ∧ ck3 cX11_front 5 184 417 = true ∧ ck3s cX11_front 8 153 12 = true ∧ ck1 cX11_front 11 28 = true ∧ ck1 cX11_front 12 3 = true ∧ ck1 cX11_front 13 4 = true := by decide +kernel
theorem dX11_front_0 : decode cX11_front 0 = .ok (.iload_n 1, 1) := dk_27 dg_cX11_front_566.1
theorem dX11_front_1 : decode cX11_front 1 = .ok (.iconst 0, 1) := dk_3 dg_cX11_front_566.2.1
theorem dX11_front_2 : decode cX11_front 2 = .ok (.sipush 999, 3) := dk_17 dg_cX11_front_566.2.2.1
theorem dX11_front_5 : decode cX11_front 5 = .ok (.invokestatic 417, 3) := dk_184 dg_cX11_front_566.2.2.2.1
theorem dX11_front_8 : decode cX11_front 8 = .ok (.ifCond .eq 12, 3) := dk_153 dg_cX11_front_566.2.2.2.2.1
theorem dX11_front_11 : decode cX11_front 11 = .ok (.iload_n 2, 1) := dk_28 dg_cX11_front_566.2.2.2.2.2.1
theorem dX11_front_12 : decode cX11_front 12 = .ok (.iconst 0, 1) := dk_3 dg_cX11_front_566.2.2.2.2.2.2.1
theorem dX11_front_13 : decode cX11_front 13 = .ok (.iconst 1, 1) := dk_4 dg_cX11_front_566.2.2.2.2.2.2.2
theorem dg_cX11_front_567 : ck3 cX11_front 14 184 417 = true ∧ ck3s cX11_front 17 154 5 = true ∧ ck1 cX11_front 20 2 = true ∧ ck1 cX11_front 21 172 = true ∧ ck1 cX11_front 22 42 = true ∧ ck3 cX11_front 23 182 449 = true ∧ ck1 cX11_front 26 42 = true ∧ ck3 cX11_front 27 182 440 = true := by decide +kernel
theorem dX11_front_14 : decode cX11_front 14 = .ok (.invokestatic 417, 3) := dk_184 dg_cX11_front_567.1
theorem dX11_front_17 : decode cX11_front 17 = .ok (.ifCond .ne 5, 3) := dk_154 dg_cX11_front_567.2.1
theorem dX11_front_20 : decode cX11_front 20 = .ok (.iconst (-1), 1) := dk_2 dg_cX11_front_567.2.2.1
theorem dX11_front_21 : decode cX11_front 21 = .ok (.ireturn, 1) := dk_172 dg_cX11_front_567.2.2.2.1
theorem dX11_front_22 : decode cX11_front 22 = .ok (.aload_n 0, 1) := dk_42 dg_cX11_front_567.2.2.2.2.1
theorem dX11_front_23 : decode cX11_front 23 = .ok (.invokevirtual 449, 3) := dk_182 dg_cX11_front_567.2.2.2.2.2.1
theorem dX11_front_26 : decode cX11_front 26 = .ok (.aload_n 0, 1) := dk_42 dg_cX11_front_567.2.2.2.2.2.2.1
theorem dX11_front_27 : decode cX11_front 27 = .ok (.invokevirtual 440, 3) := dk_182 dg_cX11_front_567.2.2.2.2.2.2.2
theorem dg_cX11_front_568 : ck1 cX11_front 30 62 = true ∧ ck1 cX11_front 31 2 = true ∧ ck2 cX11_front 32 54 4 = true ∧ ck1 cX11_front 34 3 = true ∧ ck2 cX11_front 35 54 5 = true ∧ ck2 cX11_front 37 21 5 = true ∧ ck1 cX11_front 39 29 = true ∧ ck3s cX11_front 40 163 50 = true := by decide +kernel
theorem dX11_front_30 : decode cX11_front 30 = .ok (.istore_n 3, 1) := dk_62 dg_cX11_front_568.1
theorem dX11_front_31 : decode cX11_front 31 = .ok (.iconst (-1), 1) := dk_2 dg_cX11_front_568.2.1
theorem dX11_front_32 : decode cX11_front 32 = .ok (.istore 4, 2) := dk_54 dg_cX11_front_568.2.2.1
theorem dX11_front_34 : decode cX11_front 34 = .ok (.iconst 0, 1) := dk_3 dg_cX11_front_568.2.2.2.1
theorem dX11_front_35 : decode cX11_front 35 = .ok (.istore 5, 2) := dk_54 dg_cX11_front_568.2.2.2.2.1
theorem dX11_front_37 : decode cX11_front 37 = .ok (.iload 5, 2) := dk_21 dg_cX11_front_568.2.2.2.2.2.1
theorem dX11_front_39 : decode cX11_front 39 = .ok (.iload_n 3, 1) := dk_29 dg_cX11_front_568.2.2.2.2.2.2.1
theorem dX11_front_40 : decode cX11_front 40 = .ok (.if_icmp .gt 50, 3) := dk_163 dg_cX11_front_568.2.2.2.2.2.2.2
theorem dg_cX11_front_569 : ck2 cX11_front 43 21 5 = true ∧ ck1 cX11_front 45 29 = true ∧ ck1 cX11_front 46 2 = true ∧ ck1 cX11_front 47 130 = true ∧ ck1 cX11_front 48 126 = true ∧ ck3s cX11_front 49 154 35 = true ∧ ck1 cX11_front 52 42 = true ∧ ck2 cX11_front 53 21 5 = true := by decide +kernel
theorem dX11_front_43 : decode cX11_front 43 = .ok (.iload 5, 2) := dk_21 dg_cX11_front_569.1
theorem dX11_front_45 : decode cX11_front 45 = .ok (.iload_n 3, 1) := dk_29 dg_cX11_front_569.2.1
theorem dX11_front_46 : decode cX11_front 46 = .ok (.iconst (-1), 1) := dk_2 dg_cX11_front_569.2.2.1
theorem dX11_front_47 : decode cX11_front 47 = .ok (.ixor, 1) := dk_130 dg_cX11_front_569.2.2.2.1
theorem dX11_front_48 : decode cX11_front 48 = .ok (.iand, 1) := dk_126 dg_cX11_front_569.2.2.2.2.1
theorem dX11_front_49 : decode cX11_front 49 = .ok (.ifCond .ne 35, 3) := dk_154 dg_cX11_front_569.2.2.2.2.2.1
theorem dX11_front_52 : decode cX11_front 52 = .ok (.aload_n 0, 1) := dk_42 dg_cX11_front_569.2.2.2.2.2.2.1
theorem dX11_front_53 : decode cX11_front 53 = .ok (.iload 5, 2) := dk_21 dg_cX11_front_569.2.2.2.2.2.2.2
theorem dg_cX11_front_570 : ck3 cX11_front 55 182 492 = true ∧ ck1 cX11_front 58 27 = true ∧ ck3s cX11_front 59 161 25 = true ∧ ck2 cX11_front 62 21 4 = true := by decide +kernel
theorem dX11_front_55 : decode cX11_front 55 = .ok (.invokevirtual 492, 3) := dk_182 dg_cX11_front_570.1
theorem dX11_front_58 : decode cX11_front 58 = .ok (.iload_n 1, 1) := dk_27 dg_cX11_front_570.2.1
theorem dX11_front_59 : decode cX11_front 59 = .ok (.if_icmp .lt 25, 3) := dk_161 dg_cX11_front_570.2.2.1
theorem dX11_front_62 : decode cX11_front 62 = .ok (.iload 4, 2) := dk_21 dg_cX11_front_570.2.2.2
def dS_cX11_front_1 : List UInt8 := 155 :: 0 :: 16 :: 21 :: 5 :: 184 :: 1 :: 230 :: 21 :: 4 :: 184 :: 1 :: 230 :: 162 :: 0 :: 7 :: 21 :: 5 :: 54 :: 4 :: 132 :: 5 :: 1 :: 167 :: 255 :: 206 :: 21 :: 4 :: 156 :: 0 :: 7 :: 2 :: 167 :: 0 :: 17 :: 28 :: 154 :: 0 :: 11 :: 21 :: 4 :: 184 :: 1 :: 230 :: 167 :: 0 :: 5 :: 21 :: 4 :: 172 :: []
def dS_cX11_front_0 : List UInt8 := 27 :: 3 :: 17 :: 3 :: 231 :: 184 :: 1 :: 161 :: 153 :: 0 :: 12 :: 28 :: 3 :: 4 :: 184 :: 1 :: 161 :: 154 :: 0 :: 5 :: 2 :: 172 :: 42 :: 182 :: 1 :: 193 :: 42 :: 182 :: 1 :: 184 :: 62 :: 2 :: 54 :: 4 :: 3 :: 54 :: 5 :: 21 :: 5 :: 29 :: 163 :: 0 :: 50 :: 21 :: 5 :: 29 :: 2 :: 130 :: 126 :: 154 :: 0 :: 35 :: 42 :: 21 :: 5 :: 182 :: 1 :: 236 :: 27 :: 161 :: 0 :: 25 :: 21 :: 4 :: dS_cX11_front_1
theorem dT_cX11_front_0 : cX11_front.data.toList.drop 0 = dS_cX11_front_0 := by decide +kernel
theorem dT_cX11_front_1 : cX11_front.data.toList.drop 64 = dS_cX11_front_1 := ck_nx dT_cX11_front_0 (by decide +kernel) rfl
theorem dg_cX11_front_571 : ck3sL dS_cX11_front_1 0 155 16 = true ∧ ck2L dS_cX11_front_1 3 21 5 = true ∧ ck3L dS_cX11_front_1 5 184 486 = true ∧ ck2L dS_cX11_front_1 8 21 4 = true ∧ ck3L dS_cX11_front_1 10 184 486 = true ∧ ck3sL dS_cX11_front_1 13 162 7 = true ∧ ck2L dS_cX11_front_1 16 21 5 = true ∧ ck2L dS_cX11_front_1 18 54 4 = true := by decide +kernel
theorem dX11_front_64 : decode cX11_front 64 = .ok (.ifCond .lt 16, 3) := dk_155 (ck3s_s (r := 0) dT_cX11_front_1 rfl dg_cX11_front_571.1)
theorem dX11_front_67 : decode cX11_front 67 = .ok (.iload 5, 2) := dk_21 (ck2_s (r := 3) dT_cX11_front_1 rfl dg_cX11_front_571.2.1)
theorem dX11_front_69 : decode cX11_front 69 = .ok (.invokestatic 486, 3) := dk_184 (ck3_s (r := 5) dT_cX11_front_1 rfl dg_cX11_front_571.2.2.1)
theorem dX11_front_72 : decode cX11_front 72 = .ok (.iload 4, 2) := dk_21 (ck2_s (r := 8) dT_cX11_front_1 rfl dg_cX11_front_571.2.2.2.1)
theorem dX11_front_74 : decode cX11_front 74 = .ok (.invokestatic 486, 3) := dk_184 (ck3_s (r := 10) dT_cX11_front_1 rfl dg_cX11_front_571.2.2.2.2.1)
theorem dX11_front_77 : decode cX11_front 77 = .ok (.if_icmp .ge 7, 3) := dk_162 (ck3s_s (r := 13) dT_cX11_front_1 rfl dg_cX11_front_571.2.2.2.2.2.1)
theorem dX11_front_80 : decode cX11_front 80 = .ok (.iload 5, 2) := dk_21 (ck2_s (r := 16) dT_cX11_front_1 rfl dg_cX11_front_571.2.2.2.2.2.2.1)
theorem dX11_front_82 : decode cX11_front 82 = .ok (.istore 4, 2) := dk_54 (ck2_s (r := 18) dT_cX11_front_1 rfl dg_cX11_front_571.2.2.2.2.2.2.2)
theorem dg_cX11_front_572 : ck3iL dS_cX11_front_1 20 132 5 1 = true ∧ ck3sL dS_cX11_front_1 23 167 (-50) = true ∧ ck2L dS_cX11_front_1 26 21 4 = true ∧ ck3sL dS_cX11_front_1 28 156 7 = true ∧ ck1L dS_cX11_front_1 31 2 = true ∧ ck3sL dS_cX11_front_1 32 167 17 = true ∧ ck1L dS_cX11_front_1 35 28 = true ∧ ck3sL dS_cX11_front_1 36 154 11 = true := by decide +kernel
theorem dX11_front_84 : decode cX11_front 84 = .ok (.iinc 5 1, 3) := dk_132 (ck3i_s (r := 20) dT_cX11_front_1 rfl dg_cX11_front_572.1)
theorem dX11_front_87 : decode cX11_front 87 = .ok (.goto (-50), 3) := dk_167 (ck3s_s (r := 23) dT_cX11_front_1 rfl dg_cX11_front_572.2.1)
theorem dX11_front_90 : decode cX11_front 90 = .ok (.iload 4, 2) := dk_21 (ck2_s (r := 26) dT_cX11_front_1 rfl dg_cX11_front_572.2.2.1)
theorem dX11_front_92 : decode cX11_front 92 = .ok (.ifCond .ge 7, 3) := dk_156 (ck3s_s (r := 28) dT_cX11_front_1 rfl dg_cX11_front_572.2.2.2.1)
theorem dX11_front_95 : decode cX11_front 95 = .ok (.iconst (-1), 1) := dk_2 (ck1_s (r := 31) dT_cX11_front_1 rfl dg_cX11_front_572.2.2.2.2.1)
theorem dX11_front_96 : decode cX11_front 96 = .ok (.goto 17, 3) := dk_167 (ck3s_s (r := 32) dT_cX11_front_1 rfl dg_cX11_front_572.2.2.2.2.2.1)
theorem dX11_front_99 : decode cX11_front 99 = .ok (.iload_n 2, 1) := dk_28 (ck1_s (r := 35) dT_cX11_front_1 rfl dg_cX11_front_572.2.2.2.2.2.2.1)
theorem dX11_front_100 : decode cX11_front 100 = .ok (.ifCond .ne 11, 3) := dk_154 (ck3s_s (r := 36) dT_cX11_front_1 rfl dg_cX11_front_572.2.2.2.2.2.2.2)
theorem dg_cX11_front_573 : ck2L dS_cX11_front_1 39 21 4 = true ∧ ck3L dS_cX11_front_1 41 184 486 = true ∧ ck3sL dS_cX11_front_1 44 167 5 = true ∧ ck2L dS_cX11_front_1 47 21 4 = true ∧ ck1L dS_cX11_front_1 49 172 = true := by decide +kernel
theorem dX11_front_103 : decode cX11_front 103 = .ok (.iload 4, 2) := dk_21 (ck2_s (r := 39) dT_cX11_front_1 rfl dg_cX11_front_573.1)
theorem dX11_front_105 : decode cX11_front 105 = .ok (.invokestatic 486, 3) := dk_184 (ck3_s (r := 41) dT_cX11_front_1 rfl dg_cX11_front_573.2.1)
theorem dX11_front_108 : decode cX11_front 108 = .ok (.goto 5, 3) := dk_167 (ck3s_s (r := 44) dT_cX11_front_1 rfl dg_cX11_front_573.2.2.1)
theorem dX11_front_111 : decode cX11_front 111 = .ok (.iload 4, 2) := dk_21 (ck2_s (r := 47) dT_cX11_front_1 rfl dg_cX11_front_573.2.2.2.1)
theorem dX11_front_113 : decode cX11_front 113 = .ok (.ireturn, 1) := dk_172 (ck1_s (r := 49) dT_cX11_front_1 rfl dg_cX11_front_573.2.2.2.2)
theorem dg_cX11_goDay_574 : ck1 cX11_goDay 0 3 = true ∧ ck1 cX11_goDay 1 61 = true ∧ ck1 cX11_goDay 2 28 = true ∧ ck1 cX11_goDay 3 42 = true ∧ ck3 cX11_goDay 4 180 387 = true ∧ ck3s cX11_goDay 7 162 33 = true ∧ ck1 cX11_goDay 10 42 = true ∧ ck3 cX11_goDay 11 180 96 = true := by decide +kernel
theorem dX11_goDay_0 : decode cX11_goDay 0 = .ok (.iconst 0, 1) := dk_3 dg_cX11_goDay_574.1
theorem dX11_goDay_1 : decode cX11_goDay 1 = .ok (.istore_n 2, 1) := dk_61 dg_cX11_goDay_574.2.1
theorem dX11_goDay_2 : decode cX11_goDay 2 = .ok (.iload_n 2, 1) := dk_28 dg_cX11_goDay_574.2.2.1
theorem dX11_goDay_3 : decode cX11_goDay 3 = .ok (.aload_n 0, 1) := dk_42 dg_cX11_goDay_574.2.2.2.1
theorem dX11_goDay_4 : decode cX11_goDay 4 = .ok (.getfield 387, 3) := dk_180 dg_cX11_goDay_574.2.2.2.2.1
theorem dX11_goDay_7 : decode cX11_goDay 7 = .ok (.if_icmp .ge 33, 3) := dk_162 dg_cX11_goDay_574.2.2.2.2.2.1
theorem dX11_goDay_10 : decode cX11_goDay 10 = .ok (.aload_n 0, 1) := dk_42 dg_cX11_goDay_574.2.2.2.2.2.2.1
theorem dX11_goDay_11 : decode cX11_goDay 11 = .ok (.getfield 96, 3) := dk_180 dg_cX11_goDay_574.2.2.2.2.2.2.2
theorem dg_cX11_goDay_575 : ck1 cX11_goDay 14 28 = true ∧ ck2s cX11_goDay 15 16 99 = true ∧ ck1 cX11_goDay 17 42 = true ∧ ck3 cX11_goDay 18 180 96 = true ∧ ck1 cX11_goDay 21 28 = true ∧ ck1 cX11_goDay 22 46 = true ∧ ck1 cX11_goDay 23 42 = true ∧ ck3 cX11_goDay 24 180 69 = true := by decide +kernel
theorem dX11_goDay_14 : decode cX11_goDay 14 = .ok (.iload_n 2, 1) := dk_28 dg_cX11_goDay_575.1
theorem dX11_goDay_15 : decode cX11_goDay 15 = .ok (.bipush 99, 2) := dk_16 dg_cX11_goDay_575.2.1
theorem dX11_goDay_17 : decode cX11_goDay 17 = .ok (.aload_n 0, 1) := dk_42 dg_cX11_goDay_575.2.2.1
theorem dX11_goDay_18 : decode cX11_goDay 18 = .ok (.getfield 96, 3) := dk_180 dg_cX11_goDay_575.2.2.2.1
theorem dX11_goDay_21 : decode cX11_goDay 21 = .ok (.iload_n 2, 1) := dk_28 dg_cX11_goDay_575.2.2.2.2.1
theorem dX11_goDay_22 : decode cX11_goDay 22 = .ok (.iaload, 1) := dk_46 dg_cX11_goDay_575.2.2.2.2.2.1
theorem dX11_goDay_23 : decode cX11_goDay 23 = .ok (.aload_n 0, 1) := dk_42 dg_cX11_goDay_575.2.2.2.2.2.2.1
theorem dX11_goDay_24 : decode cX11_goDay 24 = .ok (.getfield 69, 3) := dk_180 dg_cX11_goDay_575.2.2.2.2.2.2.2
theorem dg_cX11_goDay_576 : ck1 cX11_goDay 27 28 = true ∧ ck1 cX11_goDay 28 46 = true ∧ ck1 cX11_goDay 29 96 = true ∧ ck3 cX11_goDay 30 184 431 = true ∧ ck1 cX11_goDay 33 79 = true ∧ ck3i cX11_goDay 34 132 2 1 = true ∧ ck3s cX11_goDay 37 167 (-35) = true ∧ ck1 cX11_goDay 40 3 = true := by decide +kernel
theorem dX11_goDay_27 : decode cX11_goDay 27 = .ok (.iload_n 2, 1) := dk_28 dg_cX11_goDay_576.1
theorem dX11_goDay_28 : decode cX11_goDay 28 = .ok (.iaload, 1) := dk_46 dg_cX11_goDay_576.2.1
theorem dX11_goDay_29 : decode cX11_goDay 29 = .ok (.iadd, 1) := dk_96 dg_cX11_goDay_576.2.2.1
theorem dX11_goDay_30 : decode cX11_goDay 30 = .ok (.invokestatic 431, 3) := dk_184 dg_cX11_goDay_576.2.2.2.1
theorem dX11_goDay_33 : decode cX11_goDay 33 = .ok (.iastore, 1) := dk_79 dg_cX11_goDay_576.2.2.2.2.1
theorem dX11_goDay_34 : decode cX11_goDay 34 = .ok (.iinc 2 1, 3) := dk_132 dg_cX11_goDay_576.2.2.2.2.2.1
theorem dX11_goDay_37 : decode cX11_goDay 37 = .ok (.goto (-35), 3) := dk_167 dg_cX11_goDay_576.2.2.2.2.2.2.1
theorem dX11_goDay_40 : decode cX11_goDay 40 = .ok (.iconst 0, 1) := dk_3 dg_cX11_goDay_576.2.2.2.2.2.2.2
theorem dg_cX11_goDay_577 : ck1 cX11_goDay 41 61 = true ∧ ck1 cX11_goDay 42 28 = true ∧ ck1 cX11_goDay 43 42 = true ∧ ck3 cX11_goDay 44 180 390 = true ∧ ck3s cX11_goDay 47 162 99 = true ∧ ck1 cX11_goDay 50 42 = true ∧ ck1 cX11_goDay 51 28 = true ∧ ck3 cX11_goDay 52 182 434 = true := by decide +kernel
theorem dX11_goDay_41 : decode cX11_goDay 41 = .ok (.istore_n 2, 1) := dk_61 dg_cX11_goDay_577.1
theorem dX11_goDay_42 : decode cX11_goDay 42 = .ok (.iload_n 2, 1) := dk_28 dg_cX11_goDay_577.2.1
theorem dX11_goDay_43 : decode cX11_goDay 43 = .ok (.aload_n 0, 1) := dk_42 dg_cX11_goDay_577.2.2.1
theorem dX11_goDay_44 : decode cX11_goDay 44 = .ok (.getfield 390, 3) := dk_180 dg_cX11_goDay_577.2.2.2.1
theorem dX11_goDay_47 : decode cX11_goDay 47 = .ok (.if_icmp .ge 99, 3) := dk_162 dg_cX11_goDay_577.2.2.2.2.1
theorem dX11_goDay_50 : decode cX11_goDay 50 = .ok (.aload_n 0, 1) := dk_42 dg_cX11_goDay_577.2.2.2.2.2.1
theorem dX11_goDay_51 : decode cX11_goDay 51 = .ok (.iload_n 2, 1) := dk_28 dg_cX11_goDay_577.2.2.2.2.2.2.1
theorem dX11_goDay_52 : decode cX11_goDay 52 = .ok (.invokevirtual 434, 3) := dk_182 dg_cX11_goDay_577.2.2.2.2.2.2.2
theorem dg_cX11_goDay_578 : ck3s cX11_goDay 55 156 6 = true ∧ ck3s cX11_goDay 58 167 82 = true ∧ ck1 cX11_goDay 61 42 = true ∧ ck3 cX11_goDay 62 180 96 = true := by decide +kernel
theorem dX11_goDay_55 : decode cX11_goDay 55 = .ok (.ifCond .ge 6, 3) := dk_156 dg_cX11_goDay_578.1
theorem dX11_goDay_58 : decode cX11_goDay 58 = .ok (.goto 82, 3) := dk_167 dg_cX11_goDay_578.2.1
theorem dX11_goDay_61 : decode cX11_goDay 61 = .ok (.aload_n 0, 1) := dk_42 dg_cX11_goDay_578.2.2.1
theorem dX11_goDay_62 : decode cX11_goDay 62 = .ok (.getfield 96, 3) := dk_180 dg_cX11_goDay_578.2.2.2
def dS_cX11_goDay_3 : List UInt8 := 16 :: 6 :: 29 :: 96 :: 2 :: 79 :: 132 :: 3 :: 1 :: 167 :: 255 :: 226 :: 28 :: 172 :: []
def dS_cX11_goDay_2 : List UInt8 := 28 :: 96 :: 46 :: 27 :: 184 :: 1 :: 54 :: 100 :: 184 :: 1 :: 181 :: 79 :: 132 :: 2 :: 1 :: 167 :: 255 :: 155 :: 42 :: 180 :: 0 :: 96 :: 16 :: 37 :: 92 :: 46 :: 4 :: 96 :: 79 :: 42 :: 182 :: 1 :: 184 :: 42 :: 182 :: 1 :: 187 :: 2 :: 130 :: 126 :: 61 :: 3 :: 62 :: 29 :: 42 :: 180 :: 1 :: 131 :: 162 :: 0 :: 28 :: 28 :: 29 :: 122 :: 4 :: 126 :: 4 :: 160 :: 0 :: 13 :: 42 :: 180 :: 0 :: 96 :: dS_cX11_goDay_3
def dS_cX11_goDay_1 : List UInt8 := 96 :: 16 :: 30 :: 28 :: 96 :: 16 :: 99 :: 42 :: 180 :: 0 :: 96 :: 16 :: 30 :: 28 :: 96 :: 46 :: 4 :: 96 :: 184 :: 1 :: 175 :: 79 :: 42 :: 180 :: 0 :: 96 :: 16 :: 12 :: 28 :: 96 :: 3 :: 42 :: 180 :: 0 :: 96 :: 16 :: 12 :: 28 :: 96 :: 46 :: 27 :: 184 :: 1 :: 54 :: 100 :: 184 :: 1 :: 181 :: 79 :: 42 :: 180 :: 0 :: 96 :: 16 :: 18 :: 28 :: 96 :: 3 :: 42 :: 180 :: 0 :: 96 :: 16 :: 18 :: dS_cX11_goDay_2
def dS_cX11_goDay_0 : List UInt8 := 3 :: 61 :: 28 :: 42 :: 180 :: 1 :: 131 :: 162 :: 0 :: 33 :: 42 :: 180 :: 0 :: 96 :: 28 :: 16 :: 99 :: 42 :: 180 :: 0 :: 96 :: 28 :: 46 :: 42 :: 180 :: 0 :: 69 :: 28 :: 46 :: 96 :: 184 :: 1 :: 175 :: 79 :: 132 :: 2 :: 1 :: 167 :: 255 :: 221 :: 3 :: 61 :: 28 :: 42 :: 180 :: 1 :: 134 :: 162 :: 0 :: 99 :: 42 :: 28 :: 182 :: 1 :: 178 :: 156 :: 0 :: 6 :: 167 :: 0 :: 82 :: 42 :: 180 :: 0 :: dS_cX11_goDay_1
theorem dT_cX11_goDay_0 : cX11_goDay.data.toList.drop 0 = dS_cX11_goDay_0 := by decide +kernel
theorem dT_cX11_goDay_1 : cX11_goDay.data.toList.drop 64 = dS_cX11_goDay_1 := ck_nx dT_cX11_goDay_0 (by decide +kernel) rfl
theorem dT_cX11_goDay_2 : cX11_goDay.data.toList.drop 128 = dS_cX11_goDay_2 := ck_nx dT_cX11_goDay_1 (by decide +kernel) rfl
theorem dT_cX11_goDay_3 : cX11_goDay.data.toList.drop 192 = dS_cX11_goDay_3 := ck_nx dT_cX11_goDay_2 (by decide +kernel) rfl
theorem dg_cX11_goDay_579 : ck2sL dS_cX11_goDay_1 1 16 30 = true ∧ ck1L dS_cX11_goDay_1 3 28 = true ∧ ck1L dS_cX11_goDay_1 4 96 = true ∧ ck2sL dS_cX11_goDay_1 5 16 99 = true ∧ ck1L dS_cX11_goDay_1 7 42 = true ∧ ck3L dS_cX11_goDay_1 8 180 96 = true ∧ ck2sL dS_cX11_goDay_1 11 16 30 = true ∧ ck1L dS_cX11_goDay_1 13 28 = true := by decide +kernel
theorem dX11_goDay_65 : decode cX11_goDay 65 = .ok (.bipush 30, 2) := dk_16 (ck2s_s (r := 1) dT_cX11_goDay_1 rfl dg_cX11_goDay_579.1)
theorem dX11_goDay_67 : decode cX11_goDay 67 = .ok (.iload_n 2, 1) := dk_28 (ck1_s (r := 3) dT_cX11_goDay_1 rfl dg_cX11_goDay_579.2.1)
theorem dX11_goDay_68 : decode cX11_goDay 68 = .ok (.iadd, 1) := dk_96 (ck1_s (r := 4) dT_cX11_goDay_1 rfl dg_cX11_goDay_579.2.2.1)
theorem dX11_goDay_69 : decode cX11_goDay 69 = .ok (.bipush 99, 2) := dk_16 (ck2s_s (r := 5) dT_cX11_goDay_1 rfl dg_cX11_goDay_579.2.2.2.1)
theorem dX11_goDay_71 : decode cX11_goDay 71 = .ok (.aload_n 0, 1) := dk_42 (ck1_s (r := 7) dT_cX11_goDay_1 rfl dg_cX11_goDay_579.2.2.2.2.1)
theorem dX11_goDay_72 : decode cX11_goDay 72 = .ok (.getfield 96, 3) := dk_180 (ck3_s (r := 8) dT_cX11_goDay_1 rfl dg_cX11_goDay_579.2.2.2.2.2.1)
theorem dX11_goDay_75 : decode cX11_goDay 75 = .ok (.bipush 30, 2) := dk_16 (ck2s_s (r := 11) dT_cX11_goDay_1 rfl dg_cX11_goDay_579.2.2.2.2.2.2.1)
theorem dX11_goDay_77 : decode cX11_goDay 77 = .ok (.iload_n 2, 1) := dk_28 (ck1_s (r := 13) dT_cX11_goDay_1 rfl dg_cX11_goDay_579.2.2.2.2.2.2.2)
theorem dg_cX11_goDay_580 : ck1L dS_cX11_goDay_1 14 96 = true ∧ ck1L dS_cX11_goDay_1 15 46 = true ∧ ck1L dS_cX11_goDay_1 16 4 = true ∧ ck1L dS_cX11_goDay_1 17 96 = true ∧ ck3L dS_cX11_goDay_1 18 184 431 = true ∧ ck1L dS_cX11_goDay_1 21 79 = true ∧ ck1L dS_cX11_goDay_1 22 42 = true ∧ ck3L dS_cX11_goDay_1 23 180 96 = true := by decide +kernel
theorem dX11_goDay_78 : decode cX11_goDay 78 = .ok (.iadd, 1) := dk_96 (ck1_s (r := 14) dT_cX11_goDay_1 rfl dg_cX11_goDay_580.1)
theorem dX11_goDay_79 : decode cX11_goDay 79 = .ok (.iaload, 1) := dk_46 (ck1_s (r := 15) dT_cX11_goDay_1 rfl dg_cX11_goDay_580.2.1)
theorem dX11_goDay_80 : decode cX11_goDay 80 = .ok (.iconst 1, 1) := dk_4 (ck1_s (r := 16) dT_cX11_goDay_1 rfl dg_cX11_goDay_580.2.2.1)
theorem dX11_goDay_81 : decode cX11_goDay 81 = .ok (.iadd, 1) := dk_96 (ck1_s (r := 17) dT_cX11_goDay_1 rfl dg_cX11_goDay_580.2.2.2.1)
theorem dX11_goDay_82 : decode cX11_goDay 82 = .ok (.invokestatic 431, 3) := dk_184 (ck3_s (r := 18) dT_cX11_goDay_1 rfl dg_cX11_goDay_580.2.2.2.2.1)
theorem dX11_goDay_85 : decode cX11_goDay 85 = .ok (.iastore, 1) := dk_79 (ck1_s (r := 21) dT_cX11_goDay_1 rfl dg_cX11_goDay_580.2.2.2.2.2.1)
theorem dX11_goDay_86 : decode cX11_goDay 86 = .ok (.aload_n 0, 1) := dk_42 (ck1_s (r := 22) dT_cX11_goDay_1 rfl dg_cX11_goDay_580.2.2.2.2.2.2.1)
theorem dX11_goDay_87 : decode cX11_goDay 87 = .ok (.getfield 96, 3) := dk_180 (ck3_s (r := 23) dT_cX11_goDay_1 rfl dg_cX11_goDay_580.2.2.2.2.2.2.2)
theorem dg_cX11_goDay_581 : ck2sL dS_cX11_goDay_1 26 16 12 = true ∧ ck1L dS_cX11_goDay_1 28 28 = true ∧ ck1L dS_cX11_goDay_1 29 96 = true ∧ ck1L dS_cX11_goDay_1 30 3 = true ∧ ck1L dS_cX11_goDay_1 31 42 = true ∧ ck3L dS_cX11_goDay_1 32 180 96 = true ∧ ck2sL dS_cX11_goDay_1 35 16 12 = true ∧ ck1L dS_cX11_goDay_1 37 28 = true := by decide +kernel
theorem dX11_goDay_90 : decode cX11_goDay 90 = .ok (.bipush 12, 2) := dk_16 (ck2s_s (r := 26) dT_cX11_goDay_1 rfl dg_cX11_goDay_581.1)
theorem dX11_goDay_92 : decode cX11_goDay 92 = .ok (.iload_n 2, 1) := dk_28 (ck1_s (r := 28) dT_cX11_goDay_1 rfl dg_cX11_goDay_581.2.1)
theorem dX11_goDay_93 : decode cX11_goDay 93 = .ok (.iadd, 1) := dk_96 (ck1_s (r := 29) dT_cX11_goDay_1 rfl dg_cX11_goDay_581.2.2.1)
theorem dX11_goDay_94 : decode cX11_goDay 94 = .ok (.iconst 0, 1) := dk_3 (ck1_s (r := 30) dT_cX11_goDay_1 rfl dg_cX11_goDay_581.2.2.2.1)
theorem dX11_goDay_95 : decode cX11_goDay 95 = .ok (.aload_n 0, 1) := dk_42 (ck1_s (r := 31) dT_cX11_goDay_1 rfl dg_cX11_goDay_581.2.2.2.2.1)
theorem dX11_goDay_96 : decode cX11_goDay 96 = .ok (.getfield 96, 3) := dk_180 (ck3_s (r := 32) dT_cX11_goDay_1 rfl dg_cX11_goDay_581.2.2.2.2.2.1)
theorem dX11_goDay_99 : decode cX11_goDay 99 = .ok (.bipush 12, 2) := dk_16 (ck2s_s (r := 35) dT_cX11_goDay_1 rfl dg_cX11_goDay_581.2.2.2.2.2.2.1)
theorem dX11_goDay_101 : decode cX11_goDay 101 = .ok (.iload_n 2, 1) := dk_28 (ck1_s (r := 37) dT_cX11_goDay_1 rfl dg_cX11_goDay_581.2.2.2.2.2.2.2)
theorem dg_cX11_goDay_582 : ck1L dS_cX11_goDay_1 38 96 = true ∧ ck1L dS_cX11_goDay_1 39 46 = true ∧ ck1L dS_cX11_goDay_1 40 27 = true ∧ ck3L dS_cX11_goDay_1 41 184 310 = true ∧ ck1L dS_cX11_goDay_1 44 100 = true ∧ ck3L dS_cX11_goDay_1 45 184 437 = true ∧ ck1L dS_cX11_goDay_1 48 79 = true ∧ ck1L dS_cX11_goDay_1 49 42 = true := by decide +kernel
theorem dX11_goDay_102 : decode cX11_goDay 102 = .ok (.iadd, 1) := dk_96 (ck1_s (r := 38) dT_cX11_goDay_1 rfl dg_cX11_goDay_582.1)
theorem dX11_goDay_103 : decode cX11_goDay 103 = .ok (.iaload, 1) := dk_46 (ck1_s (r := 39) dT_cX11_goDay_1 rfl dg_cX11_goDay_582.2.1)
theorem dX11_goDay_104 : decode cX11_goDay 104 = .ok (.iload_n 1, 1) := dk_27 (ck1_s (r := 40) dT_cX11_goDay_1 rfl dg_cX11_goDay_582.2.2.1)
theorem dX11_goDay_105 : decode cX11_goDay 105 = .ok (.invokestatic 310, 3) := dk_184 (ck3_s (r := 41) dT_cX11_goDay_1 rfl dg_cX11_goDay_582.2.2.2.1)
theorem dX11_goDay_108 : decode cX11_goDay 108 = .ok (.isub, 1) := dk_100 (ck1_s (r := 44) dT_cX11_goDay_1 rfl dg_cX11_goDay_582.2.2.2.2.1)
theorem dX11_goDay_109 : decode cX11_goDay 109 = .ok (.invokestatic 437, 3) := dk_184 (ck3_s (r := 45) dT_cX11_goDay_1 rfl dg_cX11_goDay_582.2.2.2.2.2.1)
theorem dX11_goDay_112 : decode cX11_goDay 112 = .ok (.iastore, 1) := dk_79 (ck1_s (r := 48) dT_cX11_goDay_1 rfl dg_cX11_goDay_582.2.2.2.2.2.2.1)
theorem dX11_goDay_113 : decode cX11_goDay 113 = .ok (.aload_n 0, 1) := dk_42 (ck1_s (r := 49) dT_cX11_goDay_1 rfl dg_cX11_goDay_582.2.2.2.2.2.2.2)
theorem dg_cX11_goDay_583 : ck3L dS_cX11_goDay_1 50 180 96 = true ∧ ck2sL dS_cX11_goDay_1 53 16 18 = true ∧ ck1L dS_cX11_goDay_1 55 28 = true ∧ ck1L dS_cX11_goDay_1 56 96 = true ∧ ck1L dS_cX11_goDay_1 57 3 = true ∧ ck1L dS_cX11_goDay_1 58 42 = true ∧ ck3L dS_cX11_goDay_1 59 180 96 = true ∧ ck2sL dS_cX11_goDay_1 62 16 18 = true := by decide +kernel
theorem dX11_goDay_114 : decode cX11_goDay 114 = .ok (.getfield 96, 3) := dk_180 (ck3_s (r := 50) dT_cX11_goDay_1 rfl dg_cX11_goDay_583.1)
theorem dX11_goDay_117 : decode cX11_goDay 117 = .ok (.bipush 18, 2) := dk_16 (ck2s_s (r := 53) dT_cX11_goDay_1 rfl dg_cX11_goDay_583.2.1)
theorem dX11_goDay_119 : decode cX11_goDay 119 = .ok (.iload_n 2, 1) := dk_28 (ck1_s (r := 55) dT_cX11_goDay_1 rfl dg_cX11_goDay_583.2.2.1)
theorem dX11_goDay_120 : decode cX11_goDay 120 = .ok (.iadd, 1) := dk_96 (ck1_s (r := 56) dT_cX11_goDay_1 rfl dg_cX11_goDay_583.2.2.2.1)
theorem dX11_goDay_121 : decode cX11_goDay 121 = .ok (.iconst 0, 1) := dk_3 (ck1_s (r := 57) dT_cX11_goDay_1 rfl dg_cX11_goDay_583.2.2.2.2.1)
theorem dX11_goDay_122 : decode cX11_goDay 122 = .ok (.aload_n 0, 1) := dk_42 (ck1_s (r := 58) dT_cX11_goDay_1 rfl dg_cX11_goDay_583.2.2.2.2.2.1)
theorem dX11_goDay_123 : decode cX11_goDay 123 = .ok (.getfield 96, 3) := dk_180 (ck3_s (r := 59) dT_cX11_goDay_1 rfl dg_cX11_goDay_583.2.2.2.2.2.2.1)
theorem dX11_goDay_126 : decode cX11_goDay 126 = .ok (.bipush 18, 2) := dk_16 (ck2s_s (r := 62) dT_cX11_goDay_1 rfl dg_cX11_goDay_583.2.2.2.2.2.2.2)
theorem dg_cX11_goDay_584 : ck1L dS_cX11_goDay_2 0 28 = true ∧ ck1L dS_cX11_goDay_2 1 96 = true ∧ ck1L dS_cX11_goDay_2 2 46 = true ∧ ck1L dS_cX11_goDay_2 3 27 = true ∧ ck3L dS_cX11_goDay_2 4 184 310 = true ∧ ck1L dS_cX11_goDay_2 7 100 = true ∧ ck3L dS_cX11_goDay_2 8 184 437 = true ∧ ck1L dS_cX11_goDay_2 11 79 = true := by decide +kernel
theorem dX11_goDay_128 : decode cX11_goDay 128 = .ok (.iload_n 2, 1) := dk_28 (ck1_s (r := 0) dT_cX11_goDay_2 rfl dg_cX11_goDay_584.1)
theorem dX11_goDay_129 : decode cX11_goDay 129 = .ok (.iadd, 1) := dk_96 (ck1_s (r := 1) dT_cX11_goDay_2 rfl dg_cX11_goDay_584.2.1)
theorem dX11_goDay_130 : decode cX11_goDay 130 = .ok (.iaload, 1) := dk_46 (ck1_s (r := 2) dT_cX11_goDay_2 rfl dg_cX11_goDay_584.2.2.1)
theorem dX11_goDay_131 : decode cX11_goDay 131 = .ok (.iload_n 1, 1) := dk_27 (ck1_s (r := 3) dT_cX11_goDay_2 rfl dg_cX11_goDay_584.2.2.2.1)
theorem dX11_goDay_132 : decode cX11_goDay 132 = .ok (.invokestatic 310, 3) := dk_184 (ck3_s (r := 4) dT_cX11_goDay_2 rfl dg_cX11_goDay_584.2.2.2.2.1)
theorem dX11_goDay_135 : decode cX11_goDay 135 = .ok (.isub, 1) := dk_100 (ck1_s (r := 7) dT_cX11_goDay_2 rfl dg_cX11_goDay_584.2.2.2.2.2.1)
theorem dX11_goDay_136 : decode cX11_goDay 136 = .ok (.invokestatic 437, 3) := dk_184 (ck3_s (r := 8) dT_cX11_goDay_2 rfl dg_cX11_goDay_584.2.2.2.2.2.2.1)
theorem dX11_goDay_139 : decode cX11_goDay 139 = .ok (.iastore, 1) := dk_79 (ck1_s (r := 11) dT_cX11_goDay_2 rfl dg_cX11_goDay_584.2.2.2.2.2.2.2)
theorem dg_cX11_goDay_585 : ck3iL dS_cX11_goDay_2 12 132 2 1 = true ∧ ck3sL dS_cX11_goDay_2 15 167 (-101) = true ∧ ck1L dS_cX11_goDay_2 18 42 = true ∧ ck3L dS_cX11_goDay_2 19 180 96 = true ∧ ck2sL dS_cX11_goDay_2 22 16 37 = true ∧ ck1L dS_cX11_goDay_2 24 92 = true ∧ ck1L dS_cX11_goDay_2 25 46 = true ∧ ck1L dS_cX11_goDay_2 26 4 = true := by decide +kernel
theorem dX11_goDay_140 : decode cX11_goDay 140 = .ok (.iinc 2 1, 3) := dk_132 (ck3i_s (r := 12) dT_cX11_goDay_2 rfl dg_cX11_goDay_585.1)
theorem dX11_goDay_143 : decode cX11_goDay 143 = .ok (.goto (-101), 3) := dk_167 (ck3s_s (r := 15) dT_cX11_goDay_2 rfl dg_cX11_goDay_585.2.1)
theorem dX11_goDay_146 : decode cX11_goDay 146 = .ok (.aload_n 0, 1) := dk_42 (ck1_s (r := 18) dT_cX11_goDay_2 rfl dg_cX11_goDay_585.2.2.1)
theorem dX11_goDay_147 : decode cX11_goDay 147 = .ok (.getfield 96, 3) := dk_180 (ck3_s (r := 19) dT_cX11_goDay_2 rfl dg_cX11_goDay_585.2.2.2.1)
theorem dX11_goDay_150 : decode cX11_goDay 150 = .ok (.bipush 37, 2) := dk_16 (ck2s_s (r := 22) dT_cX11_goDay_2 rfl dg_cX11_goDay_585.2.2.2.2.1)
theorem dX11_goDay_152 : decode cX11_goDay 152 = .ok (.dup2, 1) := dk_92 (ck1_s (r := 24) dT_cX11_goDay_2 rfl dg_cX11_goDay_585.2.2.2.2.2.1)
theorem dX11_goDay_153 : decode cX11_goDay 153 = .ok (.iaload, 1) := dk_46 (ck1_s (r := 25) dT_cX11_goDay_2 rfl dg_cX11_goDay_585.2.2.2.2.2.2.1)
theorem dX11_goDay_154 : decode cX11_goDay 154 = .ok (.iconst 1, 1) := dk_4 (ck1_s (r := 26) dT_cX11_goDay_2 rfl dg_cX11_goDay_585.2.2.2.2.2.2.2)
theorem dg_cX11_goDay_586 : ck1L dS_cX11_goDay_2 27 96 = true ∧ ck1L dS_cX11_goDay_2 28 79 = true ∧ ck1L dS_cX11_goDay_2 29 42 = true ∧ ck3L dS_cX11_goDay_2 30 182 440 = true ∧ ck1L dS_cX11_goDay_2 33 42 = true ∧ ck3L dS_cX11_goDay_2 34 182 443 = true ∧ ck1L dS_cX11_goDay_2 37 2 = true ∧ ck1L dS_cX11_goDay_2 38 130 = true := by decide +kernel
theorem dX11_goDay_155 : decode cX11_goDay 155 = .ok (.iadd, 1) := dk_96 (ck1_s (r := 27) dT_cX11_goDay_2 rfl dg_cX11_goDay_586.1)
theorem dX11_goDay_156 : decode cX11_goDay 156 = .ok (.iastore, 1) := dk_79 (ck1_s (r := 28) dT_cX11_goDay_2 rfl dg_cX11_goDay_586.2.1)
theorem dX11_goDay_157 : decode cX11_goDay 157 = .ok (.aload_n 0, 1) := dk_42 (ck1_s (r := 29) dT_cX11_goDay_2 rfl dg_cX11_goDay_586.2.2.1)
theorem dX11_goDay_158 : decode cX11_goDay 158 = .ok (.invokevirtual 440, 3) := dk_182 (ck3_s (r := 30) dT_cX11_goDay_2 rfl dg_cX11_goDay_586.2.2.2.1)
theorem dX11_goDay_161 : decode cX11_goDay 161 = .ok (.aload_n 0, 1) := dk_42 (ck1_s (r := 33) dT_cX11_goDay_2 rfl dg_cX11_goDay_586.2.2.2.2.1)
theorem dX11_goDay_162 : decode cX11_goDay 162 = .ok (.invokevirtual 443, 3) := dk_182 (ck3_s (r := 34) dT_cX11_goDay_2 rfl dg_cX11_goDay_586.2.2.2.2.2.1)
theorem dX11_goDay_165 : decode cX11_goDay 165 = .ok (.iconst (-1), 1) := dk_2 (ck1_s (r := 37) dT_cX11_goDay_2 rfl dg_cX11_goDay_586.2.2.2.2.2.2.1)
theorem dX11_goDay_166 : decode cX11_goDay 166 = .ok (.ixor, 1) := dk_130 (ck1_s (r := 38) dT_cX11_goDay_2 rfl dg_cX11_goDay_586.2.2.2.2.2.2.2)
theorem dg_cX11_goDay_587 : ck1L dS_cX11_goDay_2 39 126 = true ∧ ck1L dS_cX11_goDay_2 40 61 = true ∧ ck1L dS_cX11_goDay_2 41 3 = true ∧ ck1L dS_cX11_goDay_2 42 62 = true ∧ ck1L dS_cX11_goDay_2 43 29 = true ∧ ck1L dS_cX11_goDay_2 44 42 = true ∧ ck3L dS_cX11_goDay_2 45 180 387 = true ∧ ck3sL dS_cX11_goDay_2 48 162 28 = true := by decide +kernel
theorem dX11_goDay_167 : decode cX11_goDay 167 = .ok (.iand, 1) := dk_126 (ck1_s (r := 39) dT_cX11_goDay_2 rfl dg_cX11_goDay_587.1)
theorem dX11_goDay_168 : decode cX11_goDay 168 = .ok (.istore_n 2, 1) := dk_61 (ck1_s (r := 40) dT_cX11_goDay_2 rfl dg_cX11_goDay_587.2.1)
theorem dX11_goDay_169 : decode cX11_goDay 169 = .ok (.iconst 0, 1) := dk_3 (ck1_s (r := 41) dT_cX11_goDay_2 rfl dg_cX11_goDay_587.2.2.1)
theorem dX11_goDay_170 : decode cX11_goDay 170 = .ok (.istore_n 3, 1) := dk_62 (ck1_s (r := 42) dT_cX11_goDay_2 rfl dg_cX11_goDay_587.2.2.2.1)
theorem dX11_goDay_171 : decode cX11_goDay 171 = .ok (.iload_n 3, 1) := dk_29 (ck1_s (r := 43) dT_cX11_goDay_2 rfl dg_cX11_goDay_587.2.2.2.2.1)
theorem dX11_goDay_172 : decode cX11_goDay 172 = .ok (.aload_n 0, 1) := dk_42 (ck1_s (r := 44) dT_cX11_goDay_2 rfl dg_cX11_goDay_587.2.2.2.2.2.1)
theorem dX11_goDay_173 : decode cX11_goDay 173 = .ok (.getfield 387, 3) := dk_180 (ck3_s (r := 45) dT_cX11_goDay_2 rfl dg_cX11_goDay_587.2.2.2.2.2.2.1)
theorem dX11_goDay_176 : decode cX11_goDay 176 = .ok (.if_icmp .ge 28, 3) := dk_162 (ck3s_s (r := 48) dT_cX11_goDay_2 rfl dg_cX11_goDay_587.2.2.2.2.2.2.2)
theorem dg_cX11_goDay_588 : ck1L dS_cX11_goDay_2 51 28 = true ∧ ck1L dS_cX11_goDay_2 52 29 = true ∧ ck1L dS_cX11_goDay_2 53 122 = true ∧ ck1L dS_cX11_goDay_2 54 4 = true ∧ ck1L dS_cX11_goDay_2 55 126 = true ∧ ck1L dS_cX11_goDay_2 56 4 = true ∧ ck3sL dS_cX11_goDay_2 57 160 13 = true ∧ ck1L dS_cX11_goDay_2 60 42 = true := by decide +kernel
theorem dX11_goDay_179 : decode cX11_goDay 179 = .ok (.iload_n 2, 1) := dk_28 (ck1_s (r := 51) dT_cX11_goDay_2 rfl dg_cX11_goDay_588.1)
theorem dX11_goDay_180 : decode cX11_goDay 180 = .ok (.iload_n 3, 1) := dk_29 (ck1_s (r := 52) dT_cX11_goDay_2 rfl dg_cX11_goDay_588.2.1)
theorem dX11_goDay_181 : decode cX11_goDay 181 = .ok (.ishr, 1) := dk_122 (ck1_s (r := 53) dT_cX11_goDay_2 rfl dg_cX11_goDay_588.2.2.1)
theorem dX11_goDay_182 : decode cX11_goDay 182 = .ok (.iconst 1, 1) := dk_4 (ck1_s (r := 54) dT_cX11_goDay_2 rfl dg_cX11_goDay_588.2.2.2.1)
theorem dX11_goDay_183 : decode cX11_goDay 183 = .ok (.iand, 1) := dk_126 (ck1_s (r := 55) dT_cX11_goDay_2 rfl dg_cX11_goDay_588.2.2.2.2.1)
theorem dX11_goDay_184 : decode cX11_goDay 184 = .ok (.iconst 1, 1) := dk_4 (ck1_s (r := 56) dT_cX11_goDay_2 rfl dg_cX11_goDay_588.2.2.2.2.2.1)
theorem dX11_goDay_185 : decode cX11_goDay 185 = .ok (.if_icmp .ne 13, 3) := dk_160 (ck3s_s (r := 57) dT_cX11_goDay_2 rfl dg_cX11_goDay_588.2.2.2.2.2.2.1)
theorem dX11_goDay_188 : decode cX11_goDay 188 = .ok (.aload_n 0, 1) := dk_42 (ck1_s (r := 60) dT_cX11_goDay_2 rfl dg_cX11_goDay_588.2.2.2.2.2.2.2)
theorem dg_cX11_goDay_589 : ck3L dS_cX11_goDay_2 61 180 96 = true ∧ ck2sL dS_cX11_goDay_3 0 16 6 = true ∧ ck1L dS_cX11_goDay_3 2 29 = true ∧ ck1L dS_cX11_goDay_3 3 96 = true ∧ ck1L dS_cX11_goDay_3 4 2 = true ∧ ck1L dS_cX11_goDay_3 5 79 = true ∧ ck3iL dS_cX11_goDay_3 6 132 3 1 = true ∧ ck3sL dS_cX11_goDay_3 9 167 (-30) = true := by decide +kernel
theorem dX11_goDay_189 : decode cX11_goDay 189 = .ok (.getfield 96, 3) := dk_180 (ck3_s (r := 61) dT_cX11_goDay_2 rfl dg_cX11_goDay_589.1)
theorem dX11_goDay_192 : decode cX11_goDay 192 = .ok (.bipush 6, 2) := dk_16 (ck2s_s (r := 0) dT_cX11_goDay_3 rfl dg_cX11_goDay_589.2.1)
theorem dX11_goDay_194 : decode cX11_goDay 194 = .ok (.iload_n 3, 1) := dk_29 (ck1_s (r := 2) dT_cX11_goDay_3 rfl dg_cX11_goDay_589.2.2.1)
theorem dX11_goDay_195 : decode cX11_goDay 195 = .ok (.iadd, 1) := dk_96 (ck1_s (r := 3) dT_cX11_goDay_3 rfl dg_cX11_goDay_589.2.2.2.1)
theorem dX11_goDay_196 : decode cX11_goDay 196 = .ok (.iconst (-1), 1) := dk_2 (ck1_s (r := 4) dT_cX11_goDay_3 rfl dg_cX11_goDay_589.2.2.2.2.1)
theorem dX11_goDay_197 : decode cX11_goDay 197 = .ok (.iastore, 1) := dk_79 (ck1_s (r := 5) dT_cX11_goDay_3 rfl dg_cX11_goDay_589.2.2.2.2.2.1)
theorem dX11_goDay_198 : decode cX11_goDay 198 = .ok (.iinc 3 1, 3) := dk_132 (ck3i_s (r := 6) dT_cX11_goDay_3 rfl dg_cX11_goDay_589.2.2.2.2.2.2.1)
theorem dX11_goDay_201 : decode cX11_goDay 201 = .ok (.goto (-30), 3) := dk_167 (ck3s_s (r := 9) dT_cX11_goDay_3 rfl dg_cX11_goDay_589.2.2.2.2.2.2.2)
theorem dg_cX11_goDay_590 : ck1L dS_cX11_goDay_3 12 28 = true ∧ ck1L dS_cX11_goDay_3 13 172 = true := by decide +kernel
theorem dX11_goDay_204 : decode cX11_goDay 204 = .ok (.iload_n 2, 1) := dk_28 (ck1_s (r := 12) dT_cX11_goDay_3 rfl dg_cX11_goDay_590.1)
theorem dX11_goDay_205 : decode cX11_goDay 205 = .ok (.ireturn, 1) := dk_172 (ck1_s (r := 13) dT_cX11_goDay_3 rfl dg_cX11_goDay_590.2)
theorem dg_cX11_greater_591 : ck1 cX11_greater 0 26 = true ∧ ck1 cX11_greater 1 27 = true ∧ ck3s cX11_greater 2 164 7 = true ∧ ck1 cX11_greater 5 26 = true ∧ ck3s cX11_greater 6 167 4 = true ∧ ck1 cX11_greater 9 27 = true ∧ ck1 cX11_greater 10 172 = true := by decide +kernel
theorem dX11_greater_0 : decode cX11_greater 0 = .ok (.iload_n 0, 1) := dk_26 dg_cX11_greater_591.1
theorem dX11_greater_1 : decode cX11_greater 1 = .ok (.iload_n 1, 1) := dk_27 dg_cX11_greater_591.2.1
theorem dX11_greater_2 : decode cX11_greater 2 = .ok (.if_icmp .le 7, 3) := dk_164 dg_cX11_greater_591.2.2.1
theorem dX11_greater_5 : decode cX11_greater 5 = .ok (.iload_n 0, 1) := dk_26 dg_cX11_greater_591.2.2.2.1
theorem dX11_greater_6 : decode cX11_greater 6 = .ok (.goto 4, 3) := dk_167 dg_cX11_greater_591.2.2.2.2.1
theorem dX11_greater_9 : decode cX11_greater 9 = .ok (.iload_n 1, 1) := dk_27 dg_cX11_greater_591.2.2.2.2.2.1
theorem dX11_greater_10 : decode cX11_greater 10 = .ok (.ireturn, 1) := dk_172 dg_cX11_greater_591.2.2.2.2.2.2
theorem dg_cX11_growths_592 : ck1 cX11_growths 0 42 = true ∧ ck1 cX11_growths 1 27 = true ∧ ck3 cX11_growths 2 182 534 = true ∧ ck1 cX11_growths 5 172 = true := by decide +kernel
theorem dX11_growths_0 : decode cX11_growths 0 = .ok (.aload_n 0, 1) := dk_42 dg_cX11_growths_592.1
theorem dX11_growths_1 : decode cX11_growths 1 = .ok (.iload_n 1, 1) := dk_27 dg_cX11_growths_592.2.1
theorem dX11_growths_2 : decode cX11_growths 2 = .ok (.invokevirtual 534, 3) := dk_182 dg_cX11_growths_592.2.2.1
theorem dX11_growths_5 : decode cX11_growths 5 = .ok (.ireturn, 1) := dk_172 dg_cX11_growths_592.2.2.2
theorem dg_cX11_hasBracket_593 : ck1 cX11_hasBracket 0 3 = true ∧ ck1 cX11_hasBracket 1 60 = true ∧ ck1 cX11_hasBracket 2 3 = true ∧ ck1 cX11_hasBracket 3 61 = true ∧ ck1 cX11_hasBracket 4 28 = true ∧ ck1 cX11_hasBracket 5 42 = true ∧ ck3 cX11_hasBracket 6 180 256 = true ∧ ck3s cX11_hasBracket 9 162 30 = true := by decide +kernel
theorem dX11_hasBracket_0 : decode cX11_hasBracket 0 = .ok (.iconst 0, 1) := dk_3 dg_cX11_hasBracket_593.1
theorem dX11_hasBracket_1 : decode cX11_hasBracket 1 = .ok (.istore_n 1, 1) := dk_60 dg_cX11_hasBracket_593.2.1
theorem dX11_hasBracket_2 : decode cX11_hasBracket 2 = .ok (.iconst 0, 1) := dk_3 dg_cX11_hasBracket_593.2.2.1
theorem dX11_hasBracket_3 : decode cX11_hasBracket 3 = .ok (.istore_n 2, 1) := dk_61 dg_cX11_hasBracket_593.2.2.2.1
theorem dX11_hasBracket_4 : decode cX11_hasBracket 4 = .ok (.iload_n 2, 1) := dk_28 dg_cX11_hasBracket_593.2.2.2.2.1
theorem dX11_hasBracket_5 : decode cX11_hasBracket 5 = .ok (.aload_n 0, 1) := dk_42 dg_cX11_hasBracket_593.2.2.2.2.2.1
theorem dX11_hasBracket_6 : decode cX11_hasBracket 6 = .ok (.getfield 256, 3) := dk_180 dg_cX11_hasBracket_593.2.2.2.2.2.2.1
theorem dX11_hasBracket_9 : decode cX11_hasBracket 9 = .ok (.if_icmp .ge 30, 3) := dk_162 dg_cX11_hasBracket_593.2.2.2.2.2.2.2
theorem dg_cX11_hasBracket_594 : ck1 cX11_hasBracket 12 27 = true ∧ ck3s cX11_hasBracket 13 154 14 = true ∧ ck1 cX11_hasBracket 16 42 = true ∧ ck3 cX11_hasBracket 17 180 33 = true ∧ ck1 cX11_hasBracket 20 28 = true ∧ ck1 cX11_hasBracket 21 46 = true ∧ ck2s cX11_hasBracket 22 16 20 = true ∧ ck3s cX11_hasBracket 24 160 7 = true := by decide +kernel
theorem dX11_hasBracket_12 : decode cX11_hasBracket 12 = .ok (.iload_n 1, 1) := dk_27 dg_cX11_hasBracket_594.1
theorem dX11_hasBracket_13 : decode cX11_hasBracket 13 = .ok (.ifCond .ne 14, 3) := dk_154 dg_cX11_hasBracket_594.2.1
theorem dX11_hasBracket_16 : decode cX11_hasBracket 16 = .ok (.aload_n 0, 1) := dk_42 dg_cX11_hasBracket_594.2.2.1
theorem dX11_hasBracket_17 : decode cX11_hasBracket 17 = .ok (.getfield 33, 3) := dk_180 dg_cX11_hasBracket_594.2.2.2.1
theorem dX11_hasBracket_20 : decode cX11_hasBracket 20 = .ok (.iload_n 2, 1) := dk_28 dg_cX11_hasBracket_594.2.2.2.2.1
theorem dX11_hasBracket_21 : decode cX11_hasBracket 21 = .ok (.iaload, 1) := dk_46 dg_cX11_hasBracket_594.2.2.2.2.2.1
theorem dX11_hasBracket_22 : decode cX11_hasBracket 22 = .ok (.bipush 20, 2) := dk_16 dg_cX11_hasBracket_594.2.2.2.2.2.2.1
theorem dX11_hasBracket_24 : decode cX11_hasBracket 24 = .ok (.if_icmp .ne 7, 3) := dk_160 dg_cX11_hasBracket_594.2.2.2.2.2.2.2
theorem dg_cX11_hasBracket_595 : ck1 cX11_hasBracket 27 4 = true ∧ ck3s cX11_hasBracket 28 167 4 = true ∧ ck1 cX11_hasBracket 31 3 = true ∧ ck1 cX11_hasBracket 32 60 = true ∧ ck3i cX11_hasBracket 33 132 2 1 = true ∧ ck3s cX11_hasBracket 36 167 (-32) = true ∧ ck1 cX11_hasBracket 39 27 = true ∧ ck1 cX11_hasBracket 40 172 = true := by decide +kernel
theorem dX11_hasBracket_27 : decode cX11_hasBracket 27 = .ok (.iconst 1, 1) := dk_4 dg_cX11_hasBracket_595.1
theorem dX11_hasBracket_28 : decode cX11_hasBracket 28 = .ok (.goto 4, 3) := dk_167 dg_cX11_hasBracket_595.2.1
theorem dX11_hasBracket_31 : decode cX11_hasBracket 31 = .ok (.iconst 0, 1) := dk_3 dg_cX11_hasBracket_595.2.2.1
theorem dX11_hasBracket_32 : decode cX11_hasBracket 32 = .ok (.istore_n 1, 1) := dk_60 dg_cX11_hasBracket_595.2.2.2.1
theorem dX11_hasBracket_33 : decode cX11_hasBracket 33 = .ok (.iinc 2 1, 3) := dk_132 dg_cX11_hasBracket_595.2.2.2.2.1
theorem dX11_hasBracket_36 : decode cX11_hasBracket 36 = .ok (.goto (-32), 3) := dk_167 dg_cX11_hasBracket_595.2.2.2.2.2.1
theorem dX11_hasBracket_39 : decode cX11_hasBracket 39 = .ok (.iload_n 1, 1) := dk_27 dg_cX11_hasBracket_595.2.2.2.2.2.2.1
theorem dX11_hasBracket_40 : decode cX11_hasBracket 40 = .ok (.ireturn, 1) := dk_172 dg_cX11_hasBracket_595.2.2.2.2.2.2.2
theorem dg_cX11_hasRelation_596 : ck1 cX11_hasRelation 0 42 = true ∧ ck3 cX11_hasRelation 1 180 256 = true ∧ ck1 cX11_hasRelation 4 4 = true ∧ ck1 cX11_hasRelation 5 100 = true ∧ ck1 cX11_hasRelation 6 60 = true ∧ ck1 cX11_hasRelation 7 27 = true ∧ ck3s cX11_hasRelation 8 155 33 = true ∧ ck1 cX11_hasRelation 11 42 = true := by decide +kernel
theorem dX11_hasRelation_0 : decode cX11_hasRelation 0 = .ok (.aload_n 0, 1) := dk_42 dg_cX11_hasRelation_596.1
theorem dX11_hasRelation_1 : decode cX11_hasRelation 1 = .ok (.getfield 256, 3) := dk_180 dg_cX11_hasRelation_596.2.1
theorem dX11_hasRelation_4 : decode cX11_hasRelation 4 = .ok (.iconst 1, 1) := dk_4 dg_cX11_hasRelation_596.2.2.1
theorem dX11_hasRelation_5 : decode cX11_hasRelation 5 = .ok (.isub, 1) := dk_100 dg_cX11_hasRelation_596.2.2.2.1
theorem dX11_hasRelation_6 : decode cX11_hasRelation 6 = .ok (.istore_n 1, 1) := dk_60 dg_cX11_hasRelation_596.2.2.2.2.1
theorem dX11_hasRelation_7 : decode cX11_hasRelation 7 = .ok (.iload_n 1, 1) := dk_27 dg_cX11_hasRelation_596.2.2.2.2.2.1
theorem dX11_hasRelation_8 : decode cX11_hasRelation 8 = .ok (.ifCond .lt 33, 3) := dk_155 dg_cX11_hasRelation_596.2.2.2.2.2.2.1
theorem dX11_hasRelation_11 : decode cX11_hasRelation 11 = .ok (.aload_n 0, 1) := dk_42 dg_cX11_hasRelation_596.2.2.2.2.2.2.2
theorem dg_cX11_hasRelation_597 : ck3 cX11_hasRelation 12 180 33 = true ∧ ck1 cX11_hasRelation 15 27 = true ∧ ck1 cX11_hasRelation 16 46 = true ∧ ck2s cX11_hasRelation 17 16 20 = true ∧ ck3s cX11_hasRelation 19 159 22 = true ∧ ck1 cX11_hasRelation 22 42 = true ∧ ck3 cX11_hasRelation 23 180 33 = true ∧ ck1 cX11_hasRelation 26 27 = true := by decide +kernel
theorem dX11_hasRelation_12 : decode cX11_hasRelation 12 = .ok (.getfield 33, 3) := dk_180 dg_cX11_hasRelation_597.1
theorem dX11_hasRelation_15 : decode cX11_hasRelation 15 = .ok (.iload_n 1, 1) := dk_27 dg_cX11_hasRelation_597.2.1
theorem dX11_hasRelation_16 : decode cX11_hasRelation 16 = .ok (.iaload, 1) := dk_46 dg_cX11_hasRelation_597.2.2.1
theorem dX11_hasRelation_17 : decode cX11_hasRelation 17 = .ok (.bipush 20, 2) := dk_16 dg_cX11_hasRelation_597.2.2.2.1
theorem dX11_hasRelation_19 : decode cX11_hasRelation 19 = .ok (.if_icmp .eq 22, 3) := dk_159 dg_cX11_hasRelation_597.2.2.2.2.1
theorem dX11_hasRelation_22 : decode cX11_hasRelation 22 = .ok (.aload_n 0, 1) := dk_42 dg_cX11_hasRelation_597.2.2.2.2.2.1
theorem dX11_hasRelation_23 : decode cX11_hasRelation 23 = .ok (.getfield 33, 3) := dk_180 dg_cX11_hasRelation_597.2.2.2.2.2.2.1
theorem dX11_hasRelation_26 : decode cX11_hasRelation 26 = .ok (.iload_n 1, 1) := dk_27 dg_cX11_hasRelation_597.2.2.2.2.2.2.2
theorem dg_cX11_hasRelation_598 : ck1 cX11_hasRelation 27 46 = true ∧ ck3 cX11_hasRelation 28 184 259 = true ∧ ck1 cX11_hasRelation 31 7 = true ∧ ck3s cX11_hasRelation 32 164 9 = true ∧ ck3i cX11_hasRelation 35 132 1 (-1) = true ∧ ck3s cX11_hasRelation 38 167 (-31) = true ∧ ck1 cX11_hasRelation 41 27 = true ∧ ck3s cX11_hasRelation 42 155 31 = true := by decide +kernel
theorem dX11_hasRelation_27 : decode cX11_hasRelation 27 = .ok (.iaload, 1) := dk_46 dg_cX11_hasRelation_598.1
theorem dX11_hasRelation_28 : decode cX11_hasRelation 28 = .ok (.invokestatic 259, 3) := dk_184 dg_cX11_hasRelation_598.2.1
theorem dX11_hasRelation_31 : decode cX11_hasRelation 31 = .ok (.iconst 4, 1) := dk_7 dg_cX11_hasRelation_598.2.2.1
theorem dX11_hasRelation_32 : decode cX11_hasRelation 32 = .ok (.if_icmp .le 9, 3) := dk_164 dg_cX11_hasRelation_598.2.2.2.1
theorem dX11_hasRelation_35 : decode cX11_hasRelation 35 = .ok (.iinc 1 (-1), 3) := dk_132 dg_cX11_hasRelation_598.2.2.2.2.1
theorem dX11_hasRelation_38 : decode cX11_hasRelation 38 = .ok (.goto (-31), 3) := dk_167 dg_cX11_hasRelation_598.2.2.2.2.2.1
theorem dX11_hasRelation_41 : decode cX11_hasRelation 41 = .ok (.iload_n 1, 1) := dk_27 dg_cX11_hasRelation_598.2.2.2.2.2.2.1
theorem dX11_hasRelation_42 : decode cX11_hasRelation 42 = .ok (.ifCond .lt 31, 3) := dk_155 dg_cX11_hasRelation_598.2.2.2.2.2.2.2
theorem dg_cX11_hasRelation_599 : ck1 cX11_hasRelation 45 42 = true ∧ ck3 cX11_hasRelation 46 180 33 = true ∧ ck1 cX11_hasRelation 49 27 = true ∧ ck1 cX11_hasRelation 50 46 = true ∧ ck2s cX11_hasRelation 51 16 20 = true ∧ ck3s cX11_hasRelation 53 159 20 = true ∧ ck1 cX11_hasRelation 56 42 = true ∧ ck3 cX11_hasRelation 57 180 33 = true := by decide +kernel
theorem dX11_hasRelation_45 : decode cX11_hasRelation 45 = .ok (.aload_n 0, 1) := dk_42 dg_cX11_hasRelation_599.1
theorem dX11_hasRelation_46 : decode cX11_hasRelation 46 = .ok (.getfield 33, 3) := dk_180 dg_cX11_hasRelation_599.2.1
theorem dX11_hasRelation_49 : decode cX11_hasRelation 49 = .ok (.iload_n 1, 1) := dk_27 dg_cX11_hasRelation_599.2.2.1
theorem dX11_hasRelation_50 : decode cX11_hasRelation 50 = .ok (.iaload, 1) := dk_46 dg_cX11_hasRelation_599.2.2.2.1
theorem dX11_hasRelation_51 : decode cX11_hasRelation 51 = .ok (.bipush 20, 2) := dk_16 dg_cX11_hasRelation_599.2.2.2.2.1
theorem dX11_hasRelation_53 : decode cX11_hasRelation 53 = .ok (.if_icmp .eq 20, 3) := dk_159 dg_cX11_hasRelation_599.2.2.2.2.2.1
theorem dX11_hasRelation_56 : decode cX11_hasRelation 56 = .ok (.aload_n 0, 1) := dk_42 dg_cX11_hasRelation_599.2.2.2.2.2.2.1
theorem dX11_hasRelation_57 : decode cX11_hasRelation 57 = .ok (.getfield 33, 3) := dk_180 dg_cX11_hasRelation_599.2.2.2.2.2.2.2
theorem dg_cX11_hasRelation_600 : ck1 cX11_hasRelation 60 27 = true ∧ ck1 cX11_hasRelation 61 46 = true ∧ ck3 cX11_hasRelation 62 184 259 = true := by decide +kernel
theorem dX11_hasRelation_60 : decode cX11_hasRelation 60 = .ok (.iload_n 1, 1) := dk_27 dg_cX11_hasRelation_600.1
theorem dX11_hasRelation_61 : decode cX11_hasRelation 61 = .ok (.iaload, 1) := dk_46 dg_cX11_hasRelation_600.2.1
theorem dX11_hasRelation_62 : decode cX11_hasRelation 62 = .ok (.invokestatic 259, 3) := dk_184 dg_cX11_hasRelation_600.2.2
def dS_cX11_hasRelation_1 : List UInt8 := 3 :: 7 :: 160 :: 0 :: 7 :: 4 :: 167 :: 0 :: 4 :: 3 :: 172 :: []
def dS_cX11_hasRelation_0 : List UInt8 := 42 :: 180 :: 1 :: 0 :: 4 :: 100 :: 60 :: 27 :: 155 :: 0 :: 33 :: 42 :: 180 :: 0 :: 33 :: 27 :: 46 :: 16 :: 20 :: 159 :: 0 :: 22 :: 42 :: 180 :: 0 :: 33 :: 27 :: 46 :: 184 :: 1 :: 3 :: 7 :: 164 :: 0 :: 9 :: 132 :: 1 :: 255 :: 167 :: 255 :: 225 :: 27 :: 155 :: 0 :: 31 :: 42 :: 180 :: 0 :: 33 :: 27 :: 46 :: 16 :: 20 :: 159 :: 0 :: 20 :: 42 :: 180 :: 0 :: 33 :: 27 :: 46 :: 184 :: 1 :: dS_cX11_hasRelation_1
theorem dT_cX11_hasRelation_0 : cX11_hasRelation.data.toList.drop 0 = dS_cX11_hasRelation_0 := by decide +kernel
theorem dT_cX11_hasRelation_1 : cX11_hasRelation.data.toList.drop 64 = dS_cX11_hasRelation_1 := ck_nx dT_cX11_hasRelation_0 (by decide +kernel) rfl
theorem dg_cX11_hasRelation_601 : ck1L dS_cX11_hasRelation_1 1 7 = true ∧ ck3sL dS_cX11_hasRelation_1 2 160 7 = true ∧ ck1L dS_cX11_hasRelation_1 5 4 = true ∧ ck3sL dS_cX11_hasRelation_1 6 167 4 = true ∧ ck1L dS_cX11_hasRelation_1 9 3 = true ∧ ck1L dS_cX11_hasRelation_1 10 172 = true := by decide +kernel
theorem dX11_hasRelation_65 : decode cX11_hasRelation 65 = .ok (.iconst 4, 1) := dk_7 (ck1_s (r := 1) dT_cX11_hasRelation_1 rfl dg_cX11_hasRelation_601.1)
theorem dX11_hasRelation_66 : decode cX11_hasRelation 66 = .ok (.if_icmp .ne 7, 3) := dk_160 (ck3s_s (r := 2) dT_cX11_hasRelation_1 rfl dg_cX11_hasRelation_601.2.1)
theorem dX11_hasRelation_69 : decode cX11_hasRelation 69 = .ok (.iconst 1, 1) := dk_4 (ck1_s (r := 5) dT_cX11_hasRelation_1 rfl dg_cX11_hasRelation_601.2.2.1)
theorem dX11_hasRelation_70 : decode cX11_hasRelation 70 = .ok (.goto 4, 3) := dk_167 (ck3s_s (r := 6) dT_cX11_hasRelation_1 rfl dg_cX11_hasRelation_601.2.2.2.1)
theorem dX11_hasRelation_73 : decode cX11_hasRelation 73 = .ok (.iconst 0, 1) := dk_3 (ck1_s (r := 9) dT_cX11_hasRelation_1 rfl dg_cX11_hasRelation_601.2.2.2.2.1)
theorem dX11_hasRelation_74 : decode cX11_hasRelation 74 = .ok (.ireturn, 1) := dk_172 (ck1_s (r := 10) dT_cX11_hasRelation_1 rfl dg_cX11_hasRelation_601.2.2.2.2.2)
theorem dg_cX11_hem_602 : ck1 cX11_hem 0 42 = true ∧ ck1 cX11_hem 1 27 = true ∧ ck3 cX11_hem 2 182 455 = true ∧ ck3s cX11_hem 5 153 20 = true ∧ ck1 cX11_hem 8 28 = true ∧ ck1 cX11_hem 9 4 = true ∧ ck1 cX11_hem 10 42 = true ∧ ck3 cX11_hem 11 180 93 = true := by decide +kernel
theorem dX11_hem_0 : decode cX11_hem 0 = .ok (.aload_n 0, 1) := dk_42 dg_cX11_hem_602.1
theorem dX11_hem_1 : decode cX11_hem 1 = .ok (.iload_n 1, 1) := dk_27 dg_cX11_hem_602.2.1
theorem dX11_hem_2 : decode cX11_hem 2 = .ok (.invokevirtual 455, 3) := dk_182 dg_cX11_hem_602.2.2.1
theorem dX11_hem_5 : decode cX11_hem 5 = .ok (.ifCond .eq 20, 3) := dk_153 dg_cX11_hem_602.2.2.2.1
theorem dX11_hem_8 : decode cX11_hem 8 = .ok (.iload_n 2, 1) := dk_28 dg_cX11_hem_602.2.2.2.2.1
theorem dX11_hem_9 : decode cX11_hem 9 = .ok (.iconst 1, 1) := dk_4 dg_cX11_hem_602.2.2.2.2.2.1
theorem dX11_hem_10 : decode cX11_hem 10 = .ok (.aload_n 0, 1) := dk_42 dg_cX11_hem_602.2.2.2.2.2.2.1
theorem dX11_hem_11 : decode cX11_hem 11 = .ok (.getfield 93, 3) := dk_180 dg_cX11_hem_602.2.2.2.2.2.2.2
theorem dg_cX11_hem_603 : ck2s cX11_hem 14 16 12 = true ∧ ck1 cX11_hem 16 27 = true ∧ ck1 cX11_hem 17 96 = true ∧ ck1 cX11_hem 18 46 = true ∧ ck3 cX11_hem 19 184 417 = true ∧ ck3s cX11_hem 22 154 5 = true ∧ ck1 cX11_hem 25 2 = true ∧ ck1 cX11_hem 26 172 = true := by decide +kernel
theorem dX11_hem_14 : decode cX11_hem 14 = .ok (.bipush 12, 2) := dk_16 dg_cX11_hem_603.1
theorem dX11_hem_16 : decode cX11_hem 16 = .ok (.iload_n 1, 1) := dk_27 dg_cX11_hem_603.2.1
theorem dX11_hem_17 : decode cX11_hem 17 = .ok (.iadd, 1) := dk_96 dg_cX11_hem_603.2.2.1
theorem dX11_hem_18 : decode cX11_hem 18 = .ok (.iaload, 1) := dk_46 dg_cX11_hem_603.2.2.2.1
theorem dX11_hem_19 : decode cX11_hem 19 = .ok (.invokestatic 417, 3) := dk_184 dg_cX11_hem_603.2.2.2.2.1
theorem dX11_hem_22 : decode cX11_hem 22 = .ok (.ifCond .ne 5, 3) := dk_154 dg_cX11_hem_603.2.2.2.2.2.1
theorem dX11_hem_25 : decode cX11_hem 25 = .ok (.iconst (-1), 1) := dk_2 dg_cX11_hem_603.2.2.2.2.2.2.1
theorem dX11_hem_26 : decode cX11_hem 26 = .ok (.ireturn, 1) := dk_172 dg_cX11_hem_603.2.2.2.2.2.2.2
theorem dg_cX11_hem_604 : ck1 cX11_hem 27 42 = true ∧ ck3 cX11_hem 28 182 458 = true ∧ ck1 cX11_hem 31 42 = true ∧ ck3 cX11_hem 32 180 93 = true ∧ ck2s cX11_hem 35 16 12 = true ∧ ck1 cX11_hem 37 27 = true ∧ ck1 cX11_hem 38 96 = true ∧ ck1 cX11_hem 39 92 = true := by decide +kernel
theorem dX11_hem_27 : decode cX11_hem 27 = .ok (.aload_n 0, 1) := dk_42 dg_cX11_hem_604.1
theorem dX11_hem_28 : decode cX11_hem 28 = .ok (.invokevirtual 458, 3) := dk_182 dg_cX11_hem_604.2.1
theorem dX11_hem_31 : decode cX11_hem 31 = .ok (.aload_n 0, 1) := dk_42 dg_cX11_hem_604.2.2.1
theorem dX11_hem_32 : decode cX11_hem 32 = .ok (.getfield 93, 3) := dk_180 dg_cX11_hem_604.2.2.2.1
theorem dX11_hem_35 : decode cX11_hem 35 = .ok (.bipush 12, 2) := dk_16 dg_cX11_hem_604.2.2.2.2.1
theorem dX11_hem_37 : decode cX11_hem 37 = .ok (.iload_n 1, 1) := dk_27 dg_cX11_hem_604.2.2.2.2.2.1
theorem dX11_hem_38 : decode cX11_hem 38 = .ok (.iadd, 1) := dk_96 dg_cX11_hem_604.2.2.2.2.2.2.1
theorem dX11_hem_39 : decode cX11_hem 39 = .ok (.dup2, 1) := dk_92 dg_cX11_hem_604.2.2.2.2.2.2.2
theorem dg_cX11_hem_605 : ck1 cX11_hem 40 46 = true ∧ ck1 cX11_hem 41 28 = true ∧ ck1 cX11_hem 42 100 = true ∧ ck1 cX11_hem 43 79 = true ∧ ck1 cX11_hem 44 42 = true ∧ ck3 cX11_hem 45 180 93 = true ∧ ck2s cX11_hem 48 16 12 = true ∧ ck1 cX11_hem 50 27 = true := by decide +kernel
theorem dX11_hem_40 : decode cX11_hem 40 = .ok (.iaload, 1) := dk_46 dg_cX11_hem_605.1
theorem dX11_hem_41 : decode cX11_hem 41 = .ok (.iload_n 2, 1) := dk_28 dg_cX11_hem_605.2.1
theorem dX11_hem_42 : decode cX11_hem 42 = .ok (.isub, 1) := dk_100 dg_cX11_hem_605.2.2.1
theorem dX11_hem_43 : decode cX11_hem 43 = .ok (.iastore, 1) := dk_79 dg_cX11_hem_605.2.2.2.1
theorem dX11_hem_44 : decode cX11_hem 44 = .ok (.aload_n 0, 1) := dk_42 dg_cX11_hem_605.2.2.2.2.1
theorem dX11_hem_45 : decode cX11_hem 45 = .ok (.getfield 93, 3) := dk_180 dg_cX11_hem_605.2.2.2.2.2.1
theorem dX11_hem_48 : decode cX11_hem 48 = .ok (.bipush 12, 2) := dk_16 dg_cX11_hem_605.2.2.2.2.2.2.1
theorem dX11_hem_50 : decode cX11_hem 50 = .ok (.iload_n 1, 1) := dk_27 dg_cX11_hem_605.2.2.2.2.2.2.2
theorem dg_cX11_hem_606 : ck1 cX11_hem 51 96 = true ∧ ck1 cX11_hem 52 46 = true ∧ ck1 cX11_hem 53 172 = true := by decide +kernel
theorem dX11_hem_51 : decode cX11_hem 51 = .ok (.iadd, 1) := dk_96 dg_cX11_hem_606.1
theorem dX11_hem_52 : decode cX11_hem 52 = .ok (.iaload, 1) := dk_46 dg_cX11_hem_606.2.1
theorem dX11_hem_53 : decode cX11_hem 53 = .ok (.ireturn, 1) := dk_172 dg_cX11_hem_606.2.2
theorem dg_cX11_here_607 : ck1 cX11_here 0 42 = true ∧ ck3 cX11_here 1 180 146 = true ∧ ck1 cX11_here 4 27 = true ∧ ck1 cX11_here 5 96 = true ∧ ck1 cX11_here 6 42 = true ∧ ck3 cX11_here 7 180 149 = true ∧ ck3s cX11_here 10 162 17 = true ∧ ck1 cX11_here 13 42 = true := by decide +kernel
theorem dX11_here_0 : decode cX11_here 0 = .ok (.aload_n 0, 1) := dk_42 dg_cX11_here_607.1
theorem dX11_here_1 : decode cX11_here 1 = .ok (.getfield 146, 3) := dk_180 dg_cX11_here_607.2.1
theorem dX11_here_4 : decode cX11_here 4 = .ok (.iload_n 1, 1) := dk_27 dg_cX11_here_607.2.2.1
theorem dX11_here_5 : decode cX11_here 5 = .ok (.iadd, 1) := dk_96 dg_cX11_here_607.2.2.2.1
theorem dX11_here_6 : decode cX11_here 6 = .ok (.aload_n 0, 1) := dk_42 dg_cX11_here_607.2.2.2.2.1
theorem dX11_here_7 : decode cX11_here 7 = .ok (.getfield 149, 3) := dk_180 dg_cX11_here_607.2.2.2.2.2.1
theorem dX11_here_10 : decode cX11_here 10 = .ok (.if_icmp .ge 17, 3) := dk_162 dg_cX11_here_607.2.2.2.2.2.2.1
theorem dX11_here_13 : decode cX11_here 13 = .ok (.aload_n 0, 1) := dk_42 dg_cX11_here_607.2.2.2.2.2.2.2
theorem dg_cX11_here_608 : ck3 cX11_here 14 180 7 = true ∧ ck1 cX11_here 17 42 = true ∧ ck3 cX11_here 18 180 146 = true ∧ ck1 cX11_here 21 27 = true ∧ ck1 cX11_here 22 96 = true ∧ ck1 cX11_here 23 46 = true ∧ ck3s cX11_here 24 167 4 = true ∧ ck1 cX11_here 27 2 = true := by decide +kernel
theorem dX11_here_14 : decode cX11_here 14 = .ok (.getfield 7, 3) := dk_180 dg_cX11_here_608.1
theorem dX11_here_17 : decode cX11_here 17 = .ok (.aload_n 0, 1) := dk_42 dg_cX11_here_608.2.1
theorem dX11_here_18 : decode cX11_here 18 = .ok (.getfield 146, 3) := dk_180 dg_cX11_here_608.2.2.1
theorem dX11_here_21 : decode cX11_here 21 = .ok (.iload_n 1, 1) := dk_27 dg_cX11_here_608.2.2.2.1
theorem dX11_here_22 : decode cX11_here 22 = .ok (.iadd, 1) := dk_96 dg_cX11_here_608.2.2.2.2.1
theorem dX11_here_23 : decode cX11_here 23 = .ok (.iaload, 1) := dk_46 dg_cX11_here_608.2.2.2.2.2.1
theorem dX11_here_24 : decode cX11_here 24 = .ok (.goto 4, 3) := dk_167 dg_cX11_here_608.2.2.2.2.2.2.1
theorem dX11_here_27 : decode cX11_here 27 = .ok (.iconst (-1), 1) := dk_2 dg_cX11_here_608.2.2.2.2.2.2.2
theorem dg_cX11_here_609 : ck1 cX11_here 28 172 = true := by decide +kernel
theorem dX11_here_28 : decode cX11_here 28 = .ok (.ireturn, 1) := dk_172 dg_cX11_here_609
theorem dg_cX11_illOfRow_610 : ck1 cX11_illOfRow 0 3 = true ∧ ck1 cX11_illOfRow 1 60 = true ∧ ck1 cX11_illOfRow 2 3 = true ∧ ck1 cX11_illOfRow 3 61 = true ∧ ck1 cX11_illOfRow 4 28 = true ∧ ck1 cX11_illOfRow 5 42 = true ∧ ck3 cX11_illOfRow 6 180 387 = true ∧ ck3s cX11_illOfRow 9 162 41 = true := by decide +kernel
theorem dX11_illOfRow_0 : decode cX11_illOfRow 0 = .ok (.iconst 0, 1) := dk_3 dg_cX11_illOfRow_610.1
theorem dX11_illOfRow_1 : decode cX11_illOfRow 1 = .ok (.istore_n 1, 1) := dk_60 dg_cX11_illOfRow_610.2.1
theorem dX11_illOfRow_2 : decode cX11_illOfRow 2 = .ok (.iconst 0, 1) := dk_3 dg_cX11_illOfRow_610.2.2.1
theorem dX11_illOfRow_3 : decode cX11_illOfRow 3 = .ok (.istore_n 2, 1) := dk_61 dg_cX11_illOfRow_610.2.2.2.1
theorem dX11_illOfRow_4 : decode cX11_illOfRow 4 = .ok (.iload_n 2, 1) := dk_28 dg_cX11_illOfRow_610.2.2.2.2.1
theorem dX11_illOfRow_5 : decode cX11_illOfRow 5 = .ok (.aload_n 0, 1) := dk_42 dg_cX11_illOfRow_610.2.2.2.2.2.1
theorem dX11_illOfRow_6 : decode cX11_illOfRow 6 = .ok (.getfield 387, 3) := dk_180 dg_cX11_illOfRow_610.2.2.2.2.2.2.1
theorem dX11_illOfRow_9 : decode cX11_illOfRow 9 = .ok (.if_icmp .ge 41, 3) := dk_162 dg_cX11_illOfRow_610.2.2.2.2.2.2.2
theorem dg_cX11_illOfRow_611 : ck1 cX11_illOfRow 12 27 = true ∧ ck1 cX11_illOfRow 13 42 = true ∧ ck3 cX11_illOfRow 14 180 105 = true ∧ ck1 cX11_illOfRow 17 28 = true ∧ ck1 cX11_illOfRow 18 46 = true ∧ ck3s cX11_illOfRow 19 156 7 = true ∧ ck1 cX11_illOfRow 22 3 = true ∧ ck3s cX11_illOfRow 23 167 19 = true := by decide +kernel
theorem dX11_illOfRow_12 : decode cX11_illOfRow 12 = .ok (.iload_n 1, 1) := dk_27 dg_cX11_illOfRow_611.1
theorem dX11_illOfRow_13 : decode cX11_illOfRow 13 = .ok (.aload_n 0, 1) := dk_42 dg_cX11_illOfRow_611.2.1
theorem dX11_illOfRow_14 : decode cX11_illOfRow 14 = .ok (.getfield 105, 3) := dk_180 dg_cX11_illOfRow_611.2.2.1
theorem dX11_illOfRow_17 : decode cX11_illOfRow 17 = .ok (.iload_n 2, 1) := dk_28 dg_cX11_illOfRow_611.2.2.2.1
theorem dX11_illOfRow_18 : decode cX11_illOfRow 18 = .ok (.iaload, 1) := dk_46 dg_cX11_illOfRow_611.2.2.2.2.1
theorem dX11_illOfRow_19 : decode cX11_illOfRow 19 = .ok (.ifCond .ge 7, 3) := dk_156 dg_cX11_illOfRow_611.2.2.2.2.2.1
theorem dX11_illOfRow_22 : decode cX11_illOfRow 22 = .ok (.iconst 0, 1) := dk_3 dg_cX11_illOfRow_611.2.2.2.2.2.2.1
theorem dX11_illOfRow_23 : decode cX11_illOfRow 23 = .ok (.goto 19, 3) := dk_167 dg_cX11_illOfRow_611.2.2.2.2.2.2.2
theorem dg_cX11_illOfRow_612 : ck1 cX11_illOfRow 26 42 = true ∧ ck3 cX11_illOfRow 27 180 108 = true ∧ ck2s cX11_illOfRow 30 16 6 = true ∧ ck1 cX11_illOfRow 32 28 = true ∧ ck1 cX11_illOfRow 33 104 = true ∧ ck1 cX11_illOfRow 34 42 = true ∧ ck3 cX11_illOfRow 35 180 105 = true ∧ ck1 cX11_illOfRow 38 28 = true := by decide +kernel
theorem dX11_illOfRow_26 : decode cX11_illOfRow 26 = .ok (.aload_n 0, 1) := dk_42 dg_cX11_illOfRow_612.1
theorem dX11_illOfRow_27 : decode cX11_illOfRow 27 = .ok (.getfield 108, 3) := dk_180 dg_cX11_illOfRow_612.2.1
theorem dX11_illOfRow_30 : decode cX11_illOfRow 30 = .ok (.bipush 6, 2) := dk_16 dg_cX11_illOfRow_612.2.2.1
theorem dX11_illOfRow_32 : decode cX11_illOfRow 32 = .ok (.iload_n 2, 1) := dk_28 dg_cX11_illOfRow_612.2.2.2.1
theorem dX11_illOfRow_33 : decode cX11_illOfRow 33 = .ok (.imul, 1) := dk_104 dg_cX11_illOfRow_612.2.2.2.2.1
theorem dX11_illOfRow_34 : decode cX11_illOfRow 34 = .ok (.aload_n 0, 1) := dk_42 dg_cX11_illOfRow_612.2.2.2.2.2.1
theorem dX11_illOfRow_35 : decode cX11_illOfRow 35 = .ok (.getfield 105, 3) := dk_180 dg_cX11_illOfRow_612.2.2.2.2.2.2.1
theorem dX11_illOfRow_38 : decode cX11_illOfRow 38 = .ok (.iload_n 2, 1) := dk_28 dg_cX11_illOfRow_612.2.2.2.2.2.2.2
theorem dg_cX11_illOfRow_613 : ck1 cX11_illOfRow 39 46 = true ∧ ck1 cX11_illOfRow 40 96 = true ∧ ck1 cX11_illOfRow 41 46 = true ∧ ck1 cX11_illOfRow 42 96 = true ∧ ck1 cX11_illOfRow 43 60 = true ∧ ck3i cX11_illOfRow 44 132 2 1 = true ∧ ck3s cX11_illOfRow 47 167 (-43) = true ∧ ck1 cX11_illOfRow 50 27 = true := by decide +kernel
theorem dX11_illOfRow_39 : decode cX11_illOfRow 39 = .ok (.iaload, 1) := dk_46 dg_cX11_illOfRow_613.1
theorem dX11_illOfRow_40 : decode cX11_illOfRow 40 = .ok (.iadd, 1) := dk_96 dg_cX11_illOfRow_613.2.1
theorem dX11_illOfRow_41 : decode cX11_illOfRow 41 = .ok (.iaload, 1) := dk_46 dg_cX11_illOfRow_613.2.2.1
theorem dX11_illOfRow_42 : decode cX11_illOfRow 42 = .ok (.iadd, 1) := dk_96 dg_cX11_illOfRow_613.2.2.2.1
theorem dX11_illOfRow_43 : decode cX11_illOfRow 43 = .ok (.istore_n 1, 1) := dk_60 dg_cX11_illOfRow_613.2.2.2.2.1
theorem dX11_illOfRow_44 : decode cX11_illOfRow 44 = .ok (.iinc 2 1, 3) := dk_132 dg_cX11_illOfRow_613.2.2.2.2.2.1
theorem dX11_illOfRow_47 : decode cX11_illOfRow 47 = .ok (.goto (-43), 3) := dk_167 dg_cX11_illOfRow_613.2.2.2.2.2.2.1
theorem dX11_illOfRow_50 : decode cX11_illOfRow 50 = .ok (.iload_n 1, 1) := dk_27 dg_cX11_illOfRow_613.2.2.2.2.2.2.2
theorem dg_cX11_illOfRow_614 : ck1 cX11_illOfRow 51 172 = true := by decide +kernel
theorem dX11_illOfRow_51 : decode cX11_illOfRow 51 = .ok (.ireturn, 1) := dk_172 dg_cX11_illOfRow_614
theorem dg_cX11_image_615 : ck1 cX11_image 0 27 = true ∧ ck3 cX11_image 1 184 540 = true ∧ ck3s cX11_image 4 154 5 = true ∧ ck1 cX11_image 7 2 = true ∧ ck1 cX11_image 8 172 = true ∧ ck1 cX11_image 9 42 = true ∧ ck3 cX11_image 10 180 133 = true ∧ ck1 cX11_image 13 27 = true := by decide +kernel
theorem dX11_image_0 : decode cX11_image 0 = .ok (.iload_n 1, 1) := dk_27 dg_cX11_image_615.1
theorem dX11_image_1 : decode cX11_image 1 = .ok (.invokestatic 540, 3) := dk_184 dg_cX11_image_615.2.1
theorem dX11_image_4 : decode cX11_image 4 = .ok (.ifCond .ne 5, 3) := dk_154 dg_cX11_image_615.2.2.1
theorem dX11_image_7 : decode cX11_image 7 = .ok (.iconst (-1), 1) := dk_2 dg_cX11_image_615.2.2.2.1
theorem dX11_image_8 : decode cX11_image 8 = .ok (.ireturn, 1) := dk_172 dg_cX11_image_615.2.2.2.2.1
theorem dX11_image_9 : decode cX11_image 9 = .ok (.aload_n 0, 1) := dk_42 dg_cX11_image_615.2.2.2.2.2.1
theorem dX11_image_10 : decode cX11_image 10 = .ok (.getfield 133, 3) := dk_180 dg_cX11_image_615.2.2.2.2.2.2.1
theorem dX11_image_13 : decode cX11_image 13 = .ok (.iload_n 1, 1) := dk_27 dg_cX11_image_615.2.2.2.2.2.2.2
theorem dg_cX11_image_616 : ck1 cX11_image 14 4 = true ∧ ck1 cX11_image 15 84 = true ∧ ck1 cX11_image 16 3 = true ∧ ck1 cX11_image 17 61 = true ∧ ck1 cX11_image 18 28 = true ∧ ck2s cX11_image 19 16 39 = true ∧ ck3s cX11_image 21 162 26 = true ∧ ck1 cX11_image 24 42 = true := by decide +kernel
theorem dX11_image_14 : decode cX11_image 14 = .ok (.iconst 1, 1) := dk_4 dg_cX11_image_616.1
theorem dX11_image_15 : decode cX11_image 15 = .ok (.bastore, 1) := dk_84 dg_cX11_image_616.2.1
theorem dX11_image_16 : decode cX11_image 16 = .ok (.iconst 0, 1) := dk_3 dg_cX11_image_616.2.2.1
theorem dX11_image_17 : decode cX11_image 17 = .ok (.istore_n 2, 1) := dk_61 dg_cX11_image_616.2.2.2.1
theorem dX11_image_18 : decode cX11_image 18 = .ok (.iload_n 2, 1) := dk_28 dg_cX11_image_616.2.2.2.2.1
theorem dX11_image_19 : decode cX11_image 19 = .ok (.bipush 39, 2) := dk_16 dg_cX11_image_616.2.2.2.2.2.1
theorem dX11_image_21 : decode cX11_image 21 = .ok (.if_icmp .ge 26, 3) := dk_162 dg_cX11_image_616.2.2.2.2.2.2.1
theorem dX11_image_24 : decode cX11_image 24 = .ok (.aload_n 0, 1) := dk_42 dg_cX11_image_616.2.2.2.2.2.2.2
theorem dg_cX11_image_617 : ck3 cX11_image 25 180 136 = true ∧ ck2s cX11_image 28 16 39 = true ∧ ck1 cX11_image 30 27 = true ∧ ck1 cX11_image 31 104 = true ∧ ck1 cX11_image 32 28 = true ∧ ck1 cX11_image 33 96 = true ∧ ck1 cX11_image 34 42 = true ∧ ck3 cX11_image 35 180 93 = true := by decide +kernel
theorem dX11_image_25 : decode cX11_image 25 = .ok (.getfield 136, 3) := dk_180 dg_cX11_image_617.1
theorem dX11_image_28 : decode cX11_image 28 = .ok (.bipush 39, 2) := dk_16 dg_cX11_image_617.2.1
theorem dX11_image_30 : decode cX11_image 30 = .ok (.iload_n 1, 1) := dk_27 dg_cX11_image_617.2.2.1
theorem dX11_image_31 : decode cX11_image 31 = .ok (.imul, 1) := dk_104 dg_cX11_image_617.2.2.2.1
theorem dX11_image_32 : decode cX11_image 32 = .ok (.iload_n 2, 1) := dk_28 dg_cX11_image_617.2.2.2.2.1
theorem dX11_image_33 : decode cX11_image 33 = .ok (.iadd, 1) := dk_96 dg_cX11_image_617.2.2.2.2.2.1
theorem dX11_image_34 : decode cX11_image 34 = .ok (.aload_n 0, 1) := dk_42 dg_cX11_image_617.2.2.2.2.2.2.1
theorem dX11_image_35 : decode cX11_image 35 = .ok (.getfield 93, 3) := dk_180 dg_cX11_image_617.2.2.2.2.2.2.2
theorem dg_cX11_image_618 : ck1 cX11_image 38 28 = true ∧ ck1 cX11_image 39 46 = true ∧ ck1 cX11_image 40 79 = true ∧ ck3i cX11_image 41 132 2 1 = true ∧ ck3s cX11_image 44 167 (-26) = true ∧ ck1 cX11_image 47 42 = true ∧ ck3 cX11_image 48 180 93 = true ∧ ck2s cX11_image 51 16 37 = true := by decide +kernel
theorem dX11_image_38 : decode cX11_image 38 = .ok (.iload_n 2, 1) := dk_28 dg_cX11_image_618.1
theorem dX11_image_39 : decode cX11_image 39 = .ok (.iaload, 1) := dk_46 dg_cX11_image_618.2.1
theorem dX11_image_40 : decode cX11_image 40 = .ok (.iastore, 1) := dk_79 dg_cX11_image_618.2.2.1
theorem dX11_image_41 : decode cX11_image 41 = .ok (.iinc 2 1, 3) := dk_132 dg_cX11_image_618.2.2.2.1
theorem dX11_image_44 : decode cX11_image 44 = .ok (.goto (-26), 3) := dk_167 dg_cX11_image_618.2.2.2.2.1
theorem dX11_image_47 : decode cX11_image 47 = .ok (.aload_n 0, 1) := dk_42 dg_cX11_image_618.2.2.2.2.2.1
theorem dX11_image_48 : decode cX11_image 48 = .ok (.getfield 93, 3) := dk_180 dg_cX11_image_618.2.2.2.2.2.2.1
theorem dX11_image_51 : decode cX11_image 51 = .ok (.bipush 37, 2) := dk_16 dg_cX11_image_618.2.2.2.2.2.2.2
theorem dg_cX11_image_619 : ck1 cX11_image 53 46 = true ∧ ck1 cX11_image 54 172 = true := by decide +kernel
theorem dX11_image_53 : decode cX11_image 53 = .ok (.iaload, 1) := dk_46 dg_cX11_image_619.1
theorem dX11_image_54 : decode cX11_image 54 = .ok (.ireturn, 1) := dk_172 dg_cX11_image_619.2
theorem dg_cX11_init_620 : ck1 cX11_init 0 42 = true ∧ ck3 cX11_init 1 183 1 = true ∧ ck1 cX11_init 4 42 = true ∧ ck3s cX11_init 5 17 1600 = true := by decide +kernel
theorem dX11_init_0 : decode cX11_init 0 = .ok (.aload_n 0, 1) := dk_42 dg_cX11_init_620.1
theorem dX11_init_1 : decode cX11_init 1 = .ok (.invokespecial 1, 3) := dk_183 dg_cX11_init_620.2.1
theorem dX11_init_4 : decode cX11_init 4 = .ok (.aload_n 0, 1) := dk_42 dg_cX11_init_620.2.2.1
theorem dX11_init_5 : decode cX11_init 5 = .ok (.sipush 1600, 3) := dk_17 dg_cX11_init_620.2.2.2
theorem dX11_init_8 : decode cX11_init 8 = .ok (.newarray .int, 2) := by decide +kernel
theorem dg_cX11_init_621 : ck3 cX11_init 10 181 7 = true ∧ ck1 cX11_init 13 42 = true ∧ ck1 cX11_init 14 2 = true ∧ ck3 cX11_init 15 181 13 = true ∧ ck1 cX11_init 18 42 = true ∧ ck2s cX11_init 19 16 12 = true := by decide +kernel
theorem dX11_init_10 : decode cX11_init 10 = .ok (.putfield 7, 3) := dk_181 dg_cX11_init_621.1
theorem dX11_init_13 : decode cX11_init 13 = .ok (.aload_n 0, 1) := dk_42 dg_cX11_init_621.2.1
theorem dX11_init_14 : decode cX11_init 14 = .ok (.iconst (-1), 1) := dk_2 dg_cX11_init_621.2.2.1
theorem dX11_init_15 : decode cX11_init 15 = .ok (.putfield 13, 3) := dk_181 dg_cX11_init_621.2.2.2.1
theorem dX11_init_18 : decode cX11_init 18 = .ok (.aload_n 0, 1) := dk_42 dg_cX11_init_621.2.2.2.2.1
theorem dX11_init_19 : decode cX11_init 19 = .ok (.bipush 12, 2) := dk_16 dg_cX11_init_621.2.2.2.2.2
theorem dX11_init_21 : decode cX11_init 21 = .ok (.newarray .long, 2) := by decide +kernel
theorem dg_cX11_init_622 : ck3 cX11_init 23 181 17 = true ∧ ck1 cX11_init 26 42 = true ∧ ck3s cX11_init 27 17 320 = true := by decide +kernel
theorem dX11_init_23 : decode cX11_init 23 = .ok (.putfield 17, 3) := dk_181 dg_cX11_init_622.1
theorem dX11_init_26 : decode cX11_init 26 = .ok (.aload_n 0, 1) := dk_42 dg_cX11_init_622.2.1
theorem dX11_init_27 : decode cX11_init 27 = .ok (.sipush 320, 3) := dk_17 dg_cX11_init_622.2.2
theorem dX11_init_30 : decode cX11_init 30 = .ok (.newarray .int, 2) := by decide +kernel
theorem dg_cX11_init_623 : ck3 cX11_init 32 181 21 = true ∧ ck1 cX11_init 35 42 = true ∧ ck3s cX11_init 36 17 320 = true := by decide +kernel
theorem dX11_init_32 : decode cX11_init 32 = .ok (.putfield 21, 3) := dk_181 dg_cX11_init_623.1
theorem dX11_init_35 : decode cX11_init 35 = .ok (.aload_n 0, 1) := dk_42 dg_cX11_init_623.2.1
theorem dX11_init_36 : decode cX11_init 36 = .ok (.sipush 320, 3) := dk_17 dg_cX11_init_623.2.2
theorem dX11_init_39 : decode cX11_init 39 = .ok (.newarray .int, 2) := by decide +kernel
theorem dg_cX11_init_624 : ck3 cX11_init 41 181 24 = true ∧ ck1 cX11_init 44 42 = true ∧ ck3s cX11_init 45 17 320 = true := by decide +kernel
theorem dX11_init_41 : decode cX11_init 41 = .ok (.putfield 24, 3) := dk_181 dg_cX11_init_624.1
theorem dX11_init_44 : decode cX11_init 44 = .ok (.aload_n 0, 1) := dk_42 dg_cX11_init_624.2.1
theorem dX11_init_45 : decode cX11_init 45 = .ok (.sipush 320, 3) := dk_17 dg_cX11_init_624.2.2
theorem dX11_init_48 : decode cX11_init 48 = .ok (.newarray .int, 2) := by decide +kernel
theorem dg_cX11_init_625 : ck3 cX11_init 50 181 27 = true ∧ ck1 cX11_init 53 42 = true ∧ ck3s cX11_init 54 17 320 = true := by decide +kernel
theorem dX11_init_50 : decode cX11_init 50 = .ok (.putfield 27, 3) := dk_181 dg_cX11_init_625.1
theorem dX11_init_53 : decode cX11_init 53 = .ok (.aload_n 0, 1) := dk_42 dg_cX11_init_625.2.1
theorem dX11_init_54 : decode cX11_init 54 = .ok (.sipush 320, 3) := dk_17 dg_cX11_init_625.2.2
theorem dX11_init_57 : decode cX11_init 57 = .ok (.newarray .int, 2) := by decide +kernel
theorem dg_cX11_init_626 : ck3 cX11_init 59 181 30 = true ∧ ck1 cX11_init 62 42 = true ∧ ck3s cX11_init 63 17 160 = true := by decide +kernel
theorem dX11_init_59 : decode cX11_init 59 = .ok (.putfield 30, 3) := dk_181 dg_cX11_init_626.1
theorem dX11_init_62 : decode cX11_init 62 = .ok (.aload_n 0, 1) := dk_42 dg_cX11_init_626.2.1
theorem dX11_init_63 : decode cX11_init 63 = .ok (.sipush 160, 3) := dk_17 dg_cX11_init_626.2.2
theorem dX11_init_66 : decode cX11_init 66 = .ok (.newarray .int, 2) := by decide +kernel
def dS_cX11_init_5 : List UInt8 := 181 :: 0 :: 130 :: 42 :: 6 :: 188 :: 4 :: 181 :: 0 :: 133 :: 42 :: 16 :: 117 :: 188 :: 10 :: 181 :: 0 :: 136 :: 177 :: []
def dS_cX11_init_4 : List UInt8 := 0 :: 105 :: 42 :: 16 :: 36 :: 188 :: 10 :: 181 :: 0 :: 108 :: 42 :: 16 :: 64 :: 188 :: 10 :: 181 :: 0 :: 111 :: 42 :: 16 :: 30 :: 188 :: 10 :: 181 :: 0 :: 114 :: 42 :: 16 :: 30 :: 188 :: 10 :: 181 :: 0 :: 117 :: 42 :: 16 :: 30 :: 188 :: 10 :: 181 :: 0 :: 120 :: 42 :: 16 :: 30 :: 188 :: 4 :: 181 :: 0 :: 123 :: 42 :: 17 :: 2 :: 139 :: 188 :: 4 :: 181 :: 0 :: 127 :: 42 :: 16 :: 31 :: 188 :: 4 :: dS_cX11_init_5
def dS_cX11_init_3 : List UInt8 := 16 :: 6 :: 188 :: 10 :: 181 :: 0 :: 81 :: 42 :: 16 :: 10 :: 181 :: 0 :: 84 :: 42 :: 17 :: 0 :: 150 :: 181 :: 0 :: 87 :: 42 :: 5 :: 181 :: 0 :: 90 :: 42 :: 16 :: 39 :: 188 :: 10 :: 181 :: 0 :: 93 :: 42 :: 16 :: 39 :: 188 :: 10 :: 181 :: 0 :: 96 :: 42 :: 17 :: 6 :: 24 :: 188 :: 10 :: 181 :: 0 :: 99 :: 42 :: 16 :: 6 :: 188 :: 10 :: 181 :: 0 :: 102 :: 42 :: 16 :: 6 :: 188 :: 10 :: 181 :: dS_cX11_init_4
def dS_cX11_init_2 : List UInt8 := 16 :: 6 :: 188 :: 10 :: 181 :: 0 :: 57 :: 42 :: 16 :: 6 :: 188 :: 10 :: 181 :: 0 :: 60 :: 42 :: 16 :: 6 :: 188 :: 10 :: 181 :: 0 :: 63 :: 42 :: 16 :: 6 :: 188 :: 10 :: 181 :: 0 :: 66 :: 42 :: 16 :: 6 :: 188 :: 10 :: 181 :: 0 :: 69 :: 42 :: 16 :: 6 :: 188 :: 10 :: 181 :: 0 :: 72 :: 42 :: 16 :: 6 :: 188 :: 10 :: 181 :: 0 :: 75 :: 42 :: 16 :: 6 :: 188 :: 10 :: 181 :: 0 :: 78 :: 42 :: dS_cX11_init_3
def dS_cX11_init_1 : List UInt8 := 0 :: 160 :: 188 :: 10 :: 181 :: 0 :: 33 :: 42 :: 16 :: 64 :: 188 :: 10 :: 181 :: 0 :: 36 :: 42 :: 16 :: 6 :: 188 :: 10 :: 181 :: 0 :: 39 :: 42 :: 16 :: 6 :: 188 :: 10 :: 181 :: 0 :: 42 :: 42 :: 16 :: 6 :: 188 :: 10 :: 181 :: 0 :: 45 :: 42 :: 16 :: 6 :: 188 :: 10 :: 181 :: 0 :: 48 :: 42 :: 16 :: 6 :: 188 :: 10 :: 181 :: 0 :: 51 :: 42 :: 16 :: 6 :: 188 :: 10 :: 181 :: 0 :: 54 :: 42 :: dS_cX11_init_2
def dS_cX11_init_0 : List UInt8 := 42 :: 183 :: 0 :: 1 :: 42 :: 17 :: 6 :: 64 :: 188 :: 10 :: 181 :: 0 :: 7 :: 42 :: 2 :: 181 :: 0 :: 13 :: 42 :: 16 :: 12 :: 188 :: 11 :: 181 :: 0 :: 17 :: 42 :: 17 :: 1 :: 64 :: 188 :: 10 :: 181 :: 0 :: 21 :: 42 :: 17 :: 1 :: 64 :: 188 :: 10 :: 181 :: 0 :: 24 :: 42 :: 17 :: 1 :: 64 :: 188 :: 10 :: 181 :: 0 :: 27 :: 42 :: 17 :: 1 :: 64 :: 188 :: 10 :: 181 :: 0 :: 30 :: 42 :: 17 :: dS_cX11_init_1
theorem dT_cX11_init_0 : cX11_init.data.toList.drop 0 = dS_cX11_init_0 := by decide +kernel
theorem dT_cX11_init_1 : cX11_init.data.toList.drop 64 = dS_cX11_init_1 := ck_nx dT_cX11_init_0 (by decide +kernel) rfl
theorem dT_cX11_init_2 : cX11_init.data.toList.drop 128 = dS_cX11_init_2 := ck_nx dT_cX11_init_1 (by decide +kernel) rfl
theorem dT_cX11_init_3 : cX11_init.data.toList.drop 192 = dS_cX11_init_3 := ck_nx dT_cX11_init_2 (by decide +kernel) rfl
theorem dT_cX11_init_4 : cX11_init.data.toList.drop 256 = dS_cX11_init_4 := ck_nx dT_cX11_init_3 (by decide +kernel) rfl
theorem dT_cX11_init_5 : cX11_init.data.toList.drop 320 = dS_cX11_init_5 := ck_nx dT_cX11_init_4 (by decide +kernel) rfl
theorem dg_cX11_init_627 : ck3L dS_cX11_init_1 4 181 33 = true ∧ ck1L dS_cX11_init_1 7 42 = true ∧ ck2sL dS_cX11_init_1 8 16 64 = true := by decide +kernel
theorem dX11_init_68 : decode cX11_init 68 = .ok (.putfield 33, 3) := dk_181 (ck3_s (r := 4) dT_cX11_init_1 rfl dg_cX11_init_627.1)
theorem dX11_init_71 : decode cX11_init 71 = .ok (.aload_n 0, 1) := dk_42 (ck1_s (r := 7) dT_cX11_init_1 rfl dg_cX11_init_627.2.1)
theorem dX11_init_72 : decode cX11_init 72 = .ok (.bipush 64, 2) := dk_16 (ck2s_s (r := 8) dT_cX11_init_1 rfl dg_cX11_init_627.2.2)
theorem dX11_init_74 : decode cX11_init 74 = .ok (.newarray .int, 2) := by decide +kernel
theorem dg_cX11_init_628 : ck3L dS_cX11_init_1 12 181 36 = true ∧ ck1L dS_cX11_init_1 15 42 = true ∧ ck2sL dS_cX11_init_1 16 16 6 = true := by decide +kernel
theorem dX11_init_76 : decode cX11_init 76 = .ok (.putfield 36, 3) := dk_181 (ck3_s (r := 12) dT_cX11_init_1 rfl dg_cX11_init_628.1)
theorem dX11_init_79 : decode cX11_init 79 = .ok (.aload_n 0, 1) := dk_42 (ck1_s (r := 15) dT_cX11_init_1 rfl dg_cX11_init_628.2.1)
theorem dX11_init_80 : decode cX11_init 80 = .ok (.bipush 6, 2) := dk_16 (ck2s_s (r := 16) dT_cX11_init_1 rfl dg_cX11_init_628.2.2)
theorem dX11_init_82 : decode cX11_init 82 = .ok (.newarray .int, 2) := by decide +kernel
theorem dg_cX11_init_629 : ck3L dS_cX11_init_1 20 181 39 = true ∧ ck1L dS_cX11_init_1 23 42 = true ∧ ck2sL dS_cX11_init_1 24 16 6 = true := by decide +kernel
theorem dX11_init_84 : decode cX11_init 84 = .ok (.putfield 39, 3) := dk_181 (ck3_s (r := 20) dT_cX11_init_1 rfl dg_cX11_init_629.1)
theorem dX11_init_87 : decode cX11_init 87 = .ok (.aload_n 0, 1) := dk_42 (ck1_s (r := 23) dT_cX11_init_1 rfl dg_cX11_init_629.2.1)
theorem dX11_init_88 : decode cX11_init 88 = .ok (.bipush 6, 2) := dk_16 (ck2s_s (r := 24) dT_cX11_init_1 rfl dg_cX11_init_629.2.2)
theorem dX11_init_90 : decode cX11_init 90 = .ok (.newarray .int, 2) := by decide +kernel
theorem dg_cX11_init_630 : ck3L dS_cX11_init_1 28 181 42 = true ∧ ck1L dS_cX11_init_1 31 42 = true ∧ ck2sL dS_cX11_init_1 32 16 6 = true := by decide +kernel
theorem dX11_init_92 : decode cX11_init 92 = .ok (.putfield 42, 3) := dk_181 (ck3_s (r := 28) dT_cX11_init_1 rfl dg_cX11_init_630.1)
theorem dX11_init_95 : decode cX11_init 95 = .ok (.aload_n 0, 1) := dk_42 (ck1_s (r := 31) dT_cX11_init_1 rfl dg_cX11_init_630.2.1)
theorem dX11_init_96 : decode cX11_init 96 = .ok (.bipush 6, 2) := dk_16 (ck2s_s (r := 32) dT_cX11_init_1 rfl dg_cX11_init_630.2.2)
theorem dX11_init_98 : decode cX11_init 98 = .ok (.newarray .int, 2) := by decide +kernel
theorem dg_cX11_init_631 : ck3L dS_cX11_init_1 36 181 45 = true ∧ ck1L dS_cX11_init_1 39 42 = true ∧ ck2sL dS_cX11_init_1 40 16 6 = true := by decide +kernel
theorem dX11_init_100 : decode cX11_init 100 = .ok (.putfield 45, 3) := dk_181 (ck3_s (r := 36) dT_cX11_init_1 rfl dg_cX11_init_631.1)
theorem dX11_init_103 : decode cX11_init 103 = .ok (.aload_n 0, 1) := dk_42 (ck1_s (r := 39) dT_cX11_init_1 rfl dg_cX11_init_631.2.1)
theorem dX11_init_104 : decode cX11_init 104 = .ok (.bipush 6, 2) := dk_16 (ck2s_s (r := 40) dT_cX11_init_1 rfl dg_cX11_init_631.2.2)
theorem dX11_init_106 : decode cX11_init 106 = .ok (.newarray .int, 2) := by decide +kernel
theorem dg_cX11_init_632 : ck3L dS_cX11_init_1 44 181 48 = true ∧ ck1L dS_cX11_init_1 47 42 = true ∧ ck2sL dS_cX11_init_1 48 16 6 = true := by decide +kernel
theorem dX11_init_108 : decode cX11_init 108 = .ok (.putfield 48, 3) := dk_181 (ck3_s (r := 44) dT_cX11_init_1 rfl dg_cX11_init_632.1)
theorem dX11_init_111 : decode cX11_init 111 = .ok (.aload_n 0, 1) := dk_42 (ck1_s (r := 47) dT_cX11_init_1 rfl dg_cX11_init_632.2.1)
theorem dX11_init_112 : decode cX11_init 112 = .ok (.bipush 6, 2) := dk_16 (ck2s_s (r := 48) dT_cX11_init_1 rfl dg_cX11_init_632.2.2)
theorem dX11_init_114 : decode cX11_init 114 = .ok (.newarray .int, 2) := by decide +kernel
theorem dg_cX11_init_633 : ck3L dS_cX11_init_1 52 181 51 = true ∧ ck1L dS_cX11_init_1 55 42 = true ∧ ck2sL dS_cX11_init_1 56 16 6 = true := by decide +kernel
theorem dX11_init_116 : decode cX11_init 116 = .ok (.putfield 51, 3) := dk_181 (ck3_s (r := 52) dT_cX11_init_1 rfl dg_cX11_init_633.1)
theorem dX11_init_119 : decode cX11_init 119 = .ok (.aload_n 0, 1) := dk_42 (ck1_s (r := 55) dT_cX11_init_1 rfl dg_cX11_init_633.2.1)
theorem dX11_init_120 : decode cX11_init 120 = .ok (.bipush 6, 2) := dk_16 (ck2s_s (r := 56) dT_cX11_init_1 rfl dg_cX11_init_633.2.2)
theorem dX11_init_122 : decode cX11_init 122 = .ok (.newarray .int, 2) := by decide +kernel
theorem dg_cX11_init_634 : ck3L dS_cX11_init_1 60 181 54 = true ∧ ck1L dS_cX11_init_1 63 42 = true ∧ ck2sL dS_cX11_init_2 0 16 6 = true := by decide +kernel
theorem dX11_init_124 : decode cX11_init 124 = .ok (.putfield 54, 3) := dk_181 (ck3_s (r := 60) dT_cX11_init_1 rfl dg_cX11_init_634.1)
theorem dX11_init_127 : decode cX11_init 127 = .ok (.aload_n 0, 1) := dk_42 (ck1_s (r := 63) dT_cX11_init_1 rfl dg_cX11_init_634.2.1)
theorem dX11_init_128 : decode cX11_init 128 = .ok (.bipush 6, 2) := dk_16 (ck2s_s (r := 0) dT_cX11_init_2 rfl dg_cX11_init_634.2.2)
theorem dX11_init_130 : decode cX11_init 130 = .ok (.newarray .int, 2) := by decide +kernel
theorem dg_cX11_init_635 : ck3L dS_cX11_init_2 4 181 57 = true ∧ ck1L dS_cX11_init_2 7 42 = true ∧ ck2sL dS_cX11_init_2 8 16 6 = true := by decide +kernel
theorem dX11_init_132 : decode cX11_init 132 = .ok (.putfield 57, 3) := dk_181 (ck3_s (r := 4) dT_cX11_init_2 rfl dg_cX11_init_635.1)
theorem dX11_init_135 : decode cX11_init 135 = .ok (.aload_n 0, 1) := dk_42 (ck1_s (r := 7) dT_cX11_init_2 rfl dg_cX11_init_635.2.1)
theorem dX11_init_136 : decode cX11_init 136 = .ok (.bipush 6, 2) := dk_16 (ck2s_s (r := 8) dT_cX11_init_2 rfl dg_cX11_init_635.2.2)
theorem dX11_init_138 : decode cX11_init 138 = .ok (.newarray .int, 2) := by decide +kernel
theorem dg_cX11_init_636 : ck3L dS_cX11_init_2 12 181 60 = true ∧ ck1L dS_cX11_init_2 15 42 = true ∧ ck2sL dS_cX11_init_2 16 16 6 = true := by decide +kernel
theorem dX11_init_140 : decode cX11_init 140 = .ok (.putfield 60, 3) := dk_181 (ck3_s (r := 12) dT_cX11_init_2 rfl dg_cX11_init_636.1)
theorem dX11_init_143 : decode cX11_init 143 = .ok (.aload_n 0, 1) := dk_42 (ck1_s (r := 15) dT_cX11_init_2 rfl dg_cX11_init_636.2.1)
theorem dX11_init_144 : decode cX11_init 144 = .ok (.bipush 6, 2) := dk_16 (ck2s_s (r := 16) dT_cX11_init_2 rfl dg_cX11_init_636.2.2)
theorem dX11_init_146 : decode cX11_init 146 = .ok (.newarray .int, 2) := by decide +kernel
theorem dg_cX11_init_637 : ck3L dS_cX11_init_2 20 181 63 = true ∧ ck1L dS_cX11_init_2 23 42 = true ∧ ck2sL dS_cX11_init_2 24 16 6 = true := by decide +kernel
theorem dX11_init_148 : decode cX11_init 148 = .ok (.putfield 63, 3) := dk_181 (ck3_s (r := 20) dT_cX11_init_2 rfl dg_cX11_init_637.1)
theorem dX11_init_151 : decode cX11_init 151 = .ok (.aload_n 0, 1) := dk_42 (ck1_s (r := 23) dT_cX11_init_2 rfl dg_cX11_init_637.2.1)
theorem dX11_init_152 : decode cX11_init 152 = .ok (.bipush 6, 2) := dk_16 (ck2s_s (r := 24) dT_cX11_init_2 rfl dg_cX11_init_637.2.2)
theorem dX11_init_154 : decode cX11_init 154 = .ok (.newarray .int, 2) := by decide +kernel
theorem dg_cX11_init_638 : ck3L dS_cX11_init_2 28 181 66 = true ∧ ck1L dS_cX11_init_2 31 42 = true ∧ ck2sL dS_cX11_init_2 32 16 6 = true := by decide +kernel
theorem dX11_init_156 : decode cX11_init 156 = .ok (.putfield 66, 3) := dk_181 (ck3_s (r := 28) dT_cX11_init_2 rfl dg_cX11_init_638.1)
theorem dX11_init_159 : decode cX11_init 159 = .ok (.aload_n 0, 1) := dk_42 (ck1_s (r := 31) dT_cX11_init_2 rfl dg_cX11_init_638.2.1)
theorem dX11_init_160 : decode cX11_init 160 = .ok (.bipush 6, 2) := dk_16 (ck2s_s (r := 32) dT_cX11_init_2 rfl dg_cX11_init_638.2.2)
theorem dX11_init_162 : decode cX11_init 162 = .ok (.newarray .int, 2) := by decide +kernel
theorem dg_cX11_init_639 : ck3L dS_cX11_init_2 36 181 69 = true ∧ ck1L dS_cX11_init_2 39 42 = true ∧ ck2sL dS_cX11_init_2 40 16 6 = true := by decide +kernel
theorem dX11_init_164 : decode cX11_init 164 = .ok (.putfield 69, 3) := dk_181 (ck3_s (r := 36) dT_cX11_init_2 rfl dg_cX11_init_639.1)
theorem dX11_init_167 : decode cX11_init 167 = .ok (.aload_n 0, 1) := dk_42 (ck1_s (r := 39) dT_cX11_init_2 rfl dg_cX11_init_639.2.1)
theorem dX11_init_168 : decode cX11_init 168 = .ok (.bipush 6, 2) := dk_16 (ck2s_s (r := 40) dT_cX11_init_2 rfl dg_cX11_init_639.2.2)
theorem dX11_init_170 : decode cX11_init 170 = .ok (.newarray .int, 2) := by decide +kernel
theorem dg_cX11_init_640 : ck3L dS_cX11_init_2 44 181 72 = true ∧ ck1L dS_cX11_init_2 47 42 = true ∧ ck2sL dS_cX11_init_2 48 16 6 = true := by decide +kernel
theorem dX11_init_172 : decode cX11_init 172 = .ok (.putfield 72, 3) := dk_181 (ck3_s (r := 44) dT_cX11_init_2 rfl dg_cX11_init_640.1)
theorem dX11_init_175 : decode cX11_init 175 = .ok (.aload_n 0, 1) := dk_42 (ck1_s (r := 47) dT_cX11_init_2 rfl dg_cX11_init_640.2.1)
theorem dX11_init_176 : decode cX11_init 176 = .ok (.bipush 6, 2) := dk_16 (ck2s_s (r := 48) dT_cX11_init_2 rfl dg_cX11_init_640.2.2)
theorem dX11_init_178 : decode cX11_init 178 = .ok (.newarray .int, 2) := by decide +kernel
theorem dg_cX11_init_641 : ck3L dS_cX11_init_2 52 181 75 = true ∧ ck1L dS_cX11_init_2 55 42 = true ∧ ck2sL dS_cX11_init_2 56 16 6 = true := by decide +kernel
theorem dX11_init_180 : decode cX11_init 180 = .ok (.putfield 75, 3) := dk_181 (ck3_s (r := 52) dT_cX11_init_2 rfl dg_cX11_init_641.1)
theorem dX11_init_183 : decode cX11_init 183 = .ok (.aload_n 0, 1) := dk_42 (ck1_s (r := 55) dT_cX11_init_2 rfl dg_cX11_init_641.2.1)
theorem dX11_init_184 : decode cX11_init 184 = .ok (.bipush 6, 2) := dk_16 (ck2s_s (r := 56) dT_cX11_init_2 rfl dg_cX11_init_641.2.2)
theorem dX11_init_186 : decode cX11_init 186 = .ok (.newarray .int, 2) := by decide +kernel
theorem dg_cX11_init_642 : ck3L dS_cX11_init_2 60 181 78 = true ∧ ck1L dS_cX11_init_2 63 42 = true ∧ ck2sL dS_cX11_init_3 0 16 6 = true := by decide +kernel
theorem dX11_init_188 : decode cX11_init 188 = .ok (.putfield 78, 3) := dk_181 (ck3_s (r := 60) dT_cX11_init_2 rfl dg_cX11_init_642.1)
theorem dX11_init_191 : decode cX11_init 191 = .ok (.aload_n 0, 1) := dk_42 (ck1_s (r := 63) dT_cX11_init_2 rfl dg_cX11_init_642.2.1)
theorem dX11_init_192 : decode cX11_init 192 = .ok (.bipush 6, 2) := dk_16 (ck2s_s (r := 0) dT_cX11_init_3 rfl dg_cX11_init_642.2.2)
theorem dX11_init_194 : decode cX11_init 194 = .ok (.newarray .int, 2) := by decide +kernel
theorem dg_cX11_init_643 : ck3L dS_cX11_init_3 4 181 81 = true ∧ ck1L dS_cX11_init_3 7 42 = true ∧ ck2sL dS_cX11_init_3 8 16 10 = true ∧ ck3L dS_cX11_init_3 10 181 84 = true ∧ ck1L dS_cX11_init_3 13 42 = true ∧ ck3sL dS_cX11_init_3 14 17 150 = true ∧ ck3L dS_cX11_init_3 17 181 87 = true ∧ ck1L dS_cX11_init_3 20 42 = true := by decide +kernel
theorem dX11_init_196 : decode cX11_init 196 = .ok (.putfield 81, 3) := dk_181 (ck3_s (r := 4) dT_cX11_init_3 rfl dg_cX11_init_643.1)
theorem dX11_init_199 : decode cX11_init 199 = .ok (.aload_n 0, 1) := dk_42 (ck1_s (r := 7) dT_cX11_init_3 rfl dg_cX11_init_643.2.1)
theorem dX11_init_200 : decode cX11_init 200 = .ok (.bipush 10, 2) := dk_16 (ck2s_s (r := 8) dT_cX11_init_3 rfl dg_cX11_init_643.2.2.1)
theorem dX11_init_202 : decode cX11_init 202 = .ok (.putfield 84, 3) := dk_181 (ck3_s (r := 10) dT_cX11_init_3 rfl dg_cX11_init_643.2.2.2.1)
theorem dX11_init_205 : decode cX11_init 205 = .ok (.aload_n 0, 1) := dk_42 (ck1_s (r := 13) dT_cX11_init_3 rfl dg_cX11_init_643.2.2.2.2.1)
theorem dX11_init_206 : decode cX11_init 206 = .ok (.sipush 150, 3) := dk_17 (ck3s_s (r := 14) dT_cX11_init_3 rfl dg_cX11_init_643.2.2.2.2.2.1)
theorem dX11_init_209 : decode cX11_init 209 = .ok (.putfield 87, 3) := dk_181 (ck3_s (r := 17) dT_cX11_init_3 rfl dg_cX11_init_643.2.2.2.2.2.2.1)
theorem dX11_init_212 : decode cX11_init 212 = .ok (.aload_n 0, 1) := dk_42 (ck1_s (r := 20) dT_cX11_init_3 rfl dg_cX11_init_643.2.2.2.2.2.2.2)
theorem dg_cX11_init_644 : ck1L dS_cX11_init_3 21 5 = true ∧ ck3L dS_cX11_init_3 22 181 90 = true ∧ ck1L dS_cX11_init_3 25 42 = true ∧ ck2sL dS_cX11_init_3 26 16 39 = true := by decide +kernel
theorem dX11_init_213 : decode cX11_init 213 = .ok (.iconst 2, 1) := dk_5 (ck1_s (r := 21) dT_cX11_init_3 rfl dg_cX11_init_644.1)
theorem dX11_init_214 : decode cX11_init 214 = .ok (.putfield 90, 3) := dk_181 (ck3_s (r := 22) dT_cX11_init_3 rfl dg_cX11_init_644.2.1)
theorem dX11_init_217 : decode cX11_init 217 = .ok (.aload_n 0, 1) := dk_42 (ck1_s (r := 25) dT_cX11_init_3 rfl dg_cX11_init_644.2.2.1)
theorem dX11_init_218 : decode cX11_init 218 = .ok (.bipush 39, 2) := dk_16 (ck2s_s (r := 26) dT_cX11_init_3 rfl dg_cX11_init_644.2.2.2)
theorem dX11_init_220 : decode cX11_init 220 = .ok (.newarray .int, 2) := by decide +kernel
theorem dg_cX11_init_645 : ck3L dS_cX11_init_3 30 181 93 = true ∧ ck1L dS_cX11_init_3 33 42 = true ∧ ck2sL dS_cX11_init_3 34 16 39 = true := by decide +kernel
theorem dX11_init_222 : decode cX11_init 222 = .ok (.putfield 93, 3) := dk_181 (ck3_s (r := 30) dT_cX11_init_3 rfl dg_cX11_init_645.1)
theorem dX11_init_225 : decode cX11_init 225 = .ok (.aload_n 0, 1) := dk_42 (ck1_s (r := 33) dT_cX11_init_3 rfl dg_cX11_init_645.2.1)
theorem dX11_init_226 : decode cX11_init 226 = .ok (.bipush 39, 2) := dk_16 (ck2s_s (r := 34) dT_cX11_init_3 rfl dg_cX11_init_645.2.2)
theorem dX11_init_228 : decode cX11_init 228 = .ok (.newarray .int, 2) := by decide +kernel
theorem dg_cX11_init_646 : ck3L dS_cX11_init_3 38 181 96 = true ∧ ck1L dS_cX11_init_3 41 42 = true ∧ ck3sL dS_cX11_init_3 42 17 1560 = true := by decide +kernel
theorem dX11_init_230 : decode cX11_init 230 = .ok (.putfield 96, 3) := dk_181 (ck3_s (r := 38) dT_cX11_init_3 rfl dg_cX11_init_646.1)
theorem dX11_init_233 : decode cX11_init 233 = .ok (.aload_n 0, 1) := dk_42 (ck1_s (r := 41) dT_cX11_init_3 rfl dg_cX11_init_646.2.1)
theorem dX11_init_234 : decode cX11_init 234 = .ok (.sipush 1560, 3) := dk_17 (ck3s_s (r := 42) dT_cX11_init_3 rfl dg_cX11_init_646.2.2)
theorem dX11_init_237 : decode cX11_init 237 = .ok (.newarray .int, 2) := by decide +kernel
theorem dg_cX11_init_647 : ck3L dS_cX11_init_3 47 181 99 = true ∧ ck1L dS_cX11_init_3 50 42 = true ∧ ck2sL dS_cX11_init_3 51 16 6 = true := by decide +kernel
theorem dX11_init_239 : decode cX11_init 239 = .ok (.putfield 99, 3) := dk_181 (ck3_s (r := 47) dT_cX11_init_3 rfl dg_cX11_init_647.1)
theorem dX11_init_242 : decode cX11_init 242 = .ok (.aload_n 0, 1) := dk_42 (ck1_s (r := 50) dT_cX11_init_3 rfl dg_cX11_init_647.2.1)
theorem dX11_init_243 : decode cX11_init 243 = .ok (.bipush 6, 2) := dk_16 (ck2s_s (r := 51) dT_cX11_init_3 rfl dg_cX11_init_647.2.2)
theorem dX11_init_245 : decode cX11_init 245 = .ok (.newarray .int, 2) := by decide +kernel
theorem dg_cX11_init_648 : ck3L dS_cX11_init_3 55 181 102 = true ∧ ck1L dS_cX11_init_3 58 42 = true ∧ ck2sL dS_cX11_init_3 59 16 6 = true := by decide +kernel
theorem dX11_init_247 : decode cX11_init 247 = .ok (.putfield 102, 3) := dk_181 (ck3_s (r := 55) dT_cX11_init_3 rfl dg_cX11_init_648.1)
theorem dX11_init_250 : decode cX11_init 250 = .ok (.aload_n 0, 1) := dk_42 (ck1_s (r := 58) dT_cX11_init_3 rfl dg_cX11_init_648.2.1)
theorem dX11_init_251 : decode cX11_init 251 = .ok (.bipush 6, 2) := dk_16 (ck2s_s (r := 59) dT_cX11_init_3 rfl dg_cX11_init_648.2.2)
theorem dX11_init_253 : decode cX11_init 253 = .ok (.newarray .int, 2) := by decide +kernel
theorem dg_cX11_init_649 : ck3L dS_cX11_init_3 63 181 105 = true ∧ ck1L dS_cX11_init_4 2 42 = true ∧ ck2sL dS_cX11_init_4 3 16 36 = true := by decide +kernel
theorem dX11_init_255 : decode cX11_init 255 = .ok (.putfield 105, 3) := dk_181 (ck3_s (r := 63) dT_cX11_init_3 rfl dg_cX11_init_649.1)
theorem dX11_init_258 : decode cX11_init 258 = .ok (.aload_n 0, 1) := dk_42 (ck1_s (r := 2) dT_cX11_init_4 rfl dg_cX11_init_649.2.1)
theorem dX11_init_259 : decode cX11_init 259 = .ok (.bipush 36, 2) := dk_16 (ck2s_s (r := 3) dT_cX11_init_4 rfl dg_cX11_init_649.2.2)
theorem dX11_init_261 : decode cX11_init 261 = .ok (.newarray .int, 2) := by decide +kernel
theorem dg_cX11_init_650 : ck3L dS_cX11_init_4 7 181 108 = true ∧ ck1L dS_cX11_init_4 10 42 = true ∧ ck2sL dS_cX11_init_4 11 16 64 = true := by decide +kernel
theorem dX11_init_263 : decode cX11_init 263 = .ok (.putfield 108, 3) := dk_181 (ck3_s (r := 7) dT_cX11_init_4 rfl dg_cX11_init_650.1)
theorem dX11_init_266 : decode cX11_init 266 = .ok (.aload_n 0, 1) := dk_42 (ck1_s (r := 10) dT_cX11_init_4 rfl dg_cX11_init_650.2.1)
theorem dX11_init_267 : decode cX11_init 267 = .ok (.bipush 64, 2) := dk_16 (ck2s_s (r := 11) dT_cX11_init_4 rfl dg_cX11_init_650.2.2)
theorem dX11_init_269 : decode cX11_init 269 = .ok (.newarray .int, 2) := by decide +kernel
theorem dg_cX11_init_651 : ck3L dS_cX11_init_4 15 181 111 = true ∧ ck1L dS_cX11_init_4 18 42 = true ∧ ck2sL dS_cX11_init_4 19 16 30 = true := by decide +kernel
theorem dX11_init_271 : decode cX11_init 271 = .ok (.putfield 111, 3) := dk_181 (ck3_s (r := 15) dT_cX11_init_4 rfl dg_cX11_init_651.1)
theorem dX11_init_274 : decode cX11_init 274 = .ok (.aload_n 0, 1) := dk_42 (ck1_s (r := 18) dT_cX11_init_4 rfl dg_cX11_init_651.2.1)
theorem dX11_init_275 : decode cX11_init 275 = .ok (.bipush 30, 2) := dk_16 (ck2s_s (r := 19) dT_cX11_init_4 rfl dg_cX11_init_651.2.2)
theorem dX11_init_277 : decode cX11_init 277 = .ok (.newarray .int, 2) := by decide +kernel
theorem dg_cX11_init_652 : ck3L dS_cX11_init_4 23 181 114 = true ∧ ck1L dS_cX11_init_4 26 42 = true ∧ ck2sL dS_cX11_init_4 27 16 30 = true := by decide +kernel
theorem dX11_init_279 : decode cX11_init 279 = .ok (.putfield 114, 3) := dk_181 (ck3_s (r := 23) dT_cX11_init_4 rfl dg_cX11_init_652.1)
theorem dX11_init_282 : decode cX11_init 282 = .ok (.aload_n 0, 1) := dk_42 (ck1_s (r := 26) dT_cX11_init_4 rfl dg_cX11_init_652.2.1)
theorem dX11_init_283 : decode cX11_init 283 = .ok (.bipush 30, 2) := dk_16 (ck2s_s (r := 27) dT_cX11_init_4 rfl dg_cX11_init_652.2.2)
theorem dX11_init_285 : decode cX11_init 285 = .ok (.newarray .int, 2) := by decide +kernel
theorem dg_cX11_init_653 : ck3L dS_cX11_init_4 31 181 117 = true ∧ ck1L dS_cX11_init_4 34 42 = true ∧ ck2sL dS_cX11_init_4 35 16 30 = true := by decide +kernel
theorem dX11_init_287 : decode cX11_init 287 = .ok (.putfield 117, 3) := dk_181 (ck3_s (r := 31) dT_cX11_init_4 rfl dg_cX11_init_653.1)
theorem dX11_init_290 : decode cX11_init 290 = .ok (.aload_n 0, 1) := dk_42 (ck1_s (r := 34) dT_cX11_init_4 rfl dg_cX11_init_653.2.1)
theorem dX11_init_291 : decode cX11_init 291 = .ok (.bipush 30, 2) := dk_16 (ck2s_s (r := 35) dT_cX11_init_4 rfl dg_cX11_init_653.2.2)
theorem dX11_init_293 : decode cX11_init 293 = .ok (.newarray .int, 2) := by decide +kernel
theorem dg_cX11_init_654 : ck3L dS_cX11_init_4 39 181 120 = true ∧ ck1L dS_cX11_init_4 42 42 = true ∧ ck2sL dS_cX11_init_4 43 16 30 = true := by decide +kernel
theorem dX11_init_295 : decode cX11_init 295 = .ok (.putfield 120, 3) := dk_181 (ck3_s (r := 39) dT_cX11_init_4 rfl dg_cX11_init_654.1)
theorem dX11_init_298 : decode cX11_init 298 = .ok (.aload_n 0, 1) := dk_42 (ck1_s (r := 42) dT_cX11_init_4 rfl dg_cX11_init_654.2.1)
theorem dX11_init_299 : decode cX11_init 299 = .ok (.bipush 30, 2) := dk_16 (ck2s_s (r := 43) dT_cX11_init_4 rfl dg_cX11_init_654.2.2)
theorem dX11_init_301 : decode cX11_init 301 = .ok (.newarray .boolean, 2) := by decide +kernel
theorem dg_cX11_init_655 : ck3L dS_cX11_init_4 47 181 123 = true ∧ ck1L dS_cX11_init_4 50 42 = true ∧ ck3sL dS_cX11_init_4 51 17 651 = true := by decide +kernel
theorem dX11_init_303 : decode cX11_init 303 = .ok (.putfield 123, 3) := dk_181 (ck3_s (r := 47) dT_cX11_init_4 rfl dg_cX11_init_655.1)
theorem dX11_init_306 : decode cX11_init 306 = .ok (.aload_n 0, 1) := dk_42 (ck1_s (r := 50) dT_cX11_init_4 rfl dg_cX11_init_655.2.1)
theorem dX11_init_307 : decode cX11_init 307 = .ok (.sipush 651, 3) := dk_17 (ck3s_s (r := 51) dT_cX11_init_4 rfl dg_cX11_init_655.2.2)
theorem dX11_init_310 : decode cX11_init 310 = .ok (.newarray .boolean, 2) := by decide +kernel
theorem dg_cX11_init_656 : ck3L dS_cX11_init_4 56 181 127 = true ∧ ck1L dS_cX11_init_4 59 42 = true ∧ ck2sL dS_cX11_init_4 60 16 31 = true := by decide +kernel
theorem dX11_init_312 : decode cX11_init 312 = .ok (.putfield 127, 3) := dk_181 (ck3_s (r := 56) dT_cX11_init_4 rfl dg_cX11_init_656.1)
theorem dX11_init_315 : decode cX11_init 315 = .ok (.aload_n 0, 1) := dk_42 (ck1_s (r := 59) dT_cX11_init_4 rfl dg_cX11_init_656.2.1)
theorem dX11_init_316 : decode cX11_init 316 = .ok (.bipush 31, 2) := dk_16 (ck2s_s (r := 60) dT_cX11_init_4 rfl dg_cX11_init_656.2.2)
theorem dX11_init_318 : decode cX11_init 318 = .ok (.newarray .boolean, 2) := by decide +kernel
theorem dg_cX11_init_657 : ck3L dS_cX11_init_5 0 181 130 = true ∧ ck1L dS_cX11_init_5 3 42 = true ∧ ck1L dS_cX11_init_5 4 6 = true := by decide +kernel
theorem dX11_init_320 : decode cX11_init 320 = .ok (.putfield 130, 3) := dk_181 (ck3_s (r := 0) dT_cX11_init_5 rfl dg_cX11_init_657.1)
theorem dX11_init_323 : decode cX11_init 323 = .ok (.aload_n 0, 1) := dk_42 (ck1_s (r := 3) dT_cX11_init_5 rfl dg_cX11_init_657.2.1)
theorem dX11_init_324 : decode cX11_init 324 = .ok (.iconst 3, 1) := dk_6 (ck1_s (r := 4) dT_cX11_init_5 rfl dg_cX11_init_657.2.2)
theorem dX11_init_325 : decode cX11_init 325 = .ok (.newarray .boolean, 2) := by decide +kernel
theorem dg_cX11_init_658 : ck3L dS_cX11_init_5 7 181 133 = true ∧ ck1L dS_cX11_init_5 10 42 = true ∧ ck2sL dS_cX11_init_5 11 16 117 = true := by decide +kernel
theorem dX11_init_327 : decode cX11_init 327 = .ok (.putfield 133, 3) := dk_181 (ck3_s (r := 7) dT_cX11_init_5 rfl dg_cX11_init_658.1)
theorem dX11_init_330 : decode cX11_init 330 = .ok (.aload_n 0, 1) := dk_42 (ck1_s (r := 10) dT_cX11_init_5 rfl dg_cX11_init_658.2.1)
theorem dX11_init_331 : decode cX11_init 331 = .ok (.bipush 117, 2) := dk_16 (ck2s_s (r := 11) dT_cX11_init_5 rfl dg_cX11_init_658.2.2)
theorem dX11_init_333 : decode cX11_init 333 = .ok (.newarray .int, 2) := by decide +kernel
theorem dg_cX11_init_659 : ck3L dS_cX11_init_5 15 181 136 = true ∧ ck1L dS_cX11_init_5 18 177 = true := by decide +kernel
theorem dX11_init_335 : decode cX11_init 335 = .ok (.putfield 136, 3) := dk_181 (ck3_s (r := 15) dT_cX11_init_5 rfl dg_cX11_init_659.1)
theorem dX11_init_338 : decode cX11_init 338 = .ok (.return_, 1) := dk_177 (ck1_s (r := 18) dT_cX11_init_5 rfl dg_cX11_init_659.2)
theorem dg_cX11_isBox_660 : ck1 cX11_isBox 0 26 = true ∧ ck3s cX11_isBox 1 155 12 = true ∧ ck1 cX11_isBox 4 26 = true ∧ ck1 cX11_isBox 5 6 = true ∧ ck3s cX11_isBox 6 162 7 = true ∧ ck1 cX11_isBox 9 4 = true ∧ ck3s cX11_isBox 10 167 4 = true ∧ ck1 cX11_isBox 13 3 = true := by decide +kernel
theorem dX11_isBox_0 : decode cX11_isBox 0 = .ok (.iload_n 0, 1) := dk_26 dg_cX11_isBox_660.1
theorem dX11_isBox_1 : decode cX11_isBox 1 = .ok (.ifCond .lt 12, 3) := dk_155 dg_cX11_isBox_660.2.1
theorem dX11_isBox_4 : decode cX11_isBox 4 = .ok (.iload_n 0, 1) := dk_26 dg_cX11_isBox_660.2.2.1
theorem dX11_isBox_5 : decode cX11_isBox 5 = .ok (.iconst 3, 1) := dk_6 dg_cX11_isBox_660.2.2.2.1
theorem dX11_isBox_6 : decode cX11_isBox 6 = .ok (.if_icmp .ge 7, 3) := dk_162 dg_cX11_isBox_660.2.2.2.2.1
theorem dX11_isBox_9 : decode cX11_isBox 9 = .ok (.iconst 1, 1) := dk_4 dg_cX11_isBox_660.2.2.2.2.2.1
theorem dX11_isBox_10 : decode cX11_isBox 10 = .ok (.goto 4, 3) := dk_167 dg_cX11_isBox_660.2.2.2.2.2.2.1
theorem dX11_isBox_13 : decode cX11_isBox 13 = .ok (.iconst 0, 1) := dk_3 dg_cX11_isBox_660.2.2.2.2.2.2.2
theorem dg_cX11_isBox_661 : ck1 cX11_isBox 14 172 = true := by decide +kernel
theorem dX11_isBox_14 : decode cX11_isBox 14 = .ok (.ireturn, 1) := dk_172 dg_cX11_isBox_661
theorem dg_cX11_isCoat_662 : ck1 cX11_isCoat 0 27 = true ∧ ck1 cX11_isCoat 1 3 = true ∧ ck1 cX11_isCoat 2 42 = true ∧ ck3 cX11_isCoat 3 180 390 = true ∧ ck1 cX11_isCoat 6 4 = true ∧ ck1 cX11_isCoat 7 100 = true ∧ ck3 cX11_isCoat 8 184 417 = true ∧ ck1 cX11_isCoat 11 172 = true := by decide +kernel
theorem dX11_isCoat_0 : decode cX11_isCoat 0 = .ok (.iload_n 1, 1) := dk_27 dg_cX11_isCoat_662.1
theorem dX11_isCoat_1 : decode cX11_isCoat 1 = .ok (.iconst 0, 1) := dk_3 dg_cX11_isCoat_662.2.1
theorem dX11_isCoat_2 : decode cX11_isCoat 2 = .ok (.aload_n 0, 1) := dk_42 dg_cX11_isCoat_662.2.2.1
theorem dX11_isCoat_3 : decode cX11_isCoat 3 = .ok (.getfield 390, 3) := dk_180 dg_cX11_isCoat_662.2.2.2.1
theorem dX11_isCoat_6 : decode cX11_isCoat 6 = .ok (.iconst 1, 1) := dk_4 dg_cX11_isCoat_662.2.2.2.2.1
theorem dX11_isCoat_7 : decode cX11_isCoat 7 = .ok (.isub, 1) := dk_100 dg_cX11_isCoat_662.2.2.2.2.2.1
theorem dX11_isCoat_8 : decode cX11_isCoat 8 = .ok (.invokestatic 417, 3) := dk_184 dg_cX11_isCoat_662.2.2.2.2.2.2.1
theorem dX11_isCoat_11 : decode cX11_isCoat 11 = .ok (.ireturn, 1) := dk_172 dg_cX11_isCoat_662.2.2.2.2.2.2.2
theorem dg_cX11_isDigit_663 : ck1 cX11_isDigit 0 26 = true ∧ ck2s cX11_isDigit 1 16 48 = true ∧ ck3s cX11_isDigit 3 161 13 = true ∧ ck1 cX11_isDigit 6 26 = true ∧ ck2s cX11_isDigit 7 16 57 = true ∧ ck3s cX11_isDigit 9 163 7 = true ∧ ck1 cX11_isDigit 12 4 = true ∧ ck3s cX11_isDigit 13 167 4 = true := by decide +kernel
theorem dX11_isDigit_0 : decode cX11_isDigit 0 = .ok (.iload_n 0, 1) := dk_26 dg_cX11_isDigit_663.1
theorem dX11_isDigit_1 : decode cX11_isDigit 1 = .ok (.bipush 48, 2) := dk_16 dg_cX11_isDigit_663.2.1
theorem dX11_isDigit_3 : decode cX11_isDigit 3 = .ok (.if_icmp .lt 13, 3) := dk_161 dg_cX11_isDigit_663.2.2.1
theorem dX11_isDigit_6 : decode cX11_isDigit 6 = .ok (.iload_n 0, 1) := dk_26 dg_cX11_isDigit_663.2.2.2.1
theorem dX11_isDigit_7 : decode cX11_isDigit 7 = .ok (.bipush 57, 2) := dk_16 dg_cX11_isDigit_663.2.2.2.2.1
theorem dX11_isDigit_9 : decode cX11_isDigit 9 = .ok (.if_icmp .gt 7, 3) := dk_163 dg_cX11_isDigit_663.2.2.2.2.2.1
theorem dX11_isDigit_12 : decode cX11_isDigit 12 = .ok (.iconst 1, 1) := dk_4 dg_cX11_isDigit_663.2.2.2.2.2.2.1
theorem dX11_isDigit_13 : decode cX11_isDigit 13 = .ok (.goto 4, 3) := dk_167 dg_cX11_isDigit_663.2.2.2.2.2.2.2
theorem dg_cX11_isDigit_664 : ck1 cX11_isDigit 16 3 = true ∧ ck1 cX11_isDigit 17 172 = true := by decide +kernel
theorem dX11_isDigit_16 : decode cX11_isDigit 16 = .ok (.iconst 0, 1) := dk_3 dg_cX11_isDigit_664.1
theorem dX11_isDigit_17 : decode cX11_isDigit 17 = .ok (.ireturn, 1) := dk_172 dg_cX11_isDigit_664.2
theorem dg_cX11_isFull_665 : ck1 cX11_isFull 0 42 = true ∧ ck3 cX11_isFull 1 180 269 = true ∧ ck2s cX11_isFull 4 16 60 = true ∧ ck3s cX11_isFull 6 159 12 = true ∧ ck1 cX11_isFull 9 42 = true ∧ ck3 cX11_isFull 10 180 272 = true ∧ ck2s cX11_isFull 13 16 30 = true ∧ ck3s cX11_isFull 15 160 7 = true := by decide +kernel
theorem dX11_isFull_0 : decode cX11_isFull 0 = .ok (.aload_n 0, 1) := dk_42 dg_cX11_isFull_665.1
theorem dX11_isFull_1 : decode cX11_isFull 1 = .ok (.getfield 269, 3) := dk_180 dg_cX11_isFull_665.2.1
theorem dX11_isFull_4 : decode cX11_isFull 4 = .ok (.bipush 60, 2) := dk_16 dg_cX11_isFull_665.2.2.1
theorem dX11_isFull_6 : decode cX11_isFull 6 = .ok (.if_icmp .eq 12, 3) := dk_159 dg_cX11_isFull_665.2.2.2.1
theorem dX11_isFull_9 : decode cX11_isFull 9 = .ok (.aload_n 0, 1) := dk_42 dg_cX11_isFull_665.2.2.2.2.1
theorem dX11_isFull_10 : decode cX11_isFull 10 = .ok (.getfield 272, 3) := dk_180 dg_cX11_isFull_665.2.2.2.2.2.1
theorem dX11_isFull_13 : decode cX11_isFull 13 = .ok (.bipush 30, 2) := dk_16 dg_cX11_isFull_665.2.2.2.2.2.2.1
theorem dX11_isFull_15 : decode cX11_isFull 15 = .ok (.if_icmp .ne 7, 3) := dk_160 dg_cX11_isFull_665.2.2.2.2.2.2.2
theorem dg_cX11_isFull_666 : ck1 cX11_isFull 18 4 = true ∧ ck3s cX11_isFull 19 167 4 = true ∧ ck1 cX11_isFull 22 3 = true ∧ ck1 cX11_isFull 23 172 = true := by decide +kernel
theorem dX11_isFull_18 : decode cX11_isFull 18 = .ok (.iconst 1, 1) := dk_4 dg_cX11_isFull_666.1
theorem dX11_isFull_19 : decode cX11_isFull 19 = .ok (.goto 4, 3) := dk_167 dg_cX11_isFull_666.2.1
theorem dX11_isFull_22 : decode cX11_isFull 22 = .ok (.iconst 0, 1) := dk_3 dg_cX11_isFull_666.2.2.1
theorem dX11_isFull_23 : decode cX11_isFull 23 = .ok (.ireturn, 1) := dk_172 dg_cX11_isFull_666.2.2.2
theorem dg_cX11_isIn_667 : ck1 cX11_isIn 0 26 = true ∧ ck1 cX11_isIn 1 27 = true ∧ ck3s cX11_isIn 2 161 12 = true ∧ ck1 cX11_isIn 5 26 = true ∧ ck1 cX11_isIn 6 28 = true ∧ ck3s cX11_isIn 7 163 7 = true ∧ ck1 cX11_isIn 10 4 = true ∧ ck3s cX11_isIn 11 167 4 = true := by decide +kernel
theorem dX11_isIn_0 : decode cX11_isIn 0 = .ok (.iload_n 0, 1) := dk_26 dg_cX11_isIn_667.1
theorem dX11_isIn_1 : decode cX11_isIn 1 = .ok (.iload_n 1, 1) := dk_27 dg_cX11_isIn_667.2.1
theorem dX11_isIn_2 : decode cX11_isIn 2 = .ok (.if_icmp .lt 12, 3) := dk_161 dg_cX11_isIn_667.2.2.1
theorem dX11_isIn_5 : decode cX11_isIn 5 = .ok (.iload_n 0, 1) := dk_26 dg_cX11_isIn_667.2.2.2.1
theorem dX11_isIn_6 : decode cX11_isIn 6 = .ok (.iload_n 2, 1) := dk_28 dg_cX11_isIn_667.2.2.2.2.1
theorem dX11_isIn_7 : decode cX11_isIn 7 = .ok (.if_icmp .gt 7, 3) := dk_163 dg_cX11_isIn_667.2.2.2.2.2.1
theorem dX11_isIn_10 : decode cX11_isIn 10 = .ok (.iconst 1, 1) := dk_4 dg_cX11_isIn_667.2.2.2.2.2.2.1
theorem dX11_isIn_11 : decode cX11_isIn 11 = .ok (.goto 4, 3) := dk_167 dg_cX11_isIn_667.2.2.2.2.2.2.2
theorem dg_cX11_isIn_668 : ck1 cX11_isIn 14 3 = true ∧ ck1 cX11_isIn 15 172 = true := by decide +kernel
theorem dX11_isIn_14 : decode cX11_isIn 14 = .ok (.iconst 0, 1) := dk_3 dg_cX11_isIn_668.1
theorem dX11_isIn_15 : decode cX11_isIn 15 = .ok (.ireturn, 1) := dk_172 dg_cX11_isIn_668.2
theorem dg_cX11_isLetter_669 : ck1 cX11_isLetter 0 26 = true ∧ ck2s cX11_isLetter 1 16 97 = true ∧ ck3s cX11_isLetter 3 161 13 = true ∧ ck1 cX11_isLetter 6 26 = true ∧ ck2s cX11_isLetter 7 16 122 = true ∧ ck3s cX11_isLetter 9 163 7 = true ∧ ck1 cX11_isLetter 12 4 = true ∧ ck3s cX11_isLetter 13 167 4 = true := by decide +kernel
theorem dX11_isLetter_0 : decode cX11_isLetter 0 = .ok (.iload_n 0, 1) := dk_26 dg_cX11_isLetter_669.1
theorem dX11_isLetter_1 : decode cX11_isLetter 1 = .ok (.bipush 97, 2) := dk_16 dg_cX11_isLetter_669.2.1
theorem dX11_isLetter_3 : decode cX11_isLetter 3 = .ok (.if_icmp .lt 13, 3) := dk_161 dg_cX11_isLetter_669.2.2.1
theorem dX11_isLetter_6 : decode cX11_isLetter 6 = .ok (.iload_n 0, 1) := dk_26 dg_cX11_isLetter_669.2.2.2.1
theorem dX11_isLetter_7 : decode cX11_isLetter 7 = .ok (.bipush 122, 2) := dk_16 dg_cX11_isLetter_669.2.2.2.2.1
theorem dX11_isLetter_9 : decode cX11_isLetter 9 = .ok (.if_icmp .gt 7, 3) := dk_163 dg_cX11_isLetter_669.2.2.2.2.2.1
theorem dX11_isLetter_12 : decode cX11_isLetter 12 = .ok (.iconst 1, 1) := dk_4 dg_cX11_isLetter_669.2.2.2.2.2.2.1
theorem dX11_isLetter_13 : decode cX11_isLetter 13 = .ok (.goto 4, 3) := dk_167 dg_cX11_isLetter_669.2.2.2.2.2.2.2
theorem dg_cX11_isLetter_670 : ck1 cX11_isLetter 16 3 = true ∧ ck1 cX11_isLetter 17 172 = true := by decide +kernel
theorem dX11_isLetter_16 : decode cX11_isLetter 16 = .ok (.iconst 0, 1) := dk_3 dg_cX11_isLetter_670.1
theorem dX11_isLetter_17 : decode cX11_isLetter 17 = .ok (.ireturn, 1) := dk_172 dg_cX11_isLetter_670.2
theorem dg_cX11_isMan_671 : ck1 cX11_isMan 0 27 = true ∧ ck1 cX11_isMan 1 3 = true ∧ ck1 cX11_isMan 2 42 = true ∧ ck3 cX11_isMan 3 180 387 = true ∧ ck1 cX11_isMan 6 4 = true ∧ ck1 cX11_isMan 7 100 = true ∧ ck3 cX11_isMan 8 184 417 = true ∧ ck1 cX11_isMan 11 172 = true := by decide +kernel
theorem dX11_isMan_0 : decode cX11_isMan 0 = .ok (.iload_n 1, 1) := dk_27 dg_cX11_isMan_671.1
theorem dX11_isMan_1 : decode cX11_isMan 1 = .ok (.iconst 0, 1) := dk_3 dg_cX11_isMan_671.2.1
theorem dX11_isMan_2 : decode cX11_isMan 2 = .ok (.aload_n 0, 1) := dk_42 dg_cX11_isMan_671.2.2.1
theorem dX11_isMan_3 : decode cX11_isMan 3 = .ok (.getfield 387, 3) := dk_180 dg_cX11_isMan_671.2.2.2.1
theorem dX11_isMan_6 : decode cX11_isMan 6 = .ok (.iconst 1, 1) := dk_4 dg_cX11_isMan_671.2.2.2.2.1
theorem dX11_isMan_7 : decode cX11_isMan 7 = .ok (.isub, 1) := dk_100 dg_cX11_isMan_671.2.2.2.2.2.1
theorem dX11_isMan_8 : decode cX11_isMan 8 = .ok (.invokestatic 417, 3) := dk_184 dg_cX11_isMan_671.2.2.2.2.2.2.1
theorem dX11_isMan_11 : decode cX11_isMan 11 = .ok (.ireturn, 1) := dk_172 dg_cX11_isMan_671.2.2.2.2.2.2.2
theorem dg_cX11_isName_672 : ck1 cX11_isName 0 42 = true ∧ ck3 cX11_isName 1 180 166 = true ∧ ck1 cX11_isName 4 4 = true ∧ ck3s cX11_isName 5 160 14 = true ∧ ck1 cX11_isName 8 42 = true ∧ ck3 cX11_isName 9 182 224 = true ∧ ck3s cX11_isName 12 154 7 = true ∧ ck1 cX11_isName 15 4 = true := by decide +kernel
theorem dX11_isName_0 : decode cX11_isName 0 = .ok (.aload_n 0, 1) := dk_42 dg_cX11_isName_672.1
theorem dX11_isName_1 : decode cX11_isName 1 = .ok (.getfield 166, 3) := dk_180 dg_cX11_isName_672.2.1
theorem dX11_isName_4 : decode cX11_isName 4 = .ok (.iconst 1, 1) := dk_4 dg_cX11_isName_672.2.2.1
theorem dX11_isName_5 : decode cX11_isName 5 = .ok (.if_icmp .ne 14, 3) := dk_160 dg_cX11_isName_672.2.2.2.1
theorem dX11_isName_8 : decode cX11_isName 8 = .ok (.aload_n 0, 1) := dk_42 dg_cX11_isName_672.2.2.2.2.1
theorem dX11_isName_9 : decode cX11_isName 9 = .ok (.invokevirtual 224, 3) := dk_182 dg_cX11_isName_672.2.2.2.2.2.1
theorem dX11_isName_12 : decode cX11_isName 12 = .ok (.ifCond .ne 7, 3) := dk_154 dg_cX11_isName_672.2.2.2.2.2.2.1
theorem dX11_isName_15 : decode cX11_isName 15 = .ok (.iconst 1, 1) := dk_4 dg_cX11_isName_672.2.2.2.2.2.2.2
theorem dg_cX11_isName_673 : ck3s cX11_isName 16 167 4 = true ∧ ck1 cX11_isName 19 3 = true ∧ ck1 cX11_isName 20 172 = true := by decide +kernel
theorem dX11_isName_16 : decode cX11_isName 16 = .ok (.goto 4, 3) := dk_167 dg_cX11_isName_673.1
theorem dX11_isName_19 : decode cX11_isName 19 = .ok (.iconst 0, 1) := dk_3 dg_cX11_isName_673.2.1
theorem dX11_isName_20 : decode cX11_isName 20 = .ok (.ireturn, 1) := dk_172 dg_cX11_isName_673.2.2
theorem dg_cX11_isOwn_674 : ck1 cX11_isOwn 0 42 = true ∧ ck3 cX11_isOwn 1 180 159 = true ∧ ck3 cX11_isOwn 4 20 182 = true ∧ ck1 cX11_isOwn 7 148 = true ∧ ck3s cX11_isOwn 8 153 223 = true ∧ ck1 cX11_isOwn 11 42 = true ∧ ck3 cX11_isOwn 12 180 159 = true ∧ ck3 cX11_isOwn 15 20 184 = true := by decide +kernel
theorem dX11_isOwn_0 : decode cX11_isOwn 0 = .ok (.aload_n 0, 1) := dk_42 dg_cX11_isOwn_674.1
theorem dX11_isOwn_1 : decode cX11_isOwn 1 = .ok (.getfield 159, 3) := dk_180 dg_cX11_isOwn_674.2.1
theorem dX11_isOwn_4 : decode cX11_isOwn 4 = .ok (.ldc2_w 182, 3) := dk_20 dg_cX11_isOwn_674.2.2.1
theorem dX11_isOwn_7 : decode cX11_isOwn 7 = .ok (.lcmp, 1) := dk_148 dg_cX11_isOwn_674.2.2.2.1
theorem dX11_isOwn_8 : decode cX11_isOwn 8 = .ok (.ifCond .eq 223, 3) := dk_153 dg_cX11_isOwn_674.2.2.2.2.1
theorem dX11_isOwn_11 : decode cX11_isOwn 11 = .ok (.aload_n 0, 1) := dk_42 dg_cX11_isOwn_674.2.2.2.2.2.1
theorem dX11_isOwn_12 : decode cX11_isOwn 12 = .ok (.getfield 159, 3) := dk_180 dg_cX11_isOwn_674.2.2.2.2.2.2.1
theorem dX11_isOwn_15 : decode cX11_isOwn 15 = .ok (.ldc2_w 184, 3) := dk_20 dg_cX11_isOwn_674.2.2.2.2.2.2.2
theorem dg_cX11_isOwn_675 : ck1 cX11_isOwn 18 148 = true ∧ ck3s cX11_isOwn 19 153 212 = true ∧ ck1 cX11_isOwn 22 42 = true ∧ ck3 cX11_isOwn 23 180 159 = true ∧ ck3 cX11_isOwn 26 20 186 = true ∧ ck1 cX11_isOwn 29 148 = true ∧ ck3s cX11_isOwn 30 153 201 = true ∧ ck1 cX11_isOwn 33 42 = true := by decide +kernel
theorem dX11_isOwn_18 : decode cX11_isOwn 18 = .ok (.lcmp, 1) := dk_148 dg_cX11_isOwn_675.1
theorem dX11_isOwn_19 : decode cX11_isOwn 19 = .ok (.ifCond .eq 212, 3) := dk_153 dg_cX11_isOwn_675.2.1
theorem dX11_isOwn_22 : decode cX11_isOwn 22 = .ok (.aload_n 0, 1) := dk_42 dg_cX11_isOwn_675.2.2.1
theorem dX11_isOwn_23 : decode cX11_isOwn 23 = .ok (.getfield 159, 3) := dk_180 dg_cX11_isOwn_675.2.2.2.1
theorem dX11_isOwn_26 : decode cX11_isOwn 26 = .ok (.ldc2_w 186, 3) := dk_20 dg_cX11_isOwn_675.2.2.2.2.1
theorem dX11_isOwn_29 : decode cX11_isOwn 29 = .ok (.lcmp, 1) := dk_148 dg_cX11_isOwn_675.2.2.2.2.2.1
theorem dX11_isOwn_30 : decode cX11_isOwn 30 = .ok (.ifCond .eq 201, 3) := dk_153 dg_cX11_isOwn_675.2.2.2.2.2.2.1
theorem dX11_isOwn_33 : decode cX11_isOwn 33 = .ok (.aload_n 0, 1) := dk_42 dg_cX11_isOwn_675.2.2.2.2.2.2.2
theorem dg_cX11_isOwn_676 : ck3 cX11_isOwn 34 180 159 = true ∧ ck3 cX11_isOwn 37 20 188 = true ∧ ck1 cX11_isOwn 40 148 = true ∧ ck3s cX11_isOwn 41 153 190 = true ∧ ck1 cX11_isOwn 44 42 = true ∧ ck3 cX11_isOwn 45 180 159 = true ∧ ck3 cX11_isOwn 48 20 190 = true ∧ ck1 cX11_isOwn 51 148 = true := by decide +kernel
theorem dX11_isOwn_34 : decode cX11_isOwn 34 = .ok (.getfield 159, 3) := dk_180 dg_cX11_isOwn_676.1
theorem dX11_isOwn_37 : decode cX11_isOwn 37 = .ok (.ldc2_w 188, 3) := dk_20 dg_cX11_isOwn_676.2.1
theorem dX11_isOwn_40 : decode cX11_isOwn 40 = .ok (.lcmp, 1) := dk_148 dg_cX11_isOwn_676.2.2.1
theorem dX11_isOwn_41 : decode cX11_isOwn 41 = .ok (.ifCond .eq 190, 3) := dk_153 dg_cX11_isOwn_676.2.2.2.1
theorem dX11_isOwn_44 : decode cX11_isOwn 44 = .ok (.aload_n 0, 1) := dk_42 dg_cX11_isOwn_676.2.2.2.2.1
theorem dX11_isOwn_45 : decode cX11_isOwn 45 = .ok (.getfield 159, 3) := dk_180 dg_cX11_isOwn_676.2.2.2.2.2.1
theorem dX11_isOwn_48 : decode cX11_isOwn 48 = .ok (.ldc2_w 190, 3) := dk_20 dg_cX11_isOwn_676.2.2.2.2.2.2.1
theorem dX11_isOwn_51 : decode cX11_isOwn 51 = .ok (.lcmp, 1) := dk_148 dg_cX11_isOwn_676.2.2.2.2.2.2.2
theorem dg_cX11_isOwn_677 : ck3s cX11_isOwn 52 153 179 = true ∧ ck1 cX11_isOwn 55 42 = true ∧ ck3 cX11_isOwn 56 180 159 = true ∧ ck3 cX11_isOwn 59 20 192 = true ∧ ck1 cX11_isOwn 62 148 = true ∧ ck3s cX11_isOwn 63 153 168 = true := by decide +kernel
theorem dX11_isOwn_52 : decode cX11_isOwn 52 = .ok (.ifCond .eq 179, 3) := dk_153 dg_cX11_isOwn_677.1
theorem dX11_isOwn_55 : decode cX11_isOwn 55 = .ok (.aload_n 0, 1) := dk_42 dg_cX11_isOwn_677.2.1
theorem dX11_isOwn_56 : decode cX11_isOwn 56 = .ok (.getfield 159, 3) := dk_180 dg_cX11_isOwn_677.2.2.1
theorem dX11_isOwn_59 : decode cX11_isOwn 59 = .ok (.ldc2_w 192, 3) := dk_20 dg_cX11_isOwn_677.2.2.2.1
theorem dX11_isOwn_62 : decode cX11_isOwn 62 = .ok (.lcmp, 1) := dk_148 dg_cX11_isOwn_677.2.2.2.2.1
theorem dX11_isOwn_63 : decode cX11_isOwn 63 = .ok (.ifCond .eq 168, 3) := dk_153 dg_cX11_isOwn_677.2.2.2.2.2
def dS_cX11_isOwn_3 : List UInt8 := 0 :: 216 :: 148 :: 153 :: 0 :: 36 :: 42 :: 180 :: 0 :: 159 :: 20 :: 0 :: 218 :: 148 :: 153 :: 0 :: 25 :: 42 :: 180 :: 0 :: 159 :: 20 :: 0 :: 220 :: 148 :: 153 :: 0 :: 14 :: 42 :: 180 :: 0 :: 159 :: 20 :: 0 :: 222 :: 148 :: 154 :: 0 :: 7 :: 4 :: 167 :: 0 :: 4 :: 3 :: 172 :: []
def dS_cX11_isOwn_2 : List UInt8 := 148 :: 153 :: 0 :: 102 :: 42 :: 180 :: 0 :: 159 :: 20 :: 0 :: 206 :: 148 :: 153 :: 0 :: 91 :: 42 :: 180 :: 0 :: 159 :: 20 :: 0 :: 208 :: 148 :: 153 :: 0 :: 80 :: 42 :: 180 :: 0 :: 159 :: 20 :: 0 :: 210 :: 148 :: 153 :: 0 :: 69 :: 42 :: 180 :: 0 :: 159 :: 20 :: 0 :: 212 :: 148 :: 153 :: 0 :: 58 :: 42 :: 180 :: 0 :: 159 :: 20 :: 0 :: 214 :: 148 :: 153 :: 0 :: 47 :: 42 :: 180 :: 0 :: 159 :: 20 :: dS_cX11_isOwn_3
def dS_cX11_isOwn_1 : List UInt8 := 0 :: 168 :: 42 :: 180 :: 0 :: 159 :: 20 :: 0 :: 194 :: 148 :: 153 :: 0 :: 157 :: 42 :: 180 :: 0 :: 159 :: 20 :: 0 :: 196 :: 148 :: 153 :: 0 :: 146 :: 42 :: 180 :: 0 :: 159 :: 20 :: 0 :: 198 :: 148 :: 153 :: 0 :: 135 :: 42 :: 180 :: 0 :: 159 :: 20 :: 0 :: 200 :: 148 :: 153 :: 0 :: 124 :: 42 :: 180 :: 0 :: 159 :: 20 :: 0 :: 202 :: 148 :: 153 :: 0 :: 113 :: 42 :: 180 :: 0 :: 159 :: 20 :: 0 :: 204 :: dS_cX11_isOwn_2
def dS_cX11_isOwn_0 : List UInt8 := 42 :: 180 :: 0 :: 159 :: 20 :: 0 :: 182 :: 148 :: 153 :: 0 :: 223 :: 42 :: 180 :: 0 :: 159 :: 20 :: 0 :: 184 :: 148 :: 153 :: 0 :: 212 :: 42 :: 180 :: 0 :: 159 :: 20 :: 0 :: 186 :: 148 :: 153 :: 0 :: 201 :: 42 :: 180 :: 0 :: 159 :: 20 :: 0 :: 188 :: 148 :: 153 :: 0 :: 190 :: 42 :: 180 :: 0 :: 159 :: 20 :: 0 :: 190 :: 148 :: 153 :: 0 :: 179 :: 42 :: 180 :: 0 :: 159 :: 20 :: 0 :: 192 :: 148 :: 153 :: dS_cX11_isOwn_1
theorem dT_cX11_isOwn_0 : cX11_isOwn.data.toList.drop 0 = dS_cX11_isOwn_0 := by decide +kernel
theorem dT_cX11_isOwn_1 : cX11_isOwn.data.toList.drop 64 = dS_cX11_isOwn_1 := ck_nx dT_cX11_isOwn_0 (by decide +kernel) rfl
theorem dT_cX11_isOwn_2 : cX11_isOwn.data.toList.drop 128 = dS_cX11_isOwn_2 := ck_nx dT_cX11_isOwn_1 (by decide +kernel) rfl
theorem dT_cX11_isOwn_3 : cX11_isOwn.data.toList.drop 192 = dS_cX11_isOwn_3 := ck_nx dT_cX11_isOwn_2 (by decide +kernel) rfl
theorem dg_cX11_isOwn_678 : ck1L dS_cX11_isOwn_1 2 42 = true ∧ ck3L dS_cX11_isOwn_1 3 180 159 = true ∧ ck3L dS_cX11_isOwn_1 6 20 194 = true ∧ ck1L dS_cX11_isOwn_1 9 148 = true ∧ ck3sL dS_cX11_isOwn_1 10 153 157 = true ∧ ck1L dS_cX11_isOwn_1 13 42 = true ∧ ck3L dS_cX11_isOwn_1 14 180 159 = true ∧ ck3L dS_cX11_isOwn_1 17 20 196 = true := by decide +kernel
theorem dX11_isOwn_66 : decode cX11_isOwn 66 = .ok (.aload_n 0, 1) := dk_42 (ck1_s (r := 2) dT_cX11_isOwn_1 rfl dg_cX11_isOwn_678.1)
theorem dX11_isOwn_67 : decode cX11_isOwn 67 = .ok (.getfield 159, 3) := dk_180 (ck3_s (r := 3) dT_cX11_isOwn_1 rfl dg_cX11_isOwn_678.2.1)
theorem dX11_isOwn_70 : decode cX11_isOwn 70 = .ok (.ldc2_w 194, 3) := dk_20 (ck3_s (r := 6) dT_cX11_isOwn_1 rfl dg_cX11_isOwn_678.2.2.1)
theorem dX11_isOwn_73 : decode cX11_isOwn 73 = .ok (.lcmp, 1) := dk_148 (ck1_s (r := 9) dT_cX11_isOwn_1 rfl dg_cX11_isOwn_678.2.2.2.1)
theorem dX11_isOwn_74 : decode cX11_isOwn 74 = .ok (.ifCond .eq 157, 3) := dk_153 (ck3s_s (r := 10) dT_cX11_isOwn_1 rfl dg_cX11_isOwn_678.2.2.2.2.1)
theorem dX11_isOwn_77 : decode cX11_isOwn 77 = .ok (.aload_n 0, 1) := dk_42 (ck1_s (r := 13) dT_cX11_isOwn_1 rfl dg_cX11_isOwn_678.2.2.2.2.2.1)
theorem dX11_isOwn_78 : decode cX11_isOwn 78 = .ok (.getfield 159, 3) := dk_180 (ck3_s (r := 14) dT_cX11_isOwn_1 rfl dg_cX11_isOwn_678.2.2.2.2.2.2.1)
theorem dX11_isOwn_81 : decode cX11_isOwn 81 = .ok (.ldc2_w 196, 3) := dk_20 (ck3_s (r := 17) dT_cX11_isOwn_1 rfl dg_cX11_isOwn_678.2.2.2.2.2.2.2)
theorem dg_cX11_isOwn_679 : ck1L dS_cX11_isOwn_1 20 148 = true ∧ ck3sL dS_cX11_isOwn_1 21 153 146 = true ∧ ck1L dS_cX11_isOwn_1 24 42 = true ∧ ck3L dS_cX11_isOwn_1 25 180 159 = true ∧ ck3L dS_cX11_isOwn_1 28 20 198 = true ∧ ck1L dS_cX11_isOwn_1 31 148 = true ∧ ck3sL dS_cX11_isOwn_1 32 153 135 = true ∧ ck1L dS_cX11_isOwn_1 35 42 = true := by decide +kernel
theorem dX11_isOwn_84 : decode cX11_isOwn 84 = .ok (.lcmp, 1) := dk_148 (ck1_s (r := 20) dT_cX11_isOwn_1 rfl dg_cX11_isOwn_679.1)
theorem dX11_isOwn_85 : decode cX11_isOwn 85 = .ok (.ifCond .eq 146, 3) := dk_153 (ck3s_s (r := 21) dT_cX11_isOwn_1 rfl dg_cX11_isOwn_679.2.1)
theorem dX11_isOwn_88 : decode cX11_isOwn 88 = .ok (.aload_n 0, 1) := dk_42 (ck1_s (r := 24) dT_cX11_isOwn_1 rfl dg_cX11_isOwn_679.2.2.1)
theorem dX11_isOwn_89 : decode cX11_isOwn 89 = .ok (.getfield 159, 3) := dk_180 (ck3_s (r := 25) dT_cX11_isOwn_1 rfl dg_cX11_isOwn_679.2.2.2.1)
theorem dX11_isOwn_92 : decode cX11_isOwn 92 = .ok (.ldc2_w 198, 3) := dk_20 (ck3_s (r := 28) dT_cX11_isOwn_1 rfl dg_cX11_isOwn_679.2.2.2.2.1)
theorem dX11_isOwn_95 : decode cX11_isOwn 95 = .ok (.lcmp, 1) := dk_148 (ck1_s (r := 31) dT_cX11_isOwn_1 rfl dg_cX11_isOwn_679.2.2.2.2.2.1)
theorem dX11_isOwn_96 : decode cX11_isOwn 96 = .ok (.ifCond .eq 135, 3) := dk_153 (ck3s_s (r := 32) dT_cX11_isOwn_1 rfl dg_cX11_isOwn_679.2.2.2.2.2.2.1)
theorem dX11_isOwn_99 : decode cX11_isOwn 99 = .ok (.aload_n 0, 1) := dk_42 (ck1_s (r := 35) dT_cX11_isOwn_1 rfl dg_cX11_isOwn_679.2.2.2.2.2.2.2)
theorem dg_cX11_isOwn_680 : ck3L dS_cX11_isOwn_1 36 180 159 = true ∧ ck3L dS_cX11_isOwn_1 39 20 200 = true ∧ ck1L dS_cX11_isOwn_1 42 148 = true ∧ ck3sL dS_cX11_isOwn_1 43 153 124 = true ∧ ck1L dS_cX11_isOwn_1 46 42 = true ∧ ck3L dS_cX11_isOwn_1 47 180 159 = true ∧ ck3L dS_cX11_isOwn_1 50 20 202 = true ∧ ck1L dS_cX11_isOwn_1 53 148 = true := by decide +kernel
theorem dX11_isOwn_100 : decode cX11_isOwn 100 = .ok (.getfield 159, 3) := dk_180 (ck3_s (r := 36) dT_cX11_isOwn_1 rfl dg_cX11_isOwn_680.1)
theorem dX11_isOwn_103 : decode cX11_isOwn 103 = .ok (.ldc2_w 200, 3) := dk_20 (ck3_s (r := 39) dT_cX11_isOwn_1 rfl dg_cX11_isOwn_680.2.1)
theorem dX11_isOwn_106 : decode cX11_isOwn 106 = .ok (.lcmp, 1) := dk_148 (ck1_s (r := 42) dT_cX11_isOwn_1 rfl dg_cX11_isOwn_680.2.2.1)
theorem dX11_isOwn_107 : decode cX11_isOwn 107 = .ok (.ifCond .eq 124, 3) := dk_153 (ck3s_s (r := 43) dT_cX11_isOwn_1 rfl dg_cX11_isOwn_680.2.2.2.1)
theorem dX11_isOwn_110 : decode cX11_isOwn 110 = .ok (.aload_n 0, 1) := dk_42 (ck1_s (r := 46) dT_cX11_isOwn_1 rfl dg_cX11_isOwn_680.2.2.2.2.1)
theorem dX11_isOwn_111 : decode cX11_isOwn 111 = .ok (.getfield 159, 3) := dk_180 (ck3_s (r := 47) dT_cX11_isOwn_1 rfl dg_cX11_isOwn_680.2.2.2.2.2.1)
theorem dX11_isOwn_114 : decode cX11_isOwn 114 = .ok (.ldc2_w 202, 3) := dk_20 (ck3_s (r := 50) dT_cX11_isOwn_1 rfl dg_cX11_isOwn_680.2.2.2.2.2.2.1)
theorem dX11_isOwn_117 : decode cX11_isOwn 117 = .ok (.lcmp, 1) := dk_148 (ck1_s (r := 53) dT_cX11_isOwn_1 rfl dg_cX11_isOwn_680.2.2.2.2.2.2.2)
theorem dg_cX11_isOwn_681 : ck3sL dS_cX11_isOwn_1 54 153 113 = true ∧ ck1L dS_cX11_isOwn_1 57 42 = true ∧ ck3L dS_cX11_isOwn_1 58 180 159 = true ∧ ck3L dS_cX11_isOwn_1 61 20 204 = true ∧ ck1L dS_cX11_isOwn_2 0 148 = true ∧ ck3sL dS_cX11_isOwn_2 1 153 102 = true ∧ ck1L dS_cX11_isOwn_2 4 42 = true ∧ ck3L dS_cX11_isOwn_2 5 180 159 = true := by decide +kernel
theorem dX11_isOwn_118 : decode cX11_isOwn 118 = .ok (.ifCond .eq 113, 3) := dk_153 (ck3s_s (r := 54) dT_cX11_isOwn_1 rfl dg_cX11_isOwn_681.1)
theorem dX11_isOwn_121 : decode cX11_isOwn 121 = .ok (.aload_n 0, 1) := dk_42 (ck1_s (r := 57) dT_cX11_isOwn_1 rfl dg_cX11_isOwn_681.2.1)
theorem dX11_isOwn_122 : decode cX11_isOwn 122 = .ok (.getfield 159, 3) := dk_180 (ck3_s (r := 58) dT_cX11_isOwn_1 rfl dg_cX11_isOwn_681.2.2.1)
theorem dX11_isOwn_125 : decode cX11_isOwn 125 = .ok (.ldc2_w 204, 3) := dk_20 (ck3_s (r := 61) dT_cX11_isOwn_1 rfl dg_cX11_isOwn_681.2.2.2.1)
theorem dX11_isOwn_128 : decode cX11_isOwn 128 = .ok (.lcmp, 1) := dk_148 (ck1_s (r := 0) dT_cX11_isOwn_2 rfl dg_cX11_isOwn_681.2.2.2.2.1)
theorem dX11_isOwn_129 : decode cX11_isOwn 129 = .ok (.ifCond .eq 102, 3) := dk_153 (ck3s_s (r := 1) dT_cX11_isOwn_2 rfl dg_cX11_isOwn_681.2.2.2.2.2.1)
theorem dX11_isOwn_132 : decode cX11_isOwn 132 = .ok (.aload_n 0, 1) := dk_42 (ck1_s (r := 4) dT_cX11_isOwn_2 rfl dg_cX11_isOwn_681.2.2.2.2.2.2.1)
theorem dX11_isOwn_133 : decode cX11_isOwn 133 = .ok (.getfield 159, 3) := dk_180 (ck3_s (r := 5) dT_cX11_isOwn_2 rfl dg_cX11_isOwn_681.2.2.2.2.2.2.2)
theorem dg_cX11_isOwn_682 : ck3L dS_cX11_isOwn_2 8 20 206 = true ∧ ck1L dS_cX11_isOwn_2 11 148 = true ∧ ck3sL dS_cX11_isOwn_2 12 153 91 = true ∧ ck1L dS_cX11_isOwn_2 15 42 = true ∧ ck3L dS_cX11_isOwn_2 16 180 159 = true ∧ ck3L dS_cX11_isOwn_2 19 20 208 = true ∧ ck1L dS_cX11_isOwn_2 22 148 = true ∧ ck3sL dS_cX11_isOwn_2 23 153 80 = true := by decide +kernel
theorem dX11_isOwn_136 : decode cX11_isOwn 136 = .ok (.ldc2_w 206, 3) := dk_20 (ck3_s (r := 8) dT_cX11_isOwn_2 rfl dg_cX11_isOwn_682.1)
theorem dX11_isOwn_139 : decode cX11_isOwn 139 = .ok (.lcmp, 1) := dk_148 (ck1_s (r := 11) dT_cX11_isOwn_2 rfl dg_cX11_isOwn_682.2.1)
theorem dX11_isOwn_140 : decode cX11_isOwn 140 = .ok (.ifCond .eq 91, 3) := dk_153 (ck3s_s (r := 12) dT_cX11_isOwn_2 rfl dg_cX11_isOwn_682.2.2.1)
theorem dX11_isOwn_143 : decode cX11_isOwn 143 = .ok (.aload_n 0, 1) := dk_42 (ck1_s (r := 15) dT_cX11_isOwn_2 rfl dg_cX11_isOwn_682.2.2.2.1)
theorem dX11_isOwn_144 : decode cX11_isOwn 144 = .ok (.getfield 159, 3) := dk_180 (ck3_s (r := 16) dT_cX11_isOwn_2 rfl dg_cX11_isOwn_682.2.2.2.2.1)
theorem dX11_isOwn_147 : decode cX11_isOwn 147 = .ok (.ldc2_w 208, 3) := dk_20 (ck3_s (r := 19) dT_cX11_isOwn_2 rfl dg_cX11_isOwn_682.2.2.2.2.2.1)
theorem dX11_isOwn_150 : decode cX11_isOwn 150 = .ok (.lcmp, 1) := dk_148 (ck1_s (r := 22) dT_cX11_isOwn_2 rfl dg_cX11_isOwn_682.2.2.2.2.2.2.1)
theorem dX11_isOwn_151 : decode cX11_isOwn 151 = .ok (.ifCond .eq 80, 3) := dk_153 (ck3s_s (r := 23) dT_cX11_isOwn_2 rfl dg_cX11_isOwn_682.2.2.2.2.2.2.2)
theorem dg_cX11_isOwn_683 : ck1L dS_cX11_isOwn_2 26 42 = true ∧ ck3L dS_cX11_isOwn_2 27 180 159 = true ∧ ck3L dS_cX11_isOwn_2 30 20 210 = true ∧ ck1L dS_cX11_isOwn_2 33 148 = true ∧ ck3sL dS_cX11_isOwn_2 34 153 69 = true ∧ ck1L dS_cX11_isOwn_2 37 42 = true ∧ ck3L dS_cX11_isOwn_2 38 180 159 = true ∧ ck3L dS_cX11_isOwn_2 41 20 212 = true := by decide +kernel
theorem dX11_isOwn_154 : decode cX11_isOwn 154 = .ok (.aload_n 0, 1) := dk_42 (ck1_s (r := 26) dT_cX11_isOwn_2 rfl dg_cX11_isOwn_683.1)
theorem dX11_isOwn_155 : decode cX11_isOwn 155 = .ok (.getfield 159, 3) := dk_180 (ck3_s (r := 27) dT_cX11_isOwn_2 rfl dg_cX11_isOwn_683.2.1)
theorem dX11_isOwn_158 : decode cX11_isOwn 158 = .ok (.ldc2_w 210, 3) := dk_20 (ck3_s (r := 30) dT_cX11_isOwn_2 rfl dg_cX11_isOwn_683.2.2.1)
theorem dX11_isOwn_161 : decode cX11_isOwn 161 = .ok (.lcmp, 1) := dk_148 (ck1_s (r := 33) dT_cX11_isOwn_2 rfl dg_cX11_isOwn_683.2.2.2.1)
theorem dX11_isOwn_162 : decode cX11_isOwn 162 = .ok (.ifCond .eq 69, 3) := dk_153 (ck3s_s (r := 34) dT_cX11_isOwn_2 rfl dg_cX11_isOwn_683.2.2.2.2.1)
theorem dX11_isOwn_165 : decode cX11_isOwn 165 = .ok (.aload_n 0, 1) := dk_42 (ck1_s (r := 37) dT_cX11_isOwn_2 rfl dg_cX11_isOwn_683.2.2.2.2.2.1)
theorem dX11_isOwn_166 : decode cX11_isOwn 166 = .ok (.getfield 159, 3) := dk_180 (ck3_s (r := 38) dT_cX11_isOwn_2 rfl dg_cX11_isOwn_683.2.2.2.2.2.2.1)
theorem dX11_isOwn_169 : decode cX11_isOwn 169 = .ok (.ldc2_w 212, 3) := dk_20 (ck3_s (r := 41) dT_cX11_isOwn_2 rfl dg_cX11_isOwn_683.2.2.2.2.2.2.2)
theorem dg_cX11_isOwn_684 : ck1L dS_cX11_isOwn_2 44 148 = true ∧ ck3sL dS_cX11_isOwn_2 45 153 58 = true ∧ ck1L dS_cX11_isOwn_2 48 42 = true ∧ ck3L dS_cX11_isOwn_2 49 180 159 = true ∧ ck3L dS_cX11_isOwn_2 52 20 214 = true ∧ ck1L dS_cX11_isOwn_2 55 148 = true ∧ ck3sL dS_cX11_isOwn_2 56 153 47 = true ∧ ck1L dS_cX11_isOwn_2 59 42 = true := by decide +kernel
theorem dX11_isOwn_172 : decode cX11_isOwn 172 = .ok (.lcmp, 1) := dk_148 (ck1_s (r := 44) dT_cX11_isOwn_2 rfl dg_cX11_isOwn_684.1)
theorem dX11_isOwn_173 : decode cX11_isOwn 173 = .ok (.ifCond .eq 58, 3) := dk_153 (ck3s_s (r := 45) dT_cX11_isOwn_2 rfl dg_cX11_isOwn_684.2.1)
theorem dX11_isOwn_176 : decode cX11_isOwn 176 = .ok (.aload_n 0, 1) := dk_42 (ck1_s (r := 48) dT_cX11_isOwn_2 rfl dg_cX11_isOwn_684.2.2.1)
theorem dX11_isOwn_177 : decode cX11_isOwn 177 = .ok (.getfield 159, 3) := dk_180 (ck3_s (r := 49) dT_cX11_isOwn_2 rfl dg_cX11_isOwn_684.2.2.2.1)
theorem dX11_isOwn_180 : decode cX11_isOwn 180 = .ok (.ldc2_w 214, 3) := dk_20 (ck3_s (r := 52) dT_cX11_isOwn_2 rfl dg_cX11_isOwn_684.2.2.2.2.1)
theorem dX11_isOwn_183 : decode cX11_isOwn 183 = .ok (.lcmp, 1) := dk_148 (ck1_s (r := 55) dT_cX11_isOwn_2 rfl dg_cX11_isOwn_684.2.2.2.2.2.1)
theorem dX11_isOwn_184 : decode cX11_isOwn 184 = .ok (.ifCond .eq 47, 3) := dk_153 (ck3s_s (r := 56) dT_cX11_isOwn_2 rfl dg_cX11_isOwn_684.2.2.2.2.2.2.1)
theorem dX11_isOwn_187 : decode cX11_isOwn 187 = .ok (.aload_n 0, 1) := dk_42 (ck1_s (r := 59) dT_cX11_isOwn_2 rfl dg_cX11_isOwn_684.2.2.2.2.2.2.2)
theorem dg_cX11_isOwn_685 : ck3L dS_cX11_isOwn_2 60 180 159 = true ∧ ck3L dS_cX11_isOwn_2 63 20 216 = true ∧ ck1L dS_cX11_isOwn_3 2 148 = true ∧ ck3sL dS_cX11_isOwn_3 3 153 36 = true ∧ ck1L dS_cX11_isOwn_3 6 42 = true ∧ ck3L dS_cX11_isOwn_3 7 180 159 = true ∧ ck3L dS_cX11_isOwn_3 10 20 218 = true ∧ ck1L dS_cX11_isOwn_3 13 148 = true := by decide +kernel
theorem dX11_isOwn_188 : decode cX11_isOwn 188 = .ok (.getfield 159, 3) := dk_180 (ck3_s (r := 60) dT_cX11_isOwn_2 rfl dg_cX11_isOwn_685.1)
theorem dX11_isOwn_191 : decode cX11_isOwn 191 = .ok (.ldc2_w 216, 3) := dk_20 (ck3_s (r := 63) dT_cX11_isOwn_2 rfl dg_cX11_isOwn_685.2.1)
theorem dX11_isOwn_194 : decode cX11_isOwn 194 = .ok (.lcmp, 1) := dk_148 (ck1_s (r := 2) dT_cX11_isOwn_3 rfl dg_cX11_isOwn_685.2.2.1)
theorem dX11_isOwn_195 : decode cX11_isOwn 195 = .ok (.ifCond .eq 36, 3) := dk_153 (ck3s_s (r := 3) dT_cX11_isOwn_3 rfl dg_cX11_isOwn_685.2.2.2.1)
theorem dX11_isOwn_198 : decode cX11_isOwn 198 = .ok (.aload_n 0, 1) := dk_42 (ck1_s (r := 6) dT_cX11_isOwn_3 rfl dg_cX11_isOwn_685.2.2.2.2.1)
theorem dX11_isOwn_199 : decode cX11_isOwn 199 = .ok (.getfield 159, 3) := dk_180 (ck3_s (r := 7) dT_cX11_isOwn_3 rfl dg_cX11_isOwn_685.2.2.2.2.2.1)
theorem dX11_isOwn_202 : decode cX11_isOwn 202 = .ok (.ldc2_w 218, 3) := dk_20 (ck3_s (r := 10) dT_cX11_isOwn_3 rfl dg_cX11_isOwn_685.2.2.2.2.2.2.1)
theorem dX11_isOwn_205 : decode cX11_isOwn 205 = .ok (.lcmp, 1) := dk_148 (ck1_s (r := 13) dT_cX11_isOwn_3 rfl dg_cX11_isOwn_685.2.2.2.2.2.2.2)
theorem dg_cX11_isOwn_686 : ck3sL dS_cX11_isOwn_3 14 153 25 = true ∧ ck1L dS_cX11_isOwn_3 17 42 = true ∧ ck3L dS_cX11_isOwn_3 18 180 159 = true ∧ ck3L dS_cX11_isOwn_3 21 20 220 = true ∧ ck1L dS_cX11_isOwn_3 24 148 = true ∧ ck3sL dS_cX11_isOwn_3 25 153 14 = true ∧ ck1L dS_cX11_isOwn_3 28 42 = true ∧ ck3L dS_cX11_isOwn_3 29 180 159 = true := by decide +kernel
theorem dX11_isOwn_206 : decode cX11_isOwn 206 = .ok (.ifCond .eq 25, 3) := dk_153 (ck3s_s (r := 14) dT_cX11_isOwn_3 rfl dg_cX11_isOwn_686.1)
theorem dX11_isOwn_209 : decode cX11_isOwn 209 = .ok (.aload_n 0, 1) := dk_42 (ck1_s (r := 17) dT_cX11_isOwn_3 rfl dg_cX11_isOwn_686.2.1)
theorem dX11_isOwn_210 : decode cX11_isOwn 210 = .ok (.getfield 159, 3) := dk_180 (ck3_s (r := 18) dT_cX11_isOwn_3 rfl dg_cX11_isOwn_686.2.2.1)
theorem dX11_isOwn_213 : decode cX11_isOwn 213 = .ok (.ldc2_w 220, 3) := dk_20 (ck3_s (r := 21) dT_cX11_isOwn_3 rfl dg_cX11_isOwn_686.2.2.2.1)
theorem dX11_isOwn_216 : decode cX11_isOwn 216 = .ok (.lcmp, 1) := dk_148 (ck1_s (r := 24) dT_cX11_isOwn_3 rfl dg_cX11_isOwn_686.2.2.2.2.1)
theorem dX11_isOwn_217 : decode cX11_isOwn 217 = .ok (.ifCond .eq 14, 3) := dk_153 (ck3s_s (r := 25) dT_cX11_isOwn_3 rfl dg_cX11_isOwn_686.2.2.2.2.2.1)
theorem dX11_isOwn_220 : decode cX11_isOwn 220 = .ok (.aload_n 0, 1) := dk_42 (ck1_s (r := 28) dT_cX11_isOwn_3 rfl dg_cX11_isOwn_686.2.2.2.2.2.2.1)
theorem dX11_isOwn_221 : decode cX11_isOwn 221 = .ok (.getfield 159, 3) := dk_180 (ck3_s (r := 29) dT_cX11_isOwn_3 rfl dg_cX11_isOwn_686.2.2.2.2.2.2.2)
theorem dg_cX11_isOwn_687 : ck3L dS_cX11_isOwn_3 32 20 222 = true ∧ ck1L dS_cX11_isOwn_3 35 148 = true ∧ ck3sL dS_cX11_isOwn_3 36 154 7 = true ∧ ck1L dS_cX11_isOwn_3 39 4 = true ∧ ck3sL dS_cX11_isOwn_3 40 167 4 = true ∧ ck1L dS_cX11_isOwn_3 43 3 = true ∧ ck1L dS_cX11_isOwn_3 44 172 = true := by decide +kernel
theorem dX11_isOwn_224 : decode cX11_isOwn 224 = .ok (.ldc2_w 222, 3) := dk_20 (ck3_s (r := 32) dT_cX11_isOwn_3 rfl dg_cX11_isOwn_687.1)
theorem dX11_isOwn_227 : decode cX11_isOwn 227 = .ok (.lcmp, 1) := dk_148 (ck1_s (r := 35) dT_cX11_isOwn_3 rfl dg_cX11_isOwn_687.2.1)
theorem dX11_isOwn_228 : decode cX11_isOwn 228 = .ok (.ifCond .ne 7, 3) := dk_154 (ck3s_s (r := 36) dT_cX11_isOwn_3 rfl dg_cX11_isOwn_687.2.2.1)
theorem dX11_isOwn_231 : decode cX11_isOwn 231 = .ok (.iconst 1, 1) := dk_4 (ck1_s (r := 39) dT_cX11_isOwn_3 rfl dg_cX11_isOwn_687.2.2.2.1)
theorem dX11_isOwn_232 : decode cX11_isOwn 232 = .ok (.goto 4, 3) := dk_167 (ck3s_s (r := 40) dT_cX11_isOwn_3 rfl dg_cX11_isOwn_687.2.2.2.2.1)
theorem dX11_isOwn_235 : decode cX11_isOwn 235 = .ok (.iconst 0, 1) := dk_3 (ck1_s (r := 43) dT_cX11_isOwn_3 rfl dg_cX11_isOwn_687.2.2.2.2.2.1)
theorem dX11_isOwn_236 : decode cX11_isOwn 236 = .ok (.ireturn, 1) := dk_172 (ck1_s (r := 44) dT_cX11_isOwn_3 rfl dg_cX11_isOwn_687.2.2.2.2.2.2)
theorem dg_cX11_isRest_688 : ck1 cX11_isRest 0 4 = true ∧ ck2 cX11_isRest 1 54 6 = true ∧ ck1 cX11_isRest 3 3 = true ∧ ck2 cX11_isRest 4 54 7 = true ∧ ck2 cX11_isRest 6 21 7 = true ∧ ck1 cX11_isRest 8 42 = true ∧ ck3 cX11_isRest 9 180 390 = true ∧ ck3s cX11_isRest 12 162 73 = true := by decide +kernel
theorem dX11_isRest_0 : decode cX11_isRest 0 = .ok (.iconst 1, 1) := dk_4 dg_cX11_isRest_688.1
theorem dX11_isRest_1 : decode cX11_isRest 1 = .ok (.istore 6, 2) := dk_54 dg_cX11_isRest_688.2.1
theorem dX11_isRest_3 : decode cX11_isRest 3 = .ok (.iconst 0, 1) := dk_3 dg_cX11_isRest_688.2.2.1
theorem dX11_isRest_4 : decode cX11_isRest 4 = .ok (.istore 7, 2) := dk_54 dg_cX11_isRest_688.2.2.2.1
theorem dX11_isRest_6 : decode cX11_isRest 6 = .ok (.iload 7, 2) := dk_21 dg_cX11_isRest_688.2.2.2.2.1
theorem dX11_isRest_8 : decode cX11_isRest 8 = .ok (.aload_n 0, 1) := dk_42 dg_cX11_isRest_688.2.2.2.2.2.1
theorem dX11_isRest_9 : decode cX11_isRest 9 = .ok (.getfield 390, 3) := dk_180 dg_cX11_isRest_688.2.2.2.2.2.2.1
theorem dX11_isRest_12 : decode cX11_isRest 12 = .ok (.if_icmp .ge 73, 3) := dk_162 dg_cX11_isRest_688.2.2.2.2.2.2.2
theorem dg_cX11_isRest_689 : ck2 cX11_isRest 15 21 5 = true ∧ ck2 cX11_isRest 17 21 7 = true ∧ ck1 cX11_isRest 19 122 = true ∧ ck1 cX11_isRest 20 4 = true ∧ ck1 cX11_isRest 21 126 = true ∧ ck3s cX11_isRest 22 154 6 = true ∧ ck3s cX11_isRest 25 167 54 = true ∧ ck2 cX11_isRest 28 21 6 = true := by decide +kernel
theorem dX11_isRest_15 : decode cX11_isRest 15 = .ok (.iload 5, 2) := dk_21 dg_cX11_isRest_689.1
theorem dX11_isRest_17 : decode cX11_isRest 17 = .ok (.iload 7, 2) := dk_21 dg_cX11_isRest_689.2.1
theorem dX11_isRest_19 : decode cX11_isRest 19 = .ok (.ishr, 1) := dk_122 dg_cX11_isRest_689.2.2.1
theorem dX11_isRest_20 : decode cX11_isRest 20 = .ok (.iconst 1, 1) := dk_4 dg_cX11_isRest_689.2.2.2.1
theorem dX11_isRest_21 : decode cX11_isRest 21 = .ok (.iand, 1) := dk_126 dg_cX11_isRest_689.2.2.2.2.1
theorem dX11_isRest_22 : decode cX11_isRest 22 = .ok (.ifCond .ne 6, 3) := dk_154 dg_cX11_isRest_689.2.2.2.2.2.1
theorem dX11_isRest_25 : decode cX11_isRest 25 = .ok (.goto 54, 3) := dk_167 dg_cX11_isRest_689.2.2.2.2.2.2.1
theorem dX11_isRest_28 : decode cX11_isRest 28 = .ok (.iload 6, 2) := dk_21 dg_cX11_isRest_689.2.2.2.2.2.2.2
theorem dg_cX11_isRest_690 : ck3s cX11_isRest 30 153 46 = true ∧ ck1 cX11_isRest 33 42 = true ∧ ck1 cX11_isRest 34 27 = true ∧ ck2 cX11_isRest 35 21 7 = true ∧ ck2 cX11_isRest 37 21 4 = true ∧ ck3 cX11_isRest 39 182 508 = true ∧ ck1 cX11_isRest 42 42 = true ∧ ck1 cX11_isRest 43 27 = true := by decide +kernel
theorem dX11_isRest_30 : decode cX11_isRest 30 = .ok (.ifCond .eq 46, 3) := dk_153 dg_cX11_isRest_690.1
theorem dX11_isRest_33 : decode cX11_isRest 33 = .ok (.aload_n 0, 1) := dk_42 dg_cX11_isRest_690.2.1
theorem dX11_isRest_34 : decode cX11_isRest 34 = .ok (.iload_n 1, 1) := dk_27 dg_cX11_isRest_690.2.2.1
theorem dX11_isRest_35 : decode cX11_isRest 35 = .ok (.iload 7, 2) := dk_21 dg_cX11_isRest_690.2.2.2.1
theorem dX11_isRest_37 : decode cX11_isRest 37 = .ok (.iload 4, 2) := dk_21 dg_cX11_isRest_690.2.2.2.2.1
theorem dX11_isRest_39 : decode cX11_isRest 39 = .ok (.invokevirtual 508, 3) := dk_182 dg_cX11_isRest_690.2.2.2.2.2.1
theorem dX11_isRest_42 : decode cX11_isRest 42 = .ok (.aload_n 0, 1) := dk_42 dg_cX11_isRest_690.2.2.2.2.2.2.1
theorem dX11_isRest_43 : decode cX11_isRest 43 = .ok (.iload_n 1, 1) := dk_27 dg_cX11_isRest_690.2.2.2.2.2.2.2
theorem dg_cX11_isRest_691 : ck1 cX11_isRest 44 29 = true ∧ ck2 cX11_isRest 45 21 4 = true ∧ ck3 cX11_isRest 47 182 508 = true ∧ ck3s cX11_isRest 50 161 26 = true ∧ ck1 cX11_isRest 53 42 = true ∧ ck1 cX11_isRest 54 28 = true ∧ ck2 cX11_isRest 55 21 7 = true ∧ ck1 cX11_isRest 57 29 = true := by decide +kernel
theorem dX11_isRest_44 : decode cX11_isRest 44 = .ok (.iload_n 3, 1) := dk_29 dg_cX11_isRest_691.1
theorem dX11_isRest_45 : decode cX11_isRest 45 = .ok (.iload 4, 2) := dk_21 dg_cX11_isRest_691.2.1
theorem dX11_isRest_47 : decode cX11_isRest 47 = .ok (.invokevirtual 508, 3) := dk_182 dg_cX11_isRest_691.2.2.1
theorem dX11_isRest_50 : decode cX11_isRest 50 = .ok (.if_icmp .lt 26, 3) := dk_161 dg_cX11_isRest_691.2.2.2.1
theorem dX11_isRest_53 : decode cX11_isRest 53 = .ok (.aload_n 0, 1) := dk_42 dg_cX11_isRest_691.2.2.2.2.1
theorem dX11_isRest_54 : decode cX11_isRest 54 = .ok (.iload_n 2, 1) := dk_28 dg_cX11_isRest_691.2.2.2.2.2.1
theorem dX11_isRest_55 : decode cX11_isRest 55 = .ok (.iload 7, 2) := dk_21 dg_cX11_isRest_691.2.2.2.2.2.2.1
theorem dX11_isRest_57 : decode cX11_isRest 57 = .ok (.iload_n 3, 1) := dk_29 dg_cX11_isRest_691.2.2.2.2.2.2.2
theorem dg_cX11_isRest_692 : ck3 cX11_isRest 58 182 508 = true ∧ ck1 cX11_isRest 61 42 = true ∧ ck1 cX11_isRest 62 28 = true ∧ ck2 cX11_isRest 63 21 4 = true := by decide +kernel
theorem dX11_isRest_58 : decode cX11_isRest 58 = .ok (.invokevirtual 508, 3) := dk_182 dg_cX11_isRest_692.1
theorem dX11_isRest_61 : decode cX11_isRest 61 = .ok (.aload_n 0, 1) := dk_42 dg_cX11_isRest_692.2.1
theorem dX11_isRest_62 : decode cX11_isRest 62 = .ok (.iload_n 2, 1) := dk_28 dg_cX11_isRest_692.2.2.1
theorem dX11_isRest_63 : decode cX11_isRest 63 = .ok (.iload 4, 2) := dk_21 dg_cX11_isRest_692.2.2.2
def dS_cX11_isRest_1 : List UInt8 := 4 :: 29 :: 182 :: 1 :: 252 :: 161 :: 0 :: 7 :: 4 :: 167 :: 0 :: 4 :: 3 :: 54 :: 6 :: 132 :: 7 :: 1 :: 167 :: 255 :: 180 :: 21 :: 6 :: 172 :: []
def dS_cX11_isRest_0 : List UInt8 := 4 :: 54 :: 6 :: 3 :: 54 :: 7 :: 21 :: 7 :: 42 :: 180 :: 1 :: 134 :: 162 :: 0 :: 73 :: 21 :: 5 :: 21 :: 7 :: 122 :: 4 :: 126 :: 154 :: 0 :: 6 :: 167 :: 0 :: 54 :: 21 :: 6 :: 153 :: 0 :: 46 :: 42 :: 27 :: 21 :: 7 :: 21 :: 4 :: 182 :: 1 :: 252 :: 42 :: 27 :: 29 :: 21 :: 4 :: 182 :: 1 :: 252 :: 161 :: 0 :: 26 :: 42 :: 28 :: 21 :: 7 :: 29 :: 182 :: 1 :: 252 :: 42 :: 28 :: 21 :: dS_cX11_isRest_1
theorem dT_cX11_isRest_0 : cX11_isRest.data.toList.drop 0 = dS_cX11_isRest_0 := by decide +kernel
theorem dT_cX11_isRest_1 : cX11_isRest.data.toList.drop 64 = dS_cX11_isRest_1 := ck_nx dT_cX11_isRest_0 (by decide +kernel) rfl
theorem dg_cX11_isRest_693 : ck1L dS_cX11_isRest_1 1 29 = true ∧ ck3L dS_cX11_isRest_1 2 182 508 = true ∧ ck3sL dS_cX11_isRest_1 5 161 7 = true ∧ ck1L dS_cX11_isRest_1 8 4 = true ∧ ck3sL dS_cX11_isRest_1 9 167 4 = true ∧ ck1L dS_cX11_isRest_1 12 3 = true ∧ ck2L dS_cX11_isRest_1 13 54 6 = true ∧ ck3iL dS_cX11_isRest_1 15 132 7 1 = true := by decide +kernel
theorem dX11_isRest_65 : decode cX11_isRest 65 = .ok (.iload_n 3, 1) := dk_29 (ck1_s (r := 1) dT_cX11_isRest_1 rfl dg_cX11_isRest_693.1)
theorem dX11_isRest_66 : decode cX11_isRest 66 = .ok (.invokevirtual 508, 3) := dk_182 (ck3_s (r := 2) dT_cX11_isRest_1 rfl dg_cX11_isRest_693.2.1)
theorem dX11_isRest_69 : decode cX11_isRest 69 = .ok (.if_icmp .lt 7, 3) := dk_161 (ck3s_s (r := 5) dT_cX11_isRest_1 rfl dg_cX11_isRest_693.2.2.1)
theorem dX11_isRest_72 : decode cX11_isRest 72 = .ok (.iconst 1, 1) := dk_4 (ck1_s (r := 8) dT_cX11_isRest_1 rfl dg_cX11_isRest_693.2.2.2.1)
theorem dX11_isRest_73 : decode cX11_isRest 73 = .ok (.goto 4, 3) := dk_167 (ck3s_s (r := 9) dT_cX11_isRest_1 rfl dg_cX11_isRest_693.2.2.2.2.1)
theorem dX11_isRest_76 : decode cX11_isRest 76 = .ok (.iconst 0, 1) := dk_3 (ck1_s (r := 12) dT_cX11_isRest_1 rfl dg_cX11_isRest_693.2.2.2.2.2.1)
theorem dX11_isRest_77 : decode cX11_isRest 77 = .ok (.istore 6, 2) := dk_54 (ck2_s (r := 13) dT_cX11_isRest_1 rfl dg_cX11_isRest_693.2.2.2.2.2.2.1)
theorem dX11_isRest_79 : decode cX11_isRest 79 = .ok (.iinc 7 1, 3) := dk_132 (ck3i_s (r := 15) dT_cX11_isRest_1 rfl dg_cX11_isRest_693.2.2.2.2.2.2.2)
theorem dg_cX11_isRest_694 : ck3sL dS_cX11_isRest_1 18 167 (-76) = true ∧ ck2L dS_cX11_isRest_1 21 21 6 = true ∧ ck1L dS_cX11_isRest_1 23 172 = true := by decide +kernel
theorem dX11_isRest_82 : decode cX11_isRest 82 = .ok (.goto (-76), 3) := dk_167 (ck3s_s (r := 18) dT_cX11_isRest_1 rfl dg_cX11_isRest_694.1)
theorem dX11_isRest_85 : decode cX11_isRest 85 = .ok (.iload 6, 2) := dk_21 (ck2_s (r := 21) dT_cX11_isRest_1 rfl dg_cX11_isRest_694.2.1)
theorem dX11_isRest_87 : decode cX11_isRest 87 = .ok (.ireturn, 1) := dk_172 (ck1_s (r := 23) dT_cX11_isRest_1 rfl dg_cX11_isRest_694.2.2)
theorem dg_cX11_isSewn_695 : ck1 cX11_isSewn 0 42 = true ∧ ck3 cX11_isSewn 1 182 449 = true ∧ ck1 cX11_isSewn 4 42 = true ∧ ck3 cX11_isSewn 5 180 96 = true ∧ ck2s cX11_isSewn 8 16 12 = true ∧ ck1 cX11_isSewn 10 27 = true ∧ ck1 cX11_isSewn 11 96 = true ∧ ck1 cX11_isSewn 12 92 = true := by decide +kernel
theorem dX11_isSewn_0 : decode cX11_isSewn 0 = .ok (.aload_n 0, 1) := dk_42 dg_cX11_isSewn_695.1
theorem dX11_isSewn_1 : decode cX11_isSewn 1 = .ok (.invokevirtual 449, 3) := dk_182 dg_cX11_isSewn_695.2.1
theorem dX11_isSewn_4 : decode cX11_isSewn 4 = .ok (.aload_n 0, 1) := dk_42 dg_cX11_isSewn_695.2.2.1
theorem dX11_isSewn_5 : decode cX11_isSewn 5 = .ok (.getfield 96, 3) := dk_180 dg_cX11_isSewn_695.2.2.2.1
theorem dX11_isSewn_8 : decode cX11_isSewn 8 = .ok (.bipush 12, 2) := dk_16 dg_cX11_isSewn_695.2.2.2.2.1
theorem dX11_isSewn_10 : decode cX11_isSewn 10 = .ok (.iload_n 1, 1) := dk_27 dg_cX11_isSewn_695.2.2.2.2.2.1
theorem dX11_isSewn_11 : decode cX11_isSewn 11 = .ok (.iadd, 1) := dk_96 dg_cX11_isSewn_695.2.2.2.2.2.2.1
theorem dX11_isSewn_12 : decode cX11_isSewn 12 = .ok (.dup2, 1) := dk_92 dg_cX11_isSewn_695.2.2.2.2.2.2.2
theorem dg_cX11_isSewn_696 : ck1 cX11_isSewn 13 46 = true ∧ ck1 cX11_isSewn 14 29 = true ∧ ck1 cX11_isSewn 15 100 = true ∧ ck1 cX11_isSewn 16 79 = true ∧ ck1 cX11_isSewn 17 42 = true ∧ ck3 cX11_isSewn 18 180 96 = true ∧ ck2s cX11_isSewn 21 16 18 = true ∧ ck1 cX11_isSewn 23 27 = true := by decide +kernel
theorem dX11_isSewn_13 : decode cX11_isSewn 13 = .ok (.iaload, 1) := dk_46 dg_cX11_isSewn_696.1
theorem dX11_isSewn_14 : decode cX11_isSewn 14 = .ok (.iload_n 3, 1) := dk_29 dg_cX11_isSewn_696.2.1
theorem dX11_isSewn_15 : decode cX11_isSewn 15 = .ok (.isub, 1) := dk_100 dg_cX11_isSewn_696.2.2.1
theorem dX11_isSewn_16 : decode cX11_isSewn 16 = .ok (.iastore, 1) := dk_79 dg_cX11_isSewn_696.2.2.2.1
theorem dX11_isSewn_17 : decode cX11_isSewn 17 = .ok (.aload_n 0, 1) := dk_42 dg_cX11_isSewn_696.2.2.2.2.1
theorem dX11_isSewn_18 : decode cX11_isSewn 18 = .ok (.getfield 96, 3) := dk_180 dg_cX11_isSewn_696.2.2.2.2.2.1
theorem dX11_isSewn_21 : decode cX11_isSewn 21 = .ok (.bipush 18, 2) := dk_16 dg_cX11_isSewn_696.2.2.2.2.2.2.1
theorem dX11_isSewn_23 : decode cX11_isSewn 23 = .ok (.iload_n 1, 1) := dk_27 dg_cX11_isSewn_696.2.2.2.2.2.2.2
theorem dg_cX11_isSewn_697 : ck1 cX11_isSewn 24 96 = true ∧ ck1 cX11_isSewn 25 92 = true ∧ ck1 cX11_isSewn 26 46 = true ∧ ck2 cX11_isSewn 27 21 4 = true ∧ ck1 cX11_isSewn 29 100 = true ∧ ck1 cX11_isSewn 30 79 = true ∧ ck1 cX11_isSewn 31 42 = true ∧ ck1 cX11_isSewn 32 28 = true := by decide +kernel
theorem dX11_isSewn_24 : decode cX11_isSewn 24 = .ok (.iadd, 1) := dk_96 dg_cX11_isSewn_697.1
theorem dX11_isSewn_25 : decode cX11_isSewn 25 = .ok (.dup2, 1) := dk_92 dg_cX11_isSewn_697.2.1
theorem dX11_isSewn_26 : decode cX11_isSewn 26 = .ok (.iaload, 1) := dk_46 dg_cX11_isSewn_697.2.2.1
theorem dX11_isSewn_27 : decode cX11_isSewn 27 = .ok (.iload 4, 2) := dk_21 dg_cX11_isSewn_697.2.2.2.1
theorem dX11_isSewn_29 : decode cX11_isSewn 29 = .ok (.isub, 1) := dk_100 dg_cX11_isSewn_697.2.2.2.2.1
theorem dX11_isSewn_30 : decode cX11_isSewn 30 = .ok (.iastore, 1) := dk_79 dg_cX11_isSewn_697.2.2.2.2.2.1
theorem dX11_isSewn_31 : decode cX11_isSewn 31 = .ok (.aload_n 0, 1) := dk_42 dg_cX11_isSewn_697.2.2.2.2.2.2.1
theorem dX11_isSewn_32 : decode cX11_isSewn 32 = .ok (.iload_n 2, 1) := dk_28 dg_cX11_isSewn_697.2.2.2.2.2.2.2
theorem dg_cX11_isSewn_698 : ck1 cX11_isSewn 33 27 = true ∧ ck3 cX11_isSewn 34 182 421 = true ∧ ck1 cX11_isSewn 37 42 = true ∧ ck3 cX11_isSewn 38 180 84 = true ∧ ck3s cX11_isSewn 41 163 7 = true ∧ ck1 cX11_isSewn 44 4 = true ∧ ck3s cX11_isSewn 45 167 4 = true ∧ ck1 cX11_isSewn 48 3 = true := by decide +kernel
theorem dX11_isSewn_33 : decode cX11_isSewn 33 = .ok (.iload_n 1, 1) := dk_27 dg_cX11_isSewn_698.1
theorem dX11_isSewn_34 : decode cX11_isSewn 34 = .ok (.invokevirtual 421, 3) := dk_182 dg_cX11_isSewn_698.2.1
theorem dX11_isSewn_37 : decode cX11_isSewn 37 = .ok (.aload_n 0, 1) := dk_42 dg_cX11_isSewn_698.2.2.1
theorem dX11_isSewn_38 : decode cX11_isSewn 38 = .ok (.getfield 84, 3) := dk_180 dg_cX11_isSewn_698.2.2.2.1
theorem dX11_isSewn_41 : decode cX11_isSewn 41 = .ok (.if_icmp .gt 7, 3) := dk_163 dg_cX11_isSewn_698.2.2.2.2.1
theorem dX11_isSewn_44 : decode cX11_isSewn 44 = .ok (.iconst 1, 1) := dk_4 dg_cX11_isSewn_698.2.2.2.2.2.1
theorem dX11_isSewn_45 : decode cX11_isSewn 45 = .ok (.goto 4, 3) := dk_167 dg_cX11_isSewn_698.2.2.2.2.2.2.1
theorem dX11_isSewn_48 : decode cX11_isSewn 48 = .ok (.iconst 0, 1) := dk_3 dg_cX11_isSewn_698.2.2.2.2.2.2.2
theorem dg_cX11_isSewn_699 : ck1 cX11_isSewn 49 172 = true := by decide +kernel
theorem dX11_isSewn_49 : decode cX11_isSewn 49 = .ok (.ireturn, 1) := dk_172 dg_cX11_isSewn_699
theorem dg_cX11_isSign_700 : ck1 cX11_isSign 0 26 = true ∧ ck2s cX11_isSign 1 16 59 = true ∧ ck3s cX11_isSign 3 159 63 = true ∧ ck1 cX11_isSign 6 26 = true ∧ ck2s cX11_isSign 7 16 40 = true ∧ ck3s cX11_isSign 9 159 57 = true ∧ ck1 cX11_isSign 12 26 = true ∧ ck2s cX11_isSign 13 16 41 = true := by decide +kernel
theorem dX11_isSign_0 : decode cX11_isSign 0 = .ok (.iload_n 0, 1) := dk_26 dg_cX11_isSign_700.1
theorem dX11_isSign_1 : decode cX11_isSign 1 = .ok (.bipush 59, 2) := dk_16 dg_cX11_isSign_700.2.1
theorem dX11_isSign_3 : decode cX11_isSign 3 = .ok (.if_icmp .eq 63, 3) := dk_159 dg_cX11_isSign_700.2.2.1
theorem dX11_isSign_6 : decode cX11_isSign 6 = .ok (.iload_n 0, 1) := dk_26 dg_cX11_isSign_700.2.2.2.1
theorem dX11_isSign_7 : decode cX11_isSign 7 = .ok (.bipush 40, 2) := dk_16 dg_cX11_isSign_700.2.2.2.2.1
theorem dX11_isSign_9 : decode cX11_isSign 9 = .ok (.if_icmp .eq 57, 3) := dk_159 dg_cX11_isSign_700.2.2.2.2.2.1
theorem dX11_isSign_12 : decode cX11_isSign 12 = .ok (.iload_n 0, 1) := dk_26 dg_cX11_isSign_700.2.2.2.2.2.2.1
theorem dX11_isSign_13 : decode cX11_isSign 13 = .ok (.bipush 41, 2) := dk_16 dg_cX11_isSign_700.2.2.2.2.2.2.2
theorem dg_cX11_isSign_701 : ck3s cX11_isSign 15 159 51 = true ∧ ck1 cX11_isSign 18 26 = true ∧ ck2s cX11_isSign 19 16 60 = true ∧ ck3s cX11_isSign 21 159 45 = true ∧ ck1 cX11_isSign 24 26 = true ∧ ck2s cX11_isSign 25 16 62 = true ∧ ck3s cX11_isSign 27 159 39 = true ∧ ck1 cX11_isSign 30 26 = true := by decide +kernel
theorem dX11_isSign_15 : decode cX11_isSign 15 = .ok (.if_icmp .eq 51, 3) := dk_159 dg_cX11_isSign_701.1
theorem dX11_isSign_18 : decode cX11_isSign 18 = .ok (.iload_n 0, 1) := dk_26 dg_cX11_isSign_701.2.1
theorem dX11_isSign_19 : decode cX11_isSign 19 = .ok (.bipush 60, 2) := dk_16 dg_cX11_isSign_701.2.2.1
theorem dX11_isSign_21 : decode cX11_isSign 21 = .ok (.if_icmp .eq 45, 3) := dk_159 dg_cX11_isSign_701.2.2.2.1
theorem dX11_isSign_24 : decode cX11_isSign 24 = .ok (.iload_n 0, 1) := dk_26 dg_cX11_isSign_701.2.2.2.2.1
theorem dX11_isSign_25 : decode cX11_isSign 25 = .ok (.bipush 62, 2) := dk_16 dg_cX11_isSign_701.2.2.2.2.2.1
theorem dX11_isSign_27 : decode cX11_isSign 27 = .ok (.if_icmp .eq 39, 3) := dk_159 dg_cX11_isSign_701.2.2.2.2.2.2.1
theorem dX11_isSign_30 : decode cX11_isSign 30 = .ok (.iload_n 0, 1) := dk_26 dg_cX11_isSign_701.2.2.2.2.2.2.2
theorem dg_cX11_isSign_702 : ck2s cX11_isSign 31 16 61 = true ∧ ck3s cX11_isSign 33 159 33 = true ∧ ck1 cX11_isSign 36 26 = true ∧ ck2s cX11_isSign 37 16 43 = true ∧ ck3s cX11_isSign 39 159 27 = true ∧ ck1 cX11_isSign 42 26 = true ∧ ck2s cX11_isSign 43 16 45 = true ∧ ck3s cX11_isSign 45 159 21 = true := by decide +kernel
theorem dX11_isSign_31 : decode cX11_isSign 31 = .ok (.bipush 61, 2) := dk_16 dg_cX11_isSign_702.1
theorem dX11_isSign_33 : decode cX11_isSign 33 = .ok (.if_icmp .eq 33, 3) := dk_159 dg_cX11_isSign_702.2.1
theorem dX11_isSign_36 : decode cX11_isSign 36 = .ok (.iload_n 0, 1) := dk_26 dg_cX11_isSign_702.2.2.1
theorem dX11_isSign_37 : decode cX11_isSign 37 = .ok (.bipush 43, 2) := dk_16 dg_cX11_isSign_702.2.2.2.1
theorem dX11_isSign_39 : decode cX11_isSign 39 = .ok (.if_icmp .eq 27, 3) := dk_159 dg_cX11_isSign_702.2.2.2.2.1
theorem dX11_isSign_42 : decode cX11_isSign 42 = .ok (.iload_n 0, 1) := dk_26 dg_cX11_isSign_702.2.2.2.2.2.1
theorem dX11_isSign_43 : decode cX11_isSign 43 = .ok (.bipush 45, 2) := dk_16 dg_cX11_isSign_702.2.2.2.2.2.2.1
theorem dX11_isSign_45 : decode cX11_isSign 45 = .ok (.if_icmp .eq 21, 3) := dk_159 dg_cX11_isSign_702.2.2.2.2.2.2.2
theorem dg_cX11_isSign_703 : ck1 cX11_isSign 48 26 = true ∧ ck2s cX11_isSign 49 16 42 = true ∧ ck3s cX11_isSign 51 159 15 = true ∧ ck1 cX11_isSign 54 26 = true ∧ ck2s cX11_isSign 55 16 47 = true ∧ ck3s cX11_isSign 57 159 9 = true ∧ ck1 cX11_isSign 60 26 = true ∧ ck2s cX11_isSign 61 16 37 = true := by decide +kernel
theorem dX11_isSign_48 : decode cX11_isSign 48 = .ok (.iload_n 0, 1) := dk_26 dg_cX11_isSign_703.1
theorem dX11_isSign_49 : decode cX11_isSign 49 = .ok (.bipush 42, 2) := dk_16 dg_cX11_isSign_703.2.1
theorem dX11_isSign_51 : decode cX11_isSign 51 = .ok (.if_icmp .eq 15, 3) := dk_159 dg_cX11_isSign_703.2.2.1
theorem dX11_isSign_54 : decode cX11_isSign 54 = .ok (.iload_n 0, 1) := dk_26 dg_cX11_isSign_703.2.2.2.1
theorem dX11_isSign_55 : decode cX11_isSign 55 = .ok (.bipush 47, 2) := dk_16 dg_cX11_isSign_703.2.2.2.2.1
theorem dX11_isSign_57 : decode cX11_isSign 57 = .ok (.if_icmp .eq 9, 3) := dk_159 dg_cX11_isSign_703.2.2.2.2.2.1
theorem dX11_isSign_60 : decode cX11_isSign 60 = .ok (.iload_n 0, 1) := dk_26 dg_cX11_isSign_703.2.2.2.2.2.2.1
theorem dX11_isSign_61 : decode cX11_isSign 61 = .ok (.bipush 37, 2) := dk_16 dg_cX11_isSign_703.2.2.2.2.2.2.2
theorem dg_cX11_isSign_704 : ck3s cX11_isSign 63 160 7 = true := by decide +kernel
theorem dX11_isSign_63 : decode cX11_isSign 63 = .ok (.if_icmp .ne 7, 3) := dk_160 dg_cX11_isSign_704
def dS_cX11_isSign_1 : List UInt8 := 0 :: 7 :: 4 :: 167 :: 0 :: 4 :: 3 :: 172 :: []
def dS_cX11_isSign_0 : List UInt8 := 26 :: 16 :: 59 :: 159 :: 0 :: 63 :: 26 :: 16 :: 40 :: 159 :: 0 :: 57 :: 26 :: 16 :: 41 :: 159 :: 0 :: 51 :: 26 :: 16 :: 60 :: 159 :: 0 :: 45 :: 26 :: 16 :: 62 :: 159 :: 0 :: 39 :: 26 :: 16 :: 61 :: 159 :: 0 :: 33 :: 26 :: 16 :: 43 :: 159 :: 0 :: 27 :: 26 :: 16 :: 45 :: 159 :: 0 :: 21 :: 26 :: 16 :: 42 :: 159 :: 0 :: 15 :: 26 :: 16 :: 47 :: 159 :: 0 :: 9 :: 26 :: 16 :: 37 :: 160 :: dS_cX11_isSign_1
theorem dT_cX11_isSign_0 : cX11_isSign.data.toList.drop 0 = dS_cX11_isSign_0 := by decide +kernel
theorem dT_cX11_isSign_1 : cX11_isSign.data.toList.drop 64 = dS_cX11_isSign_1 := ck_nx dT_cX11_isSign_0 (by decide +kernel) rfl
theorem dg_cX11_isSign_705 : ck1L dS_cX11_isSign_1 2 4 = true ∧ ck3sL dS_cX11_isSign_1 3 167 4 = true ∧ ck1L dS_cX11_isSign_1 6 3 = true ∧ ck1L dS_cX11_isSign_1 7 172 = true := by decide +kernel
theorem dX11_isSign_66 : decode cX11_isSign 66 = .ok (.iconst 1, 1) := dk_4 (ck1_s (r := 2) dT_cX11_isSign_1 rfl dg_cX11_isSign_705.1)
theorem dX11_isSign_67 : decode cX11_isSign 67 = .ok (.goto 4, 3) := dk_167 (ck3s_s (r := 3) dT_cX11_isSign_1 rfl dg_cX11_isSign_705.2.1)
theorem dX11_isSign_70 : decode cX11_isSign 70 = .ok (.iconst 0, 1) := dk_3 (ck1_s (r := 6) dT_cX11_isSign_1 rfl dg_cX11_isSign_705.2.2.1)
theorem dX11_isSign_71 : decode cX11_isSign 71 = .ok (.ireturn, 1) := dk_172 (ck1_s (r := 7) dT_cX11_isSign_1 rfl dg_cX11_isSign_705.2.2.2)
theorem dg_cX11_isWord_706 : ck1 cX11_isWord 0 42 = true ∧ ck3 cX11_isWord 1 180 166 = true ∧ ck1 cX11_isWord 4 4 = true ∧ ck3s cX11_isWord 5 160 16 = true ∧ ck1 cX11_isWord 8 42 = true ∧ ck3 cX11_isWord 9 180 159 = true ∧ ck1 cX11_isWord 12 31 = true ∧ ck1 cX11_isWord 13 148 = true := by decide +kernel
theorem dX11_isWord_0 : decode cX11_isWord 0 = .ok (.aload_n 0, 1) := dk_42 dg_cX11_isWord_706.1
theorem dX11_isWord_1 : decode cX11_isWord 1 = .ok (.getfield 166, 3) := dk_180 dg_cX11_isWord_706.2.1
theorem dX11_isWord_4 : decode cX11_isWord 4 = .ok (.iconst 1, 1) := dk_4 dg_cX11_isWord_706.2.2.1
theorem dX11_isWord_5 : decode cX11_isWord 5 = .ok (.if_icmp .ne 16, 3) := dk_160 dg_cX11_isWord_706.2.2.2.1
theorem dX11_isWord_8 : decode cX11_isWord 8 = .ok (.aload_n 0, 1) := dk_42 dg_cX11_isWord_706.2.2.2.2.1
theorem dX11_isWord_9 : decode cX11_isWord 9 = .ok (.getfield 159, 3) := dk_180 dg_cX11_isWord_706.2.2.2.2.2.1
theorem dX11_isWord_12 : decode cX11_isWord 12 = .ok (.lload_n 1, 1) := dk_31 dg_cX11_isWord_706.2.2.2.2.2.2.1
theorem dX11_isWord_13 : decode cX11_isWord 13 = .ok (.lcmp, 1) := dk_148 dg_cX11_isWord_706.2.2.2.2.2.2.2
theorem dg_cX11_isWord_707 : ck3s cX11_isWord 14 154 7 = true ∧ ck1 cX11_isWord 17 4 = true ∧ ck3s cX11_isWord 18 167 4 = true ∧ ck1 cX11_isWord 21 3 = true ∧ ck1 cX11_isWord 22 172 = true := by decide +kernel
theorem dX11_isWord_14 : decode cX11_isWord 14 = .ok (.ifCond .ne 7, 3) := dk_154 dg_cX11_isWord_707.1
theorem dX11_isWord_17 : decode cX11_isWord 17 = .ok (.iconst 1, 1) := dk_4 dg_cX11_isWord_707.2.1
theorem dX11_isWord_18 : decode cX11_isWord 18 = .ok (.goto 4, 3) := dk_167 dg_cX11_isWord_707.2.2.1
theorem dX11_isWord_21 : decode cX11_isWord 21 = .ok (.iconst 0, 1) := dk_3 dg_cX11_isWord_707.2.2.2.1
theorem dX11_isWord_22 : decode cX11_isWord 22 = .ok (.ireturn, 1) := dk_172 dg_cX11_isWord_707.2.2.2.2
theorem dg_cX11_keepAir_708 : ck1 cX11_keepAir 0 3 = true ∧ ck1 cX11_keepAir 1 60 = true ∧ ck1 cX11_keepAir 2 27 = true ∧ ck2s cX11_keepAir 3 16 39 = true ∧ ck3s cX11_keepAir 5 162 21 = true ∧ ck1 cX11_keepAir 8 42 = true ∧ ck3 cX11_keepAir 9 180 93 = true ∧ ck1 cX11_keepAir 12 27 = true := by decide +kernel
theorem dX11_keepAir_0 : decode cX11_keepAir 0 = .ok (.iconst 0, 1) := dk_3 dg_cX11_keepAir_708.1
theorem dX11_keepAir_1 : decode cX11_keepAir 1 = .ok (.istore_n 1, 1) := dk_60 dg_cX11_keepAir_708.2.1
theorem dX11_keepAir_2 : decode cX11_keepAir 2 = .ok (.iload_n 1, 1) := dk_27 dg_cX11_keepAir_708.2.2.1
theorem dX11_keepAir_3 : decode cX11_keepAir 3 = .ok (.bipush 39, 2) := dk_16 dg_cX11_keepAir_708.2.2.2.1
theorem dX11_keepAir_5 : decode cX11_keepAir 5 = .ok (.if_icmp .ge 21, 3) := dk_162 dg_cX11_keepAir_708.2.2.2.2.1
theorem dX11_keepAir_8 : decode cX11_keepAir 8 = .ok (.aload_n 0, 1) := dk_42 dg_cX11_keepAir_708.2.2.2.2.2.1
theorem dX11_keepAir_9 : decode cX11_keepAir 9 = .ok (.getfield 93, 3) := dk_180 dg_cX11_keepAir_708.2.2.2.2.2.2.1
theorem dX11_keepAir_12 : decode cX11_keepAir 12 = .ok (.iload_n 1, 1) := dk_27 dg_cX11_keepAir_708.2.2.2.2.2.2.2
theorem dg_cX11_keepAir_709 : ck1 cX11_keepAir 13 42 = true ∧ ck3 cX11_keepAir 14 180 96 = true ∧ ck1 cX11_keepAir 17 27 = true ∧ ck1 cX11_keepAir 18 46 = true ∧ ck1 cX11_keepAir 19 79 = true ∧ ck3i cX11_keepAir 20 132 1 1 = true ∧ ck3s cX11_keepAir 23 167 (-21) = true ∧ ck1 cX11_keepAir 26 177 = true := by decide +kernel
theorem dX11_keepAir_13 : decode cX11_keepAir 13 = .ok (.aload_n 0, 1) := dk_42 dg_cX11_keepAir_709.1
theorem dX11_keepAir_14 : decode cX11_keepAir 14 = .ok (.getfield 96, 3) := dk_180 dg_cX11_keepAir_709.2.1
theorem dX11_keepAir_17 : decode cX11_keepAir 17 = .ok (.iload_n 1, 1) := dk_27 dg_cX11_keepAir_709.2.2.1
theorem dX11_keepAir_18 : decode cX11_keepAir 18 = .ok (.iaload, 1) := dk_46 dg_cX11_keepAir_709.2.2.2.1
theorem dX11_keepAir_19 : decode cX11_keepAir 19 = .ok (.iastore, 1) := dk_79 dg_cX11_keepAir_709.2.2.2.2.1
theorem dX11_keepAir_20 : decode cX11_keepAir 20 = .ok (.iinc 1 1, 3) := dk_132 dg_cX11_keepAir_709.2.2.2.2.2.1
theorem dX11_keepAir_23 : decode cX11_keepAir 23 = .ok (.goto (-21), 3) := dk_167 dg_cX11_keepAir_709.2.2.2.2.2.2.1
theorem dX11_keepAir_26 : decode cX11_keepAir 26 = .ok (.return_, 1) := dk_177 dg_cX11_keepAir_709.2.2.2.2.2.2.2
theorem dg_cX11_later_710 : ck1 cX11_later 0 27 = true ∧ ck3s cX11_later 1 155 22 = true ∧ ck1 cX11_later 4 27 = true ∧ ck3s cX11_later 5 17 1000 = true ∧ ck3s cX11_later 8 163 15 = true ∧ ck1 cX11_later 11 42 = true ∧ ck3 cX11_later 12 180 527 = true ∧ ck1 cX11_later 15 27 = true := by decide +kernel
theorem dX11_later_0 : decode cX11_later 0 = .ok (.iload_n 1, 1) := dk_27 dg_cX11_later_710.1
theorem dX11_later_1 : decode cX11_later 1 = .ok (.ifCond .lt 22, 3) := dk_155 dg_cX11_later_710.2.1
theorem dX11_later_4 : decode cX11_later 4 = .ok (.iload_n 1, 1) := dk_27 dg_cX11_later_710.2.2.1
theorem dX11_later_5 : decode cX11_later 5 = .ok (.sipush 1000, 3) := dk_17 dg_cX11_later_710.2.2.2.1
theorem dX11_later_8 : decode cX11_later 8 = .ok (.if_icmp .gt 15, 3) := dk_163 dg_cX11_later_710.2.2.2.2.1
theorem dX11_later_11 : decode cX11_later 11 = .ok (.aload_n 0, 1) := dk_42 dg_cX11_later_710.2.2.2.2.2.1
theorem dX11_later_12 : decode cX11_later 12 = .ok (.getfield 527, 3) := dk_180 dg_cX11_later_710.2.2.2.2.2.2.1
theorem dX11_later_15 : decode cX11_later 15 = .ok (.iload_n 1, 1) := dk_27 dg_cX11_later_710.2.2.2.2.2.2.2
theorem dg_cX11_later_711 : ck1 cX11_later 16 96 = true ∧ ck3 cX11_later 17 19 530 = true ∧ ck3s cX11_later 20 164 5 = true ∧ ck1 cX11_later 23 2 = true ∧ ck1 cX11_later 24 172 = true ∧ ck1 cX11_later 25 42 = true ∧ ck1 cX11_later 26 89 = true ∧ ck3 cX11_later 27 180 527 = true := by decide +kernel
theorem dX11_later_16 : decode cX11_later 16 = .ok (.iadd, 1) := dk_96 dg_cX11_later_711.1
theorem dX11_later_17 : decode cX11_later 17 = .ok (.ldc_w 530, 3) := dk_19 dg_cX11_later_711.2.1
theorem dX11_later_20 : decode cX11_later 20 = .ok (.if_icmp .le 5, 3) := dk_164 dg_cX11_later_711.2.2.1
theorem dX11_later_23 : decode cX11_later 23 = .ok (.iconst (-1), 1) := dk_2 dg_cX11_later_711.2.2.2.1
theorem dX11_later_24 : decode cX11_later 24 = .ok (.ireturn, 1) := dk_172 dg_cX11_later_711.2.2.2.2.1
theorem dX11_later_25 : decode cX11_later 25 = .ok (.aload_n 0, 1) := dk_42 dg_cX11_later_711.2.2.2.2.2.1
theorem dX11_later_26 : decode cX11_later 26 = .ok (.dup, 1) := dk_89 dg_cX11_later_711.2.2.2.2.2.2.1
theorem dX11_later_27 : decode cX11_later 27 = .ok (.getfield 527, 3) := dk_180 dg_cX11_later_711.2.2.2.2.2.2.2
theorem dg_cX11_later_712 : ck1 cX11_later 30 27 = true ∧ ck1 cX11_later 31 96 = true ∧ ck3 cX11_later 32 181 527 = true ∧ ck1 cX11_later 35 42 = true ∧ ck3 cX11_later 36 180 527 = true ∧ ck1 cX11_later 39 172 = true := by decide +kernel
theorem dX11_later_30 : decode cX11_later 30 = .ok (.iload_n 1, 1) := dk_27 dg_cX11_later_712.1
theorem dX11_later_31 : decode cX11_later 31 = .ok (.iadd, 1) := dk_96 dg_cX11_later_712.2.1
theorem dX11_later_32 : decode cX11_later 32 = .ok (.putfield 527, 3) := dk_181 dg_cX11_later_712.2.2.1
theorem dX11_later_35 : decode cX11_later 35 = .ok (.aload_n 0, 1) := dk_42 dg_cX11_later_712.2.2.2.1
theorem dX11_later_36 : decode cX11_later 36 = .ok (.getfield 527, 3) := dk_180 dg_cX11_later_712.2.2.2.2.1
theorem dX11_later_39 : decode cX11_later 39 = .ok (.ireturn, 1) := dk_172 dg_cX11_later_712.2.2.2.2.2
theorem dg_cX11_law_713 : ck1 cX11_law 0 27 = true ∧ ck1 cX11_law 1 3 = true ∧ ck3s cX11_law 2 17 999 = true ∧ ck3 cX11_law 5 184 417 = true ∧ ck3s cX11_law 8 154 5 = true ∧ ck1 cX11_law 11 2 = true ∧ ck1 cX11_law 12 172 = true ∧ ck1 cX11_law 13 42 = true := by decide +kernel
theorem dX11_law_0 : decode cX11_law 0 = .ok (.iload_n 1, 1) := dk_27 dg_cX11_law_713.1
theorem dX11_law_1 : decode cX11_law 1 = .ok (.iconst 0, 1) := dk_3 dg_cX11_law_713.2.1
theorem dX11_law_2 : decode cX11_law 2 = .ok (.sipush 999, 3) := dk_17 dg_cX11_law_713.2.2.1
theorem dX11_law_5 : decode cX11_law 5 = .ok (.invokestatic 417, 3) := dk_184 dg_cX11_law_713.2.2.2.1
theorem dX11_law_8 : decode cX11_law 8 = .ok (.ifCond .ne 5, 3) := dk_154 dg_cX11_law_713.2.2.2.2.1
theorem dX11_law_11 : decode cX11_law 11 = .ok (.iconst (-1), 1) := dk_2 dg_cX11_law_713.2.2.2.2.2.1
theorem dX11_law_12 : decode cX11_law 12 = .ok (.ireturn, 1) := dk_172 dg_cX11_law_713.2.2.2.2.2.2.1
theorem dX11_law_13 : decode cX11_law 13 = .ok (.aload_n 0, 1) := dk_42 dg_cX11_law_713.2.2.2.2.2.2.2
theorem dg_cX11_law_714 : ck3 cX11_law 14 182 449 = true ∧ ck1 cX11_law 17 3 = true ∧ ck1 cX11_law 18 61 = true ∧ ck1 cX11_law 19 3 = true ∧ ck1 cX11_law 20 62 = true ∧ ck1 cX11_law 21 29 = true ∧ ck1 cX11_law 22 42 = true ∧ ck3 cX11_law 23 180 387 = true := by decide +kernel
theorem dX11_law_14 : decode cX11_law 14 = .ok (.invokevirtual 449, 3) := dk_182 dg_cX11_law_714.1
theorem dX11_law_17 : decode cX11_law 17 = .ok (.iconst 0, 1) := dk_3 dg_cX11_law_714.2.1
theorem dX11_law_18 : decode cX11_law 18 = .ok (.istore_n 2, 1) := dk_61 dg_cX11_law_714.2.2.1
theorem dX11_law_19 : decode cX11_law 19 = .ok (.iconst 0, 1) := dk_3 dg_cX11_law_714.2.2.2.1
theorem dX11_law_20 : decode cX11_law 20 = .ok (.istore_n 3, 1) := dk_62 dg_cX11_law_714.2.2.2.2.1
theorem dX11_law_21 : decode cX11_law 21 = .ok (.iload_n 3, 1) := dk_29 dg_cX11_law_714.2.2.2.2.2.1
theorem dX11_law_22 : decode cX11_law 22 = .ok (.aload_n 0, 1) := dk_42 dg_cX11_law_714.2.2.2.2.2.2.1
theorem dX11_law_23 : decode cX11_law 23 = .ok (.getfield 387, 3) := dk_180 dg_cX11_law_714.2.2.2.2.2.2.2
theorem dg_cX11_law_715 : ck3s cX11_law 26 162 37 = true ∧ ck1 cX11_law 29 28 = true ∧ ck1 cX11_law 30 42 = true ∧ ck1 cX11_law 31 29 = true ∧ ck3 cX11_law 32 182 521 = true ∧ ck3s cX11_law 35 155 16 = true ∧ ck1 cX11_law 38 42 = true ∧ ck1 cX11_law 39 29 = true := by decide +kernel
theorem dX11_law_26 : decode cX11_law 26 = .ok (.if_icmp .ge 37, 3) := dk_162 dg_cX11_law_715.1
theorem dX11_law_29 : decode cX11_law 29 = .ok (.iload_n 2, 1) := dk_28 dg_cX11_law_715.2.1
theorem dX11_law_30 : decode cX11_law 30 = .ok (.aload_n 0, 1) := dk_42 dg_cX11_law_715.2.2.1
theorem dX11_law_31 : decode cX11_law 31 = .ok (.iload_n 3, 1) := dk_29 dg_cX11_law_715.2.2.2.1
theorem dX11_law_32 : decode cX11_law 32 = .ok (.invokevirtual 521, 3) := dk_182 dg_cX11_law_715.2.2.2.2.1
theorem dX11_law_35 : decode cX11_law 35 = .ok (.ifCond .lt 16, 3) := dk_155 dg_cX11_law_715.2.2.2.2.2.1
theorem dX11_law_38 : decode cX11_law 38 = .ok (.aload_n 0, 1) := dk_42 dg_cX11_law_715.2.2.2.2.2.2.1
theorem dX11_law_39 : decode cX11_law 39 = .ok (.iload_n 3, 1) := dk_29 dg_cX11_law_715.2.2.2.2.2.2.2
theorem dg_cX11_law_716 : ck3 cX11_law 40 182 521 = true ∧ ck1 cX11_law 43 27 = true ∧ ck3s cX11_law 44 163 7 = true ∧ ck1 cX11_law 47 4 = true ∧ ck3s cX11_law 48 167 4 = true ∧ ck1 cX11_law 51 3 = true ∧ ck3 cX11_law 52 184 310 = true ∧ ck1 cX11_law 55 96 = true := by decide +kernel
theorem dX11_law_40 : decode cX11_law 40 = .ok (.invokevirtual 521, 3) := dk_182 dg_cX11_law_716.1
theorem dX11_law_43 : decode cX11_law 43 = .ok (.iload_n 1, 1) := dk_27 dg_cX11_law_716.2.1
theorem dX11_law_44 : decode cX11_law 44 = .ok (.if_icmp .gt 7, 3) := dk_163 dg_cX11_law_716.2.2.1
theorem dX11_law_47 : decode cX11_law 47 = .ok (.iconst 1, 1) := dk_4 dg_cX11_law_716.2.2.2.1
theorem dX11_law_48 : decode cX11_law 48 = .ok (.goto 4, 3) := dk_167 dg_cX11_law_716.2.2.2.2.1
theorem dX11_law_51 : decode cX11_law 51 = .ok (.iconst 0, 1) := dk_3 dg_cX11_law_716.2.2.2.2.2.1
theorem dX11_law_52 : decode cX11_law 52 = .ok (.invokestatic 310, 3) := dk_184 dg_cX11_law_716.2.2.2.2.2.2.1
theorem dX11_law_55 : decode cX11_law 55 = .ok (.iadd, 1) := dk_96 dg_cX11_law_716.2.2.2.2.2.2.2
theorem dg_cX11_law_717 : ck1 cX11_law 56 61 = true ∧ ck3i cX11_law 57 132 3 1 = true ∧ ck3s cX11_law 60 167 (-39) = true ∧ ck1 cX11_law 63 28 = true := by decide +kernel
theorem dX11_law_56 : decode cX11_law 56 = .ok (.istore_n 2, 1) := dk_61 dg_cX11_law_717.1
theorem dX11_law_57 : decode cX11_law 57 = .ok (.iinc 3 1, 3) := dk_132 dg_cX11_law_717.2.1
theorem dX11_law_60 : decode cX11_law 60 = .ok (.goto (-39), 3) := dk_167 dg_cX11_law_717.2.2.1
theorem dX11_law_63 : decode cX11_law 63 = .ok (.iload_n 2, 1) := dk_28 dg_cX11_law_717.2.2.2
def dS_cX11_law_1 : List UInt8 := 172 :: []
def dS_cX11_law_0 : List UInt8 := 27 :: 3 :: 17 :: 3 :: 231 :: 184 :: 1 :: 161 :: 154 :: 0 :: 5 :: 2 :: 172 :: 42 :: 182 :: 1 :: 193 :: 3 :: 61 :: 3 :: 62 :: 29 :: 42 :: 180 :: 1 :: 131 :: 162 :: 0 :: 37 :: 28 :: 42 :: 29 :: 182 :: 2 :: 9 :: 155 :: 0 :: 16 :: 42 :: 29 :: 182 :: 2 :: 9 :: 27 :: 163 :: 0 :: 7 :: 4 :: 167 :: 0 :: 4 :: 3 :: 184 :: 1 :: 54 :: 96 :: 61 :: 132 :: 3 :: 1 :: 167 :: 255 :: 217 :: 28 :: dS_cX11_law_1
theorem dT_cX11_law_0 : cX11_law.data.toList.drop 0 = dS_cX11_law_0 := by decide +kernel
theorem dT_cX11_law_1 : cX11_law.data.toList.drop 64 = dS_cX11_law_1 := ck_nx dT_cX11_law_0 (by decide +kernel) rfl
theorem dg_cX11_law_718 : ck1L dS_cX11_law_1 0 172 = true := by decide +kernel
theorem dX11_law_64 : decode cX11_law 64 = .ok (.ireturn, 1) := dk_172 (ck1_s (r := 0) dT_cX11_law_1 rfl dg_cX11_law_718)
theorem dg_cX11_layColours_719 : ck1 cX11_layColours 0 28 = true ∧ ck1 cX11_layColours 1 62 = true ∧ ck1 cX11_layColours 2 42 = true ∧ ck3 cX11_layColours 3 180 387 = true ∧ ck1 cX11_layColours 6 4 = true ∧ ck1 cX11_layColours 7 100 = true ∧ ck2 cX11_layColours 8 54 4 = true ∧ ck2 cX11_layColours 10 21 4 = true := by decide +kernel
theorem dX11_layColours_0 : decode cX11_layColours 0 = .ok (.iload_n 2, 1) := dk_28 dg_cX11_layColours_719.1
theorem dX11_layColours_1 : decode cX11_layColours 1 = .ok (.istore_n 3, 1) := dk_62 dg_cX11_layColours_719.2.1
theorem dX11_layColours_2 : decode cX11_layColours 2 = .ok (.aload_n 0, 1) := dk_42 dg_cX11_layColours_719.2.2.1
theorem dX11_layColours_3 : decode cX11_layColours 3 = .ok (.getfield 387, 3) := dk_180 dg_cX11_layColours_719.2.2.2.1
theorem dX11_layColours_6 : decode cX11_layColours 6 = .ok (.iconst 1, 1) := dk_4 dg_cX11_layColours_719.2.2.2.2.1
theorem dX11_layColours_7 : decode cX11_layColours 7 = .ok (.isub, 1) := dk_100 dg_cX11_layColours_719.2.2.2.2.2.1
theorem dX11_layColours_8 : decode cX11_layColours 8 = .ok (.istore 4, 2) := dk_54 dg_cX11_layColours_719.2.2.2.2.2.2.1
theorem dX11_layColours_10 : decode cX11_layColours 10 = .ok (.iload 4, 2) := dk_21 dg_cX11_layColours_719.2.2.2.2.2.2.2
theorem dg_cX11_layColours_720 : ck3s cX11_layColours 12 155 23 = true ∧ ck1 cX11_layColours 15 42 = true ∧ ck3 cX11_layColours 16 180 105 = true ∧ ck2 cX11_layColours 19 21 4 = true ∧ ck1 cX11_layColours 21 29 = true ∧ ck1 cX11_layColours 22 27 = true ∧ ck1 cX11_layColours 23 112 = true ∧ ck1 cX11_layColours 24 79 = true := by decide +kernel
theorem dX11_layColours_12 : decode cX11_layColours 12 = .ok (.ifCond .lt 23, 3) := dk_155 dg_cX11_layColours_720.1
theorem dX11_layColours_15 : decode cX11_layColours 15 = .ok (.aload_n 0, 1) := dk_42 dg_cX11_layColours_720.2.1
theorem dX11_layColours_16 : decode cX11_layColours 16 = .ok (.getfield 105, 3) := dk_180 dg_cX11_layColours_720.2.2.1
theorem dX11_layColours_19 : decode cX11_layColours 19 = .ok (.iload 4, 2) := dk_21 dg_cX11_layColours_720.2.2.2.1
theorem dX11_layColours_21 : decode cX11_layColours 21 = .ok (.iload_n 3, 1) := dk_29 dg_cX11_layColours_720.2.2.2.2.1
theorem dX11_layColours_22 : decode cX11_layColours 22 = .ok (.iload_n 1, 1) := dk_27 dg_cX11_layColours_720.2.2.2.2.2.1
theorem dX11_layColours_23 : decode cX11_layColours 23 = .ok (.irem, 1) := dk_112 dg_cX11_layColours_720.2.2.2.2.2.2.1
theorem dX11_layColours_24 : decode cX11_layColours 24 = .ok (.iastore, 1) := dk_79 dg_cX11_layColours_720.2.2.2.2.2.2.2
theorem dg_cX11_layColours_721 : ck1 cX11_layColours 25 29 = true ∧ ck1 cX11_layColours 26 27 = true ∧ ck1 cX11_layColours 27 108 = true ∧ ck1 cX11_layColours 28 62 = true ∧ ck3i cX11_layColours 29 132 4 (-1) = true ∧ ck3s cX11_layColours 32 167 (-22) = true ∧ ck1 cX11_layColours 35 4 = true ∧ ck2 cX11_layColours 36 54 4 = true := by decide +kernel
theorem dX11_layColours_25 : decode cX11_layColours 25 = .ok (.iload_n 3, 1) := dk_29 dg_cX11_layColours_721.1
theorem dX11_layColours_26 : decode cX11_layColours 26 = .ok (.iload_n 1, 1) := dk_27 dg_cX11_layColours_721.2.1
theorem dX11_layColours_27 : decode cX11_layColours 27 = .ok (.idiv, 1) := dk_108 dg_cX11_layColours_721.2.2.1
theorem dX11_layColours_28 : decode cX11_layColours 28 = .ok (.istore_n 3, 1) := dk_62 dg_cX11_layColours_721.2.2.2.1
theorem dX11_layColours_29 : decode cX11_layColours 29 = .ok (.iinc 4 (-1), 3) := dk_132 dg_cX11_layColours_721.2.2.2.2.1
theorem dX11_layColours_32 : decode cX11_layColours 32 = .ok (.goto (-22), 3) := dk_167 dg_cX11_layColours_721.2.2.2.2.2.1
theorem dX11_layColours_35 : decode cX11_layColours 35 = .ok (.iconst 1, 1) := dk_4 dg_cX11_layColours_721.2.2.2.2.2.2.1
theorem dX11_layColours_36 : decode cX11_layColours 36 = .ok (.istore 4, 2) := dk_54 dg_cX11_layColours_721.2.2.2.2.2.2.2
theorem dg_cX11_layColours_722 : ck1 cX11_layColours 38 3 = true ∧ ck2 cX11_layColours 39 54 5 = true ∧ ck2 cX11_layColours 41 21 5 = true ∧ ck1 cX11_layColours 43 42 = true ∧ ck3 cX11_layColours 44 180 387 = true ∧ ck3s cX11_layColours 47 162 65 = true ∧ ck1 cX11_layColours 50 3 = true ∧ ck2 cX11_layColours 51 54 6 = true := by decide +kernel
theorem dX11_layColours_38 : decode cX11_layColours 38 = .ok (.iconst 0, 1) := dk_3 dg_cX11_layColours_722.1
theorem dX11_layColours_39 : decode cX11_layColours 39 = .ok (.istore 5, 2) := dk_54 dg_cX11_layColours_722.2.1
theorem dX11_layColours_41 : decode cX11_layColours 41 = .ok (.iload 5, 2) := dk_21 dg_cX11_layColours_722.2.2.1
theorem dX11_layColours_43 : decode cX11_layColours 43 = .ok (.aload_n 0, 1) := dk_42 dg_cX11_layColours_722.2.2.2.1
theorem dX11_layColours_44 : decode cX11_layColours 44 = .ok (.getfield 387, 3) := dk_180 dg_cX11_layColours_722.2.2.2.2.1
theorem dX11_layColours_47 : decode cX11_layColours 47 = .ok (.if_icmp .ge 65, 3) := dk_162 dg_cX11_layColours_722.2.2.2.2.2.1
theorem dX11_layColours_50 : decode cX11_layColours 50 = .ok (.iconst 0, 1) := dk_3 dg_cX11_layColours_722.2.2.2.2.2.2.1
theorem dX11_layColours_51 : decode cX11_layColours 51 = .ok (.istore 6, 2) := dk_54 dg_cX11_layColours_722.2.2.2.2.2.2.2
theorem dg_cX11_layColours_723 : ck2 cX11_layColours 53 21 6 = true ∧ ck2 cX11_layColours 55 21 5 = true ∧ ck3s cX11_layColours 57 162 49 = true ∧ ck2 cX11_layColours 60 21 4 = true ∧ ck3s cX11_layColours 62 153 35 = true := by decide +kernel
theorem dX11_layColours_53 : decode cX11_layColours 53 = .ok (.iload 6, 2) := dk_21 dg_cX11_layColours_723.1
theorem dX11_layColours_55 : decode cX11_layColours 55 = .ok (.iload 5, 2) := dk_21 dg_cX11_layColours_723.2.1
theorem dX11_layColours_57 : decode cX11_layColours 57 = .ok (.if_icmp .ge 49, 3) := dk_162 dg_cX11_layColours_723.2.2.1
theorem dX11_layColours_60 : decode cX11_layColours 60 = .ok (.iload 4, 2) := dk_21 dg_cX11_layColours_723.2.2.2.1
theorem dX11_layColours_62 : decode cX11_layColours 62 = .ok (.ifCond .eq 35, 3) := dk_153 dg_cX11_layColours_723.2.2.2.2
def dS_cX11_layColours_1 : List UInt8 := 35 :: 42 :: 180 :: 0 :: 105 :: 21 :: 5 :: 46 :: 42 :: 180 :: 0 :: 105 :: 21 :: 6 :: 46 :: 160 :: 0 :: 14 :: 42 :: 21 :: 5 :: 21 :: 6 :: 182 :: 1 :: 246 :: 154 :: 0 :: 7 :: 4 :: 167 :: 0 :: 4 :: 3 :: 54 :: 4 :: 132 :: 6 :: 1 :: 167 :: 255 :: 206 :: 132 :: 5 :: 1 :: 167 :: 255 :: 188 :: 21 :: 4 :: 172 :: []
def dS_cX11_layColours_0 : List UInt8 := 28 :: 62 :: 42 :: 180 :: 1 :: 131 :: 4 :: 100 :: 54 :: 4 :: 21 :: 4 :: 155 :: 0 :: 23 :: 42 :: 180 :: 0 :: 105 :: 21 :: 4 :: 29 :: 27 :: 112 :: 79 :: 29 :: 27 :: 108 :: 62 :: 132 :: 4 :: 255 :: 167 :: 255 :: 234 :: 4 :: 54 :: 4 :: 3 :: 54 :: 5 :: 21 :: 5 :: 42 :: 180 :: 1 :: 131 :: 162 :: 0 :: 65 :: 3 :: 54 :: 6 :: 21 :: 6 :: 21 :: 5 :: 162 :: 0 :: 49 :: 21 :: 4 :: 153 :: 0 :: dS_cX11_layColours_1
theorem dT_cX11_layColours_0 : cX11_layColours.data.toList.drop 0 = dS_cX11_layColours_0 := by decide +kernel
theorem dT_cX11_layColours_1 : cX11_layColours.data.toList.drop 64 = dS_cX11_layColours_1 := ck_nx dT_cX11_layColours_0 (by decide +kernel) rfl
theorem dg_cX11_layColours_724 : ck1L dS_cX11_layColours_1 1 42 = true ∧ ck3L dS_cX11_layColours_1 2 180 105 = true ∧ ck2L dS_cX11_layColours_1 5 21 5 = true ∧ ck1L dS_cX11_layColours_1 7 46 = true ∧ ck1L dS_cX11_layColours_1 8 42 = true ∧ ck3L dS_cX11_layColours_1 9 180 105 = true ∧ ck2L dS_cX11_layColours_1 12 21 6 = true ∧ ck1L dS_cX11_layColours_1 14 46 = true := by decide +kernel
theorem dX11_layColours_65 : decode cX11_layColours 65 = .ok (.aload_n 0, 1) := dk_42 (ck1_s (r := 1) dT_cX11_layColours_1 rfl dg_cX11_layColours_724.1)
theorem dX11_layColours_66 : decode cX11_layColours 66 = .ok (.getfield 105, 3) := dk_180 (ck3_s (r := 2) dT_cX11_layColours_1 rfl dg_cX11_layColours_724.2.1)
theorem dX11_layColours_69 : decode cX11_layColours 69 = .ok (.iload 5, 2) := dk_21 (ck2_s (r := 5) dT_cX11_layColours_1 rfl dg_cX11_layColours_724.2.2.1)
theorem dX11_layColours_71 : decode cX11_layColours 71 = .ok (.iaload, 1) := dk_46 (ck1_s (r := 7) dT_cX11_layColours_1 rfl dg_cX11_layColours_724.2.2.2.1)
theorem dX11_layColours_72 : decode cX11_layColours 72 = .ok (.aload_n 0, 1) := dk_42 (ck1_s (r := 8) dT_cX11_layColours_1 rfl dg_cX11_layColours_724.2.2.2.2.1)
theorem dX11_layColours_73 : decode cX11_layColours 73 = .ok (.getfield 105, 3) := dk_180 (ck3_s (r := 9) dT_cX11_layColours_1 rfl dg_cX11_layColours_724.2.2.2.2.2.1)
theorem dX11_layColours_76 : decode cX11_layColours 76 = .ok (.iload 6, 2) := dk_21 (ck2_s (r := 12) dT_cX11_layColours_1 rfl dg_cX11_layColours_724.2.2.2.2.2.2.1)
theorem dX11_layColours_78 : decode cX11_layColours 78 = .ok (.iaload, 1) := dk_46 (ck1_s (r := 14) dT_cX11_layColours_1 rfl dg_cX11_layColours_724.2.2.2.2.2.2.2)
theorem dg_cX11_layColours_725 : ck3sL dS_cX11_layColours_1 15 160 14 = true ∧ ck1L dS_cX11_layColours_1 18 42 = true ∧ ck2L dS_cX11_layColours_1 19 21 5 = true ∧ ck2L dS_cX11_layColours_1 21 21 6 = true ∧ ck3L dS_cX11_layColours_1 23 182 502 = true ∧ ck3sL dS_cX11_layColours_1 26 154 7 = true ∧ ck1L dS_cX11_layColours_1 29 4 = true ∧ ck3sL dS_cX11_layColours_1 30 167 4 = true := by decide +kernel
theorem dX11_layColours_79 : decode cX11_layColours 79 = .ok (.if_icmp .ne 14, 3) := dk_160 (ck3s_s (r := 15) dT_cX11_layColours_1 rfl dg_cX11_layColours_725.1)
theorem dX11_layColours_82 : decode cX11_layColours 82 = .ok (.aload_n 0, 1) := dk_42 (ck1_s (r := 18) dT_cX11_layColours_1 rfl dg_cX11_layColours_725.2.1)
theorem dX11_layColours_83 : decode cX11_layColours 83 = .ok (.iload 5, 2) := dk_21 (ck2_s (r := 19) dT_cX11_layColours_1 rfl dg_cX11_layColours_725.2.2.1)
theorem dX11_layColours_85 : decode cX11_layColours 85 = .ok (.iload 6, 2) := dk_21 (ck2_s (r := 21) dT_cX11_layColours_1 rfl dg_cX11_layColours_725.2.2.2.1)
theorem dX11_layColours_87 : decode cX11_layColours 87 = .ok (.invokevirtual 502, 3) := dk_182 (ck3_s (r := 23) dT_cX11_layColours_1 rfl dg_cX11_layColours_725.2.2.2.2.1)
theorem dX11_layColours_90 : decode cX11_layColours 90 = .ok (.ifCond .ne 7, 3) := dk_154 (ck3s_s (r := 26) dT_cX11_layColours_1 rfl dg_cX11_layColours_725.2.2.2.2.2.1)
theorem dX11_layColours_93 : decode cX11_layColours 93 = .ok (.iconst 1, 1) := dk_4 (ck1_s (r := 29) dT_cX11_layColours_1 rfl dg_cX11_layColours_725.2.2.2.2.2.2.1)
theorem dX11_layColours_94 : decode cX11_layColours 94 = .ok (.goto 4, 3) := dk_167 (ck3s_s (r := 30) dT_cX11_layColours_1 rfl dg_cX11_layColours_725.2.2.2.2.2.2.2)
theorem dg_cX11_layColours_726 : ck1L dS_cX11_layColours_1 33 3 = true ∧ ck2L dS_cX11_layColours_1 34 54 4 = true ∧ ck3iL dS_cX11_layColours_1 36 132 6 1 = true ∧ ck3sL dS_cX11_layColours_1 39 167 (-50) = true ∧ ck3iL dS_cX11_layColours_1 42 132 5 1 = true ∧ ck3sL dS_cX11_layColours_1 45 167 (-68) = true ∧ ck2L dS_cX11_layColours_1 48 21 4 = true ∧ ck1L dS_cX11_layColours_1 50 172 = true := by decide +kernel
theorem dX11_layColours_97 : decode cX11_layColours 97 = .ok (.iconst 0, 1) := dk_3 (ck1_s (r := 33) dT_cX11_layColours_1 rfl dg_cX11_layColours_726.1)
theorem dX11_layColours_98 : decode cX11_layColours 98 = .ok (.istore 4, 2) := dk_54 (ck2_s (r := 34) dT_cX11_layColours_1 rfl dg_cX11_layColours_726.2.1)
theorem dX11_layColours_100 : decode cX11_layColours 100 = .ok (.iinc 6 1, 3) := dk_132 (ck3i_s (r := 36) dT_cX11_layColours_1 rfl dg_cX11_layColours_726.2.2.1)
theorem dX11_layColours_103 : decode cX11_layColours 103 = .ok (.goto (-50), 3) := dk_167 (ck3s_s (r := 39) dT_cX11_layColours_1 rfl dg_cX11_layColours_726.2.2.2.1)
theorem dX11_layColours_106 : decode cX11_layColours 106 = .ok (.iinc 5 1, 3) := dk_132 (ck3i_s (r := 42) dT_cX11_layColours_1 rfl dg_cX11_layColours_726.2.2.2.2.1)
theorem dX11_layColours_109 : decode cX11_layColours 109 = .ok (.goto (-68), 3) := dk_167 (ck3s_s (r := 45) dT_cX11_layColours_1 rfl dg_cX11_layColours_726.2.2.2.2.2.1)
theorem dX11_layColours_112 : decode cX11_layColours 112 = .ok (.iload 4, 2) := dk_21 (ck2_s (r := 48) dT_cX11_layColours_1 rfl dg_cX11_layColours_726.2.2.2.2.2.2.1)
theorem dX11_layColours_114 : decode cX11_layColours 114 = .ok (.ireturn, 1) := dk_172 (ck1_s (r := 50) dT_cX11_layColours_1 rfl dg_cX11_layColours_726.2.2.2.2.2.2.2)
theorem dg_cX11_layDress_727 : ck1 cX11_layDress 0 27 = true ∧ ck1 cX11_layDress 1 61 = true ∧ ck1 cX11_layDress 2 3 = true ∧ ck1 cX11_layDress 3 62 = true ∧ ck1 cX11_layDress 4 3 = true ∧ ck2 cX11_layDress 5 54 4 = true ∧ ck1 cX11_layDress 7 42 = true ∧ ck3 cX11_layDress 8 180 387 = true := by decide +kernel
theorem dX11_layDress_0 : decode cX11_layDress 0 = .ok (.iload_n 1, 1) := dk_27 dg_cX11_layDress_727.1
theorem dX11_layDress_1 : decode cX11_layDress 1 = .ok (.istore_n 2, 1) := dk_61 dg_cX11_layDress_727.2.1
theorem dX11_layDress_2 : decode cX11_layDress 2 = .ok (.iconst 0, 1) := dk_3 dg_cX11_layDress_727.2.2.1
theorem dX11_layDress_3 : decode cX11_layDress 3 = .ok (.istore_n 3, 1) := dk_62 dg_cX11_layDress_727.2.2.2.1
theorem dX11_layDress_4 : decode cX11_layDress 4 = .ok (.iconst 0, 1) := dk_3 dg_cX11_layDress_727.2.2.2.2.1
theorem dX11_layDress_5 : decode cX11_layDress 5 = .ok (.istore 4, 2) := dk_54 dg_cX11_layDress_727.2.2.2.2.2.1
theorem dX11_layDress_7 : decode cX11_layDress 7 = .ok (.aload_n 0, 1) := dk_42 dg_cX11_layDress_727.2.2.2.2.2.2.1
theorem dX11_layDress_8 : decode cX11_layDress 8 = .ok (.getfield 387, 3) := dk_180 dg_cX11_layDress_727.2.2.2.2.2.2.2
