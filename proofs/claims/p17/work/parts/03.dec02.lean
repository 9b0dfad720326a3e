theorem dg_cX11_layDress_728 : ck1 cX11_layDress 11 4 = true ∧ ck1 cX11_layDress 12 100 = true ∧ ck2 cX11_layDress 13 54 5 = true ∧ ck2 cX11_layDress 15 21 5 = true ∧ ck3s cX11_layDress 17 155 104 = true ∧ ck1 cX11_layDress 20 28 = true ∧ ck1 cX11_layDress 21 42 = true ∧ ck3 cX11_layDress 22 180 390 = true := by decide +kernel
theorem dX11_layDress_11 : decode cX11_layDress 11 = .ok (.iconst 1, 1) := dk_4 dg_cX11_layDress_728.1
theorem dX11_layDress_12 : decode cX11_layDress 12 = .ok (.isub, 1) := dk_100 dg_cX11_layDress_728.2.1
theorem dX11_layDress_13 : decode cX11_layDress 13 = .ok (.istore 5, 2) := dk_54 dg_cX11_layDress_728.2.2.1
theorem dX11_layDress_15 : decode cX11_layDress 15 = .ok (.iload 5, 2) := dk_21 dg_cX11_layDress_728.2.2.2.1
theorem dX11_layDress_17 : decode cX11_layDress 17 = .ok (.ifCond .lt 104, 3) := dk_155 dg_cX11_layDress_728.2.2.2.2.1
theorem dX11_layDress_20 : decode cX11_layDress 20 = .ok (.iload_n 2, 1) := dk_28 dg_cX11_layDress_728.2.2.2.2.2.1
theorem dX11_layDress_21 : decode cX11_layDress 21 = .ok (.aload_n 0, 1) := dk_42 dg_cX11_layDress_728.2.2.2.2.2.2.1
theorem dX11_layDress_22 : decode cX11_layDress 22 = .ok (.getfield 390, 3) := dk_180 dg_cX11_layDress_728.2.2.2.2.2.2.2
theorem dg_cX11_layDress_729 : ck1 cX11_layDress 25 4 = true ∧ ck1 cX11_layDress 26 96 = true ∧ ck1 cX11_layDress 27 112 = true ∧ ck2 cX11_layDress 28 54 6 = true ∧ ck1 cX11_layDress 30 28 = true ∧ ck1 cX11_layDress 31 42 = true ∧ ck3 cX11_layDress 32 180 390 = true ∧ ck1 cX11_layDress 35 4 = true := by decide +kernel
theorem dX11_layDress_25 : decode cX11_layDress 25 = .ok (.iconst 1, 1) := dk_4 dg_cX11_layDress_729.1
theorem dX11_layDress_26 : decode cX11_layDress 26 = .ok (.iadd, 1) := dk_96 dg_cX11_layDress_729.2.1
theorem dX11_layDress_27 : decode cX11_layDress 27 = .ok (.irem, 1) := dk_112 dg_cX11_layDress_729.2.2.1
theorem dX11_layDress_28 : decode cX11_layDress 28 = .ok (.istore 6, 2) := dk_54 dg_cX11_layDress_729.2.2.2.1
theorem dX11_layDress_30 : decode cX11_layDress 30 = .ok (.iload_n 2, 1) := dk_28 dg_cX11_layDress_729.2.2.2.2.1
theorem dX11_layDress_31 : decode cX11_layDress 31 = .ok (.aload_n 0, 1) := dk_42 dg_cX11_layDress_729.2.2.2.2.2.1
theorem dX11_layDress_32 : decode cX11_layDress 32 = .ok (.getfield 390, 3) := dk_180 dg_cX11_layDress_729.2.2.2.2.2.2.1
theorem dX11_layDress_35 : decode cX11_layDress 35 = .ok (.iconst 1, 1) := dk_4 dg_cX11_layDress_729.2.2.2.2.2.2.2
theorem dg_cX11_layDress_730 : ck1 cX11_layDress 36 96 = true ∧ ck1 cX11_layDress 37 108 = true ∧ ck1 cX11_layDress 38 61 = true ∧ ck1 cX11_layDress 39 42 = true ∧ ck3 cX11_layDress 40 180 105 = true ∧ ck2 cX11_layDress 43 21 5 = true ∧ ck2 cX11_layDress 45 21 6 = true ∧ ck1 cX11_layDress 47 42 = true := by decide +kernel
theorem dX11_layDress_36 : decode cX11_layDress 36 = .ok (.iadd, 1) := dk_96 dg_cX11_layDress_730.1
theorem dX11_layDress_37 : decode cX11_layDress 37 = .ok (.idiv, 1) := dk_108 dg_cX11_layDress_730.2.1
theorem dX11_layDress_38 : decode cX11_layDress 38 = .ok (.istore_n 2, 1) := dk_61 dg_cX11_layDress_730.2.2.1
theorem dX11_layDress_39 : decode cX11_layDress 39 = .ok (.aload_n 0, 1) := dk_42 dg_cX11_layDress_730.2.2.2.1
theorem dX11_layDress_40 : decode cX11_layDress 40 = .ok (.getfield 105, 3) := dk_180 dg_cX11_layDress_730.2.2.2.2.1
theorem dX11_layDress_43 : decode cX11_layDress 43 = .ok (.iload 5, 2) := dk_21 dg_cX11_layDress_730.2.2.2.2.2.1
theorem dX11_layDress_45 : decode cX11_layDress 45 = .ok (.iload 6, 2) := dk_21 dg_cX11_layDress_730.2.2.2.2.2.2.1
theorem dX11_layDress_47 : decode cX11_layDress 47 = .ok (.aload_n 0, 1) := dk_42 dg_cX11_layDress_730.2.2.2.2.2.2.2
theorem dg_cX11_layDress_731 : ck3 cX11_layDress 48 180 390 = true ∧ ck3s cX11_layDress 51 160 7 = true ∧ ck1 cX11_layDress 54 2 = true ∧ ck3s cX11_layDress 55 167 5 = true ∧ ck2 cX11_layDress 58 21 6 = true ∧ ck1 cX11_layDress 60 79 = true ∧ ck2 cX11_layDress 61 21 6 = true ∧ ck1 cX11_layDress 63 42 = true := by decide +kernel
theorem dX11_layDress_48 : decode cX11_layDress 48 = .ok (.getfield 390, 3) := dk_180 dg_cX11_layDress_731.1
theorem dX11_layDress_51 : decode cX11_layDress 51 = .ok (.if_icmp .ne 7, 3) := dk_160 dg_cX11_layDress_731.2.1
theorem dX11_layDress_54 : decode cX11_layDress 54 = .ok (.iconst (-1), 1) := dk_2 dg_cX11_layDress_731.2.2.1
theorem dX11_layDress_55 : decode cX11_layDress 55 = .ok (.goto 5, 3) := dk_167 dg_cX11_layDress_731.2.2.2.1
theorem dX11_layDress_58 : decode cX11_layDress 58 = .ok (.iload 6, 2) := dk_21 dg_cX11_layDress_731.2.2.2.2.1
theorem dX11_layDress_60 : decode cX11_layDress 60 = .ok (.iastore, 1) := dk_79 dg_cX11_layDress_731.2.2.2.2.2.1
theorem dX11_layDress_61 : decode cX11_layDress 61 = .ok (.iload 6, 2) := dk_21 dg_cX11_layDress_731.2.2.2.2.2.2.1
theorem dX11_layDress_63 : decode cX11_layDress 63 = .ok (.aload_n 0, 1) := dk_42 dg_cX11_layDress_731.2.2.2.2.2.2.2
def dS_cX11_layDress_1 : List UInt8 := 180 :: 1 :: 134 :: 160 :: 0 :: 6 :: 167 :: 0 :: 45 :: 29 :: 21 :: 6 :: 122 :: 4 :: 126 :: 4 :: 159 :: 0 :: 23 :: 42 :: 180 :: 0 :: 108 :: 16 :: 6 :: 21 :: 5 :: 104 :: 21 :: 6 :: 96 :: 46 :: 42 :: 180 :: 0 :: 84 :: 164 :: 0 :: 5 :: 2 :: 172 :: 29 :: 4 :: 21 :: 6 :: 120 :: 128 :: 62 :: 132 :: 4 :: 1 :: 132 :: 5 :: 255 :: 167 :: 255 :: 153 :: 21 :: 4 :: 172 :: []
def dS_cX11_layDress_0 : List UInt8 := 27 :: 61 :: 3 :: 62 :: 3 :: 54 :: 4 :: 42 :: 180 :: 1 :: 131 :: 4 :: 100 :: 54 :: 5 :: 21 :: 5 :: 155 :: 0 :: 104 :: 28 :: 42 :: 180 :: 1 :: 134 :: 4 :: 96 :: 112 :: 54 :: 6 :: 28 :: 42 :: 180 :: 1 :: 134 :: 4 :: 96 :: 108 :: 61 :: 42 :: 180 :: 0 :: 105 :: 21 :: 5 :: 21 :: 6 :: 42 :: 180 :: 1 :: 134 :: 160 :: 0 :: 7 :: 2 :: 167 :: 0 :: 5 :: 21 :: 6 :: 79 :: 21 :: 6 :: 42 :: dS_cX11_layDress_1
theorem dT_cX11_layDress_0 : cX11_layDress.data.toList.drop 0 = dS_cX11_layDress_0 := by decide +kernel
theorem dT_cX11_layDress_1 : cX11_layDress.data.toList.drop 64 = dS_cX11_layDress_1 := ck_nx dT_cX11_layDress_0 (by decide +kernel) rfl
theorem dg_cX11_layDress_732 : ck3L dS_cX11_layDress_1 0 180 390 = true ∧ ck3sL dS_cX11_layDress_1 3 160 6 = true ∧ ck3sL dS_cX11_layDress_1 6 167 45 = true ∧ ck1L dS_cX11_layDress_1 9 29 = true ∧ ck2L dS_cX11_layDress_1 10 21 6 = true ∧ ck1L dS_cX11_layDress_1 12 122 = true ∧ ck1L dS_cX11_layDress_1 13 4 = true ∧ ck1L dS_cX11_layDress_1 14 126 = true := by decide +kernel
theorem dX11_layDress_64 : decode cX11_layDress 64 = .ok (.getfield 390, 3) := dk_180 (ck3_s (r := 0) dT_cX11_layDress_1 rfl dg_cX11_layDress_732.1)
theorem dX11_layDress_67 : decode cX11_layDress 67 = .ok (.if_icmp .ne 6, 3) := dk_160 (ck3s_s (r := 3) dT_cX11_layDress_1 rfl dg_cX11_layDress_732.2.1)
theorem dX11_layDress_70 : decode cX11_layDress 70 = .ok (.goto 45, 3) := dk_167 (ck3s_s (r := 6) dT_cX11_layDress_1 rfl dg_cX11_layDress_732.2.2.1)
theorem dX11_layDress_73 : decode cX11_layDress 73 = .ok (.iload_n 3, 1) := dk_29 (ck1_s (r := 9) dT_cX11_layDress_1 rfl dg_cX11_layDress_732.2.2.2.1)
theorem dX11_layDress_74 : decode cX11_layDress 74 = .ok (.iload 6, 2) := dk_21 (ck2_s (r := 10) dT_cX11_layDress_1 rfl dg_cX11_layDress_732.2.2.2.2.1)
theorem dX11_layDress_76 : decode cX11_layDress 76 = .ok (.ishr, 1) := dk_122 (ck1_s (r := 12) dT_cX11_layDress_1 rfl dg_cX11_layDress_732.2.2.2.2.2.1)
theorem dX11_layDress_77 : decode cX11_layDress 77 = .ok (.iconst 1, 1) := dk_4 (ck1_s (r := 13) dT_cX11_layDress_1 rfl dg_cX11_layDress_732.2.2.2.2.2.2.1)
theorem dX11_layDress_78 : decode cX11_layDress 78 = .ok (.iand, 1) := dk_126 (ck1_s (r := 14) dT_cX11_layDress_1 rfl dg_cX11_layDress_732.2.2.2.2.2.2.2)
theorem dg_cX11_layDress_733 : ck1L dS_cX11_layDress_1 15 4 = true ∧ ck3sL dS_cX11_layDress_1 16 159 23 = true ∧ ck1L dS_cX11_layDress_1 19 42 = true ∧ ck3L dS_cX11_layDress_1 20 180 108 = true ∧ ck2sL dS_cX11_layDress_1 23 16 6 = true ∧ ck2L dS_cX11_layDress_1 25 21 5 = true ∧ ck1L dS_cX11_layDress_1 27 104 = true ∧ ck2L dS_cX11_layDress_1 28 21 6 = true := by decide +kernel
theorem dX11_layDress_79 : decode cX11_layDress 79 = .ok (.iconst 1, 1) := dk_4 (ck1_s (r := 15) dT_cX11_layDress_1 rfl dg_cX11_layDress_733.1)
theorem dX11_layDress_80 : decode cX11_layDress 80 = .ok (.if_icmp .eq 23, 3) := dk_159 (ck3s_s (r := 16) dT_cX11_layDress_1 rfl dg_cX11_layDress_733.2.1)
theorem dX11_layDress_83 : decode cX11_layDress 83 = .ok (.aload_n 0, 1) := dk_42 (ck1_s (r := 19) dT_cX11_layDress_1 rfl dg_cX11_layDress_733.2.2.1)
theorem dX11_layDress_84 : decode cX11_layDress 84 = .ok (.getfield 108, 3) := dk_180 (ck3_s (r := 20) dT_cX11_layDress_1 rfl dg_cX11_layDress_733.2.2.2.1)
theorem dX11_layDress_87 : decode cX11_layDress 87 = .ok (.bipush 6, 2) := dk_16 (ck2s_s (r := 23) dT_cX11_layDress_1 rfl dg_cX11_layDress_733.2.2.2.2.1)
theorem dX11_layDress_89 : decode cX11_layDress 89 = .ok (.iload 5, 2) := dk_21 (ck2_s (r := 25) dT_cX11_layDress_1 rfl dg_cX11_layDress_733.2.2.2.2.2.1)
theorem dX11_layDress_91 : decode cX11_layDress 91 = .ok (.imul, 1) := dk_104 (ck1_s (r := 27) dT_cX11_layDress_1 rfl dg_cX11_layDress_733.2.2.2.2.2.2.1)
theorem dX11_layDress_92 : decode cX11_layDress 92 = .ok (.iload 6, 2) := dk_21 (ck2_s (r := 28) dT_cX11_layDress_1 rfl dg_cX11_layDress_733.2.2.2.2.2.2.2)
theorem dg_cX11_layDress_734 : ck1L dS_cX11_layDress_1 30 96 = true ∧ ck1L dS_cX11_layDress_1 31 46 = true ∧ ck1L dS_cX11_layDress_1 32 42 = true ∧ ck3L dS_cX11_layDress_1 33 180 84 = true ∧ ck3sL dS_cX11_layDress_1 36 164 5 = true ∧ ck1L dS_cX11_layDress_1 39 2 = true ∧ ck1L dS_cX11_layDress_1 40 172 = true ∧ ck1L dS_cX11_layDress_1 41 29 = true := by decide +kernel
theorem dX11_layDress_94 : decode cX11_layDress 94 = .ok (.iadd, 1) := dk_96 (ck1_s (r := 30) dT_cX11_layDress_1 rfl dg_cX11_layDress_734.1)
theorem dX11_layDress_95 : decode cX11_layDress 95 = .ok (.iaload, 1) := dk_46 (ck1_s (r := 31) dT_cX11_layDress_1 rfl dg_cX11_layDress_734.2.1)
theorem dX11_layDress_96 : decode cX11_layDress 96 = .ok (.aload_n 0, 1) := dk_42 (ck1_s (r := 32) dT_cX11_layDress_1 rfl dg_cX11_layDress_734.2.2.1)
theorem dX11_layDress_97 : decode cX11_layDress 97 = .ok (.getfield 84, 3) := dk_180 (ck3_s (r := 33) dT_cX11_layDress_1 rfl dg_cX11_layDress_734.2.2.2.1)
theorem dX11_layDress_100 : decode cX11_layDress 100 = .ok (.if_icmp .le 5, 3) := dk_164 (ck3s_s (r := 36) dT_cX11_layDress_1 rfl dg_cX11_layDress_734.2.2.2.2.1)
theorem dX11_layDress_103 : decode cX11_layDress 103 = .ok (.iconst (-1), 1) := dk_2 (ck1_s (r := 39) dT_cX11_layDress_1 rfl dg_cX11_layDress_734.2.2.2.2.2.1)
theorem dX11_layDress_104 : decode cX11_layDress 104 = .ok (.ireturn, 1) := dk_172 (ck1_s (r := 40) dT_cX11_layDress_1 rfl dg_cX11_layDress_734.2.2.2.2.2.2.1)
theorem dX11_layDress_105 : decode cX11_layDress 105 = .ok (.iload_n 3, 1) := dk_29 (ck1_s (r := 41) dT_cX11_layDress_1 rfl dg_cX11_layDress_734.2.2.2.2.2.2.2)
theorem dg_cX11_layDress_735 : ck1L dS_cX11_layDress_1 42 4 = true ∧ ck2L dS_cX11_layDress_1 43 21 6 = true ∧ ck1L dS_cX11_layDress_1 45 120 = true ∧ ck1L dS_cX11_layDress_1 46 128 = true ∧ ck1L dS_cX11_layDress_1 47 62 = true ∧ ck3iL dS_cX11_layDress_1 48 132 4 1 = true ∧ ck3iL dS_cX11_layDress_1 51 132 5 (-1) = true ∧ ck3sL dS_cX11_layDress_1 54 167 (-103) = true := by decide +kernel
theorem dX11_layDress_106 : decode cX11_layDress 106 = .ok (.iconst 1, 1) := dk_4 (ck1_s (r := 42) dT_cX11_layDress_1 rfl dg_cX11_layDress_735.1)
theorem dX11_layDress_107 : decode cX11_layDress 107 = .ok (.iload 6, 2) := dk_21 (ck2_s (r := 43) dT_cX11_layDress_1 rfl dg_cX11_layDress_735.2.1)
theorem dX11_layDress_109 : decode cX11_layDress 109 = .ok (.ishl, 1) := dk_120 (ck1_s (r := 45) dT_cX11_layDress_1 rfl dg_cX11_layDress_735.2.2.1)
theorem dX11_layDress_110 : decode cX11_layDress 110 = .ok (.ior, 1) := dk_128 (ck1_s (r := 46) dT_cX11_layDress_1 rfl dg_cX11_layDress_735.2.2.2.1)
theorem dX11_layDress_111 : decode cX11_layDress 111 = .ok (.istore_n 3, 1) := dk_62 (ck1_s (r := 47) dT_cX11_layDress_1 rfl dg_cX11_layDress_735.2.2.2.2.1)
theorem dX11_layDress_112 : decode cX11_layDress 112 = .ok (.iinc 4 1, 3) := dk_132 (ck3i_s (r := 48) dT_cX11_layDress_1 rfl dg_cX11_layDress_735.2.2.2.2.2.1)
theorem dX11_layDress_115 : decode cX11_layDress 115 = .ok (.iinc 5 (-1), 3) := dk_132 (ck3i_s (r := 51) dT_cX11_layDress_1 rfl dg_cX11_layDress_735.2.2.2.2.2.2.1)
theorem dX11_layDress_118 : decode cX11_layDress 118 = .ok (.goto (-103), 3) := dk_167 (ck3s_s (r := 54) dT_cX11_layDress_1 rfl dg_cX11_layDress_735.2.2.2.2.2.2.2)
theorem dg_cX11_layDress_736 : ck2L dS_cX11_layDress_1 57 21 4 = true ∧ ck1L dS_cX11_layDress_1 59 172 = true := by decide +kernel
theorem dX11_layDress_121 : decode cX11_layDress 121 = .ok (.iload 4, 2) := dk_21 (ck2_s (r := 57) dT_cX11_layDress_1 rfl dg_cX11_layDress_736.1)
theorem dX11_layDress_123 : decode cX11_layDress 123 = .ok (.ireturn, 1) := dk_172 (ck1_s (r := 59) dT_cX11_layDress_1 rfl dg_cX11_layDress_736.2)
theorem dg_cX11_layGrowths_737 : ck1 cX11_layGrowths 0 3 = true ∧ ck1 cX11_layGrowths 1 61 = true ∧ ck1 cX11_layGrowths 2 3 = true ∧ ck1 cX11_layGrowths 3 62 = true ∧ ck1 cX11_layGrowths 4 29 = true ∧ ck2s cX11_layGrowths 5 16 30 = true ∧ ck3s cX11_layGrowths 7 163 136 = true ∧ ck1 cX11_layGrowths 10 42 = true := by decide +kernel
theorem dX11_layGrowths_0 : decode cX11_layGrowths 0 = .ok (.iconst 0, 1) := dk_3 dg_cX11_layGrowths_737.1
theorem dX11_layGrowths_1 : decode cX11_layGrowths 1 = .ok (.istore_n 2, 1) := dk_61 dg_cX11_layGrowths_737.2.1
theorem dX11_layGrowths_2 : decode cX11_layGrowths 2 = .ok (.iconst 0, 1) := dk_3 dg_cX11_layGrowths_737.2.2.1
theorem dX11_layGrowths_3 : decode cX11_layGrowths 3 = .ok (.istore_n 3, 1) := dk_62 dg_cX11_layGrowths_737.2.2.2.1
theorem dX11_layGrowths_4 : decode cX11_layGrowths 4 = .ok (.iload_n 3, 1) := dk_29 dg_cX11_layGrowths_737.2.2.2.2.1
theorem dX11_layGrowths_5 : decode cX11_layGrowths 5 = .ok (.bipush 30, 2) := dk_16 dg_cX11_layGrowths_737.2.2.2.2.2.1
theorem dX11_layGrowths_7 : decode cX11_layGrowths 7 = .ok (.if_icmp .gt 136, 3) := dk_163 dg_cX11_layGrowths_737.2.2.2.2.2.2.1
theorem dX11_layGrowths_10 : decode cX11_layGrowths 10 = .ok (.aload_n 0, 1) := dk_42 dg_cX11_layGrowths_737.2.2.2.2.2.2.2
theorem dg_cX11_layGrowths_738 : ck3 cX11_layGrowths 11 180 387 = true ∧ ck3s cX11_layGrowths 14 158 129 = true ∧ ck1 cX11_layGrowths 17 42 = true ∧ ck3 cX11_layGrowths 18 180 390 = true ∧ ck3s cX11_layGrowths 21 158 122 = true ∧ ck1 cX11_layGrowths 24 42 = true ∧ ck3 cX11_layGrowths 25 182 399 = true ∧ ck1 cX11_layGrowths 28 3 = true := by decide +kernel
theorem dX11_layGrowths_11 : decode cX11_layGrowths 11 = .ok (.getfield 387, 3) := dk_180 dg_cX11_layGrowths_738.1
theorem dX11_layGrowths_14 : decode cX11_layGrowths 14 = .ok (.ifCond .le 129, 3) := dk_158 dg_cX11_layGrowths_738.2.1
theorem dX11_layGrowths_17 : decode cX11_layGrowths 17 = .ok (.aload_n 0, 1) := dk_42 dg_cX11_layGrowths_738.2.2.1
theorem dX11_layGrowths_18 : decode cX11_layGrowths 18 = .ok (.getfield 390, 3) := dk_180 dg_cX11_layGrowths_738.2.2.2.1
theorem dX11_layGrowths_21 : decode cX11_layGrowths 21 = .ok (.ifCond .le 122, 3) := dk_158 dg_cX11_layGrowths_738.2.2.2.2.1
theorem dX11_layGrowths_24 : decode cX11_layGrowths 24 = .ok (.aload_n 0, 1) := dk_42 dg_cX11_layGrowths_738.2.2.2.2.2.1
theorem dX11_layGrowths_25 : decode cX11_layGrowths 25 = .ok (.invokevirtual 399, 3) := dk_182 dg_cX11_layGrowths_738.2.2.2.2.2.2.1
theorem dX11_layGrowths_28 : decode cX11_layGrowths 28 = .ok (.iconst 0, 1) := dk_3 dg_cX11_layGrowths_738.2.2.2.2.2.2.2
theorem dg_cX11_layGrowths_739 : ck2 cX11_layGrowths 29 54 4 = true ∧ ck2 cX11_layGrowths 31 21 4 = true ∧ ck2s cX11_layGrowths 33 16 20 = true ∧ ck3s cX11_layGrowths 35 163 78 = true ∧ ck1 cX11_layGrowths 38 42 = true ∧ ck3 cX11_layGrowths 39 180 127 = true ∧ ck2s cX11_layGrowths 42 16 21 = true ∧ ck1 cX11_layGrowths 44 29 = true := by decide +kernel
theorem dX11_layGrowths_29 : decode cX11_layGrowths 29 = .ok (.istore 4, 2) := dk_54 dg_cX11_layGrowths_739.1
theorem dX11_layGrowths_31 : decode cX11_layGrowths 31 = .ok (.iload 4, 2) := dk_21 dg_cX11_layGrowths_739.2.1
theorem dX11_layGrowths_33 : decode cX11_layGrowths 33 = .ok (.bipush 20, 2) := dk_16 dg_cX11_layGrowths_739.2.2.1
theorem dX11_layGrowths_35 : decode cX11_layGrowths 35 = .ok (.if_icmp .gt 78, 3) := dk_163 dg_cX11_layGrowths_739.2.2.2.1
theorem dX11_layGrowths_38 : decode cX11_layGrowths 38 = .ok (.aload_n 0, 1) := dk_42 dg_cX11_layGrowths_739.2.2.2.2.1
theorem dX11_layGrowths_39 : decode cX11_layGrowths 39 = .ok (.getfield 127, 3) := dk_180 dg_cX11_layGrowths_739.2.2.2.2.2.1
theorem dX11_layGrowths_42 : decode cX11_layGrowths 42 = .ok (.bipush 21, 2) := dk_16 dg_cX11_layGrowths_739.2.2.2.2.2.2.1
theorem dX11_layGrowths_44 : decode cX11_layGrowths 44 = .ok (.iload_n 3, 1) := dk_29 dg_cX11_layGrowths_739.2.2.2.2.2.2.2
theorem dg_cX11_layGrowths_740 : ck1 cX11_layGrowths 45 104 = true ∧ ck2 cX11_layGrowths 46 21 4 = true ∧ ck1 cX11_layGrowths 48 96 = true ∧ ck1 cX11_layGrowths 49 42 = true ∧ ck1 cX11_layGrowths 50 3 = true ∧ ck1 cX11_layGrowths 51 3 = true ∧ ck3 cX11_layGrowths 52 182 424 = true ∧ ck1 cX11_layGrowths 55 84 = true := by decide +kernel
theorem dX11_layGrowths_45 : decode cX11_layGrowths 45 = .ok (.imul, 1) := dk_104 dg_cX11_layGrowths_740.1
theorem dX11_layGrowths_46 : decode cX11_layGrowths 46 = .ok (.iload 4, 2) := dk_21 dg_cX11_layGrowths_740.2.1
theorem dX11_layGrowths_48 : decode cX11_layGrowths 48 = .ok (.iadd, 1) := dk_96 dg_cX11_layGrowths_740.2.2.1
theorem dX11_layGrowths_49 : decode cX11_layGrowths 49 = .ok (.aload_n 0, 1) := dk_42 dg_cX11_layGrowths_740.2.2.2.1
theorem dX11_layGrowths_50 : decode cX11_layGrowths 50 = .ok (.iconst 0, 1) := dk_3 dg_cX11_layGrowths_740.2.2.2.2.1
theorem dX11_layGrowths_51 : decode cX11_layGrowths 51 = .ok (.iconst 0, 1) := dk_3 dg_cX11_layGrowths_740.2.2.2.2.2.1
theorem dX11_layGrowths_52 : decode cX11_layGrowths 52 = .ok (.invokevirtual 424, 3) := dk_182 dg_cX11_layGrowths_740.2.2.2.2.2.2.1
theorem dX11_layGrowths_55 : decode cX11_layGrowths 55 = .ok (.bastore, 1) := dk_84 dg_cX11_layGrowths_740.2.2.2.2.2.2.2
theorem dg_cX11_layGrowths_741 : ck1 cX11_layGrowths 56 42 = true ∧ ck3 cX11_layGrowths 57 180 96 = true ∧ ck1 cX11_layGrowths 60 3 = true ∧ ck2s cX11_layGrowths 61 16 99 = true ∧ ck1 cX11_layGrowths 63 42 = true := by decide +kernel
theorem dX11_layGrowths_56 : decode cX11_layGrowths 56 = .ok (.aload_n 0, 1) := dk_42 dg_cX11_layGrowths_741.1
theorem dX11_layGrowths_57 : decode cX11_layGrowths 57 = .ok (.getfield 96, 3) := dk_180 dg_cX11_layGrowths_741.2.1
theorem dX11_layGrowths_60 : decode cX11_layGrowths 60 = .ok (.iconst 0, 1) := dk_3 dg_cX11_layGrowths_741.2.2.1
theorem dX11_layGrowths_61 : decode cX11_layGrowths 61 = .ok (.bipush 99, 2) := dk_16 dg_cX11_layGrowths_741.2.2.2.1
theorem dX11_layGrowths_63 : decode cX11_layGrowths 63 = .ok (.aload_n 0, 1) := dk_42 dg_cX11_layGrowths_741.2.2.2.2
def dS_cX11_layGrowths_2 : List UInt8 := 0 :: 130 :: 29 :: 51 :: 184 :: 1 :: 54 :: 96 :: 61 :: 132 :: 3 :: 1 :: 167 :: 255 :: 120 :: 28 :: 172 :: []
def dS_cX11_layGrowths_1 : List UInt8 := 180 :: 0 :: 96 :: 3 :: 46 :: 29 :: 96 :: 184 :: 1 :: 175 :: 79 :: 42 :: 180 :: 0 :: 96 :: 16 :: 30 :: 16 :: 99 :: 42 :: 180 :: 0 :: 96 :: 16 :: 30 :: 46 :: 4 :: 96 :: 184 :: 1 :: 175 :: 79 :: 42 :: 180 :: 0 :: 96 :: 16 :: 37 :: 92 :: 46 :: 4 :: 96 :: 79 :: 132 :: 4 :: 1 :: 167 :: 255 :: 177 :: 42 :: 180 :: 0 :: 130 :: 29 :: 42 :: 29 :: 27 :: 182 :: 2 :: 19 :: 84 :: 28 :: 42 :: 180 :: dS_cX11_layGrowths_2
def dS_cX11_layGrowths_0 : List UInt8 := 3 :: 61 :: 3 :: 62 :: 29 :: 16 :: 30 :: 163 :: 0 :: 136 :: 42 :: 180 :: 1 :: 131 :: 158 :: 0 :: 129 :: 42 :: 180 :: 1 :: 134 :: 158 :: 0 :: 122 :: 42 :: 182 :: 1 :: 143 :: 3 :: 54 :: 4 :: 21 :: 4 :: 16 :: 20 :: 163 :: 0 :: 78 :: 42 :: 180 :: 0 :: 127 :: 16 :: 21 :: 29 :: 104 :: 21 :: 4 :: 96 :: 42 :: 3 :: 3 :: 182 :: 1 :: 168 :: 84 :: 42 :: 180 :: 0 :: 96 :: 3 :: 16 :: 99 :: 42 :: dS_cX11_layGrowths_1
theorem dT_cX11_layGrowths_0 : cX11_layGrowths.data.toList.drop 0 = dS_cX11_layGrowths_0 := by decide +kernel
theorem dT_cX11_layGrowths_1 : cX11_layGrowths.data.toList.drop 64 = dS_cX11_layGrowths_1 := ck_nx dT_cX11_layGrowths_0 (by decide +kernel) rfl
theorem dT_cX11_layGrowths_2 : cX11_layGrowths.data.toList.drop 128 = dS_cX11_layGrowths_2 := ck_nx dT_cX11_layGrowths_1 (by decide +kernel) rfl
theorem dg_cX11_layGrowths_742 : ck3L dS_cX11_layGrowths_1 0 180 96 = true ∧ ck1L dS_cX11_layGrowths_1 3 3 = true ∧ ck1L dS_cX11_layGrowths_1 4 46 = true ∧ ck1L dS_cX11_layGrowths_1 5 29 = true ∧ ck1L dS_cX11_layGrowths_1 6 96 = true ∧ ck3L dS_cX11_layGrowths_1 7 184 431 = true ∧ ck1L dS_cX11_layGrowths_1 10 79 = true ∧ ck1L dS_cX11_layGrowths_1 11 42 = true := by decide +kernel
theorem dX11_layGrowths_64 : decode cX11_layGrowths 64 = .ok (.getfield 96, 3) := dk_180 (ck3_s (r := 0) dT_cX11_layGrowths_1 rfl dg_cX11_layGrowths_742.1)
theorem dX11_layGrowths_67 : decode cX11_layGrowths 67 = .ok (.iconst 0, 1) := dk_3 (ck1_s (r := 3) dT_cX11_layGrowths_1 rfl dg_cX11_layGrowths_742.2.1)
theorem dX11_layGrowths_68 : decode cX11_layGrowths 68 = .ok (.iaload, 1) := dk_46 (ck1_s (r := 4) dT_cX11_layGrowths_1 rfl dg_cX11_layGrowths_742.2.2.1)
theorem dX11_layGrowths_69 : decode cX11_layGrowths 69 = .ok (.iload_n 3, 1) := dk_29 (ck1_s (r := 5) dT_cX11_layGrowths_1 rfl dg_cX11_layGrowths_742.2.2.2.1)
theorem dX11_layGrowths_70 : decode cX11_layGrowths 70 = .ok (.iadd, 1) := dk_96 (ck1_s (r := 6) dT_cX11_layGrowths_1 rfl dg_cX11_layGrowths_742.2.2.2.2.1)
theorem dX11_layGrowths_71 : decode cX11_layGrowths 71 = .ok (.invokestatic 431, 3) := dk_184 (ck3_s (r := 7) dT_cX11_layGrowths_1 rfl dg_cX11_layGrowths_742.2.2.2.2.2.1)
theorem dX11_layGrowths_74 : decode cX11_layGrowths 74 = .ok (.iastore, 1) := dk_79 (ck1_s (r := 10) dT_cX11_layGrowths_1 rfl dg_cX11_layGrowths_742.2.2.2.2.2.2.1)
theorem dX11_layGrowths_75 : decode cX11_layGrowths 75 = .ok (.aload_n 0, 1) := dk_42 (ck1_s (r := 11) dT_cX11_layGrowths_1 rfl dg_cX11_layGrowths_742.2.2.2.2.2.2.2)
theorem dg_cX11_layGrowths_743 : ck3L dS_cX11_layGrowths_1 12 180 96 = true ∧ ck2sL dS_cX11_layGrowths_1 15 16 30 = true ∧ ck2sL dS_cX11_layGrowths_1 17 16 99 = true ∧ ck1L dS_cX11_layGrowths_1 19 42 = true ∧ ck3L dS_cX11_layGrowths_1 20 180 96 = true ∧ ck2sL dS_cX11_layGrowths_1 23 16 30 = true ∧ ck1L dS_cX11_layGrowths_1 25 46 = true ∧ ck1L dS_cX11_layGrowths_1 26 4 = true := by decide +kernel
theorem dX11_layGrowths_76 : decode cX11_layGrowths 76 = .ok (.getfield 96, 3) := dk_180 (ck3_s (r := 12) dT_cX11_layGrowths_1 rfl dg_cX11_layGrowths_743.1)
theorem dX11_layGrowths_79 : decode cX11_layGrowths 79 = .ok (.bipush 30, 2) := dk_16 (ck2s_s (r := 15) dT_cX11_layGrowths_1 rfl dg_cX11_layGrowths_743.2.1)
theorem dX11_layGrowths_81 : decode cX11_layGrowths 81 = .ok (.bipush 99, 2) := dk_16 (ck2s_s (r := 17) dT_cX11_layGrowths_1 rfl dg_cX11_layGrowths_743.2.2.1)
theorem dX11_layGrowths_83 : decode cX11_layGrowths 83 = .ok (.aload_n 0, 1) := dk_42 (ck1_s (r := 19) dT_cX11_layGrowths_1 rfl dg_cX11_layGrowths_743.2.2.2.1)
theorem dX11_layGrowths_84 : decode cX11_layGrowths 84 = .ok (.getfield 96, 3) := dk_180 (ck3_s (r := 20) dT_cX11_layGrowths_1 rfl dg_cX11_layGrowths_743.2.2.2.2.1)
theorem dX11_layGrowths_87 : decode cX11_layGrowths 87 = .ok (.bipush 30, 2) := dk_16 (ck2s_s (r := 23) dT_cX11_layGrowths_1 rfl dg_cX11_layGrowths_743.2.2.2.2.2.1)
theorem dX11_layGrowths_89 : decode cX11_layGrowths 89 = .ok (.iaload, 1) := dk_46 (ck1_s (r := 25) dT_cX11_layGrowths_1 rfl dg_cX11_layGrowths_743.2.2.2.2.2.2.1)
theorem dX11_layGrowths_90 : decode cX11_layGrowths 90 = .ok (.iconst 1, 1) := dk_4 (ck1_s (r := 26) dT_cX11_layGrowths_1 rfl dg_cX11_layGrowths_743.2.2.2.2.2.2.2)
theorem dg_cX11_layGrowths_744 : ck1L dS_cX11_layGrowths_1 27 96 = true ∧ ck3L dS_cX11_layGrowths_1 28 184 431 = true ∧ ck1L dS_cX11_layGrowths_1 31 79 = true ∧ ck1L dS_cX11_layGrowths_1 32 42 = true ∧ ck3L dS_cX11_layGrowths_1 33 180 96 = true ∧ ck2sL dS_cX11_layGrowths_1 36 16 37 = true ∧ ck1L dS_cX11_layGrowths_1 38 92 = true ∧ ck1L dS_cX11_layGrowths_1 39 46 = true := by decide +kernel
theorem dX11_layGrowths_91 : decode cX11_layGrowths 91 = .ok (.iadd, 1) := dk_96 (ck1_s (r := 27) dT_cX11_layGrowths_1 rfl dg_cX11_layGrowths_744.1)
theorem dX11_layGrowths_92 : decode cX11_layGrowths 92 = .ok (.invokestatic 431, 3) := dk_184 (ck3_s (r := 28) dT_cX11_layGrowths_1 rfl dg_cX11_layGrowths_744.2.1)
theorem dX11_layGrowths_95 : decode cX11_layGrowths 95 = .ok (.iastore, 1) := dk_79 (ck1_s (r := 31) dT_cX11_layGrowths_1 rfl dg_cX11_layGrowths_744.2.2.1)
theorem dX11_layGrowths_96 : decode cX11_layGrowths 96 = .ok (.aload_n 0, 1) := dk_42 (ck1_s (r := 32) dT_cX11_layGrowths_1 rfl dg_cX11_layGrowths_744.2.2.2.1)
theorem dX11_layGrowths_97 : decode cX11_layGrowths 97 = .ok (.getfield 96, 3) := dk_180 (ck3_s (r := 33) dT_cX11_layGrowths_1 rfl dg_cX11_layGrowths_744.2.2.2.2.1)
theorem dX11_layGrowths_100 : decode cX11_layGrowths 100 = .ok (.bipush 37, 2) := dk_16 (ck2s_s (r := 36) dT_cX11_layGrowths_1 rfl dg_cX11_layGrowths_744.2.2.2.2.2.1)
theorem dX11_layGrowths_102 : decode cX11_layGrowths 102 = .ok (.dup2, 1) := dk_92 (ck1_s (r := 38) dT_cX11_layGrowths_1 rfl dg_cX11_layGrowths_744.2.2.2.2.2.2.1)
theorem dX11_layGrowths_103 : decode cX11_layGrowths 103 = .ok (.iaload, 1) := dk_46 (ck1_s (r := 39) dT_cX11_layGrowths_1 rfl dg_cX11_layGrowths_744.2.2.2.2.2.2.2)
theorem dg_cX11_layGrowths_745 : ck1L dS_cX11_layGrowths_1 40 4 = true ∧ ck1L dS_cX11_layGrowths_1 41 96 = true ∧ ck1L dS_cX11_layGrowths_1 42 79 = true ∧ ck3iL dS_cX11_layGrowths_1 43 132 4 1 = true ∧ ck3sL dS_cX11_layGrowths_1 46 167 (-79) = true ∧ ck1L dS_cX11_layGrowths_1 49 42 = true ∧ ck3L dS_cX11_layGrowths_1 50 180 130 = true ∧ ck1L dS_cX11_layGrowths_1 53 29 = true := by decide +kernel
theorem dX11_layGrowths_104 : decode cX11_layGrowths 104 = .ok (.iconst 1, 1) := dk_4 (ck1_s (r := 40) dT_cX11_layGrowths_1 rfl dg_cX11_layGrowths_745.1)
theorem dX11_layGrowths_105 : decode cX11_layGrowths 105 = .ok (.iadd, 1) := dk_96 (ck1_s (r := 41) dT_cX11_layGrowths_1 rfl dg_cX11_layGrowths_745.2.1)
theorem dX11_layGrowths_106 : decode cX11_layGrowths 106 = .ok (.iastore, 1) := dk_79 (ck1_s (r := 42) dT_cX11_layGrowths_1 rfl dg_cX11_layGrowths_745.2.2.1)
theorem dX11_layGrowths_107 : decode cX11_layGrowths 107 = .ok (.iinc 4 1, 3) := dk_132 (ck3i_s (r := 43) dT_cX11_layGrowths_1 rfl dg_cX11_layGrowths_745.2.2.2.1)
theorem dX11_layGrowths_110 : decode cX11_layGrowths 110 = .ok (.goto (-79), 3) := dk_167 (ck3s_s (r := 46) dT_cX11_layGrowths_1 rfl dg_cX11_layGrowths_745.2.2.2.2.1)
theorem dX11_layGrowths_113 : decode cX11_layGrowths 113 = .ok (.aload_n 0, 1) := dk_42 (ck1_s (r := 49) dT_cX11_layGrowths_1 rfl dg_cX11_layGrowths_745.2.2.2.2.2.1)
theorem dX11_layGrowths_114 : decode cX11_layGrowths 114 = .ok (.getfield 130, 3) := dk_180 (ck3_s (r := 50) dT_cX11_layGrowths_1 rfl dg_cX11_layGrowths_745.2.2.2.2.2.2.1)
theorem dX11_layGrowths_117 : decode cX11_layGrowths 117 = .ok (.iload_n 3, 1) := dk_29 (ck1_s (r := 53) dT_cX11_layGrowths_1 rfl dg_cX11_layGrowths_745.2.2.2.2.2.2.2)
theorem dg_cX11_layGrowths_746 : ck1L dS_cX11_layGrowths_1 54 42 = true ∧ ck1L dS_cX11_layGrowths_1 55 29 = true ∧ ck1L dS_cX11_layGrowths_1 56 27 = true ∧ ck3L dS_cX11_layGrowths_1 57 182 531 = true ∧ ck1L dS_cX11_layGrowths_1 60 84 = true ∧ ck1L dS_cX11_layGrowths_1 61 28 = true ∧ ck1L dS_cX11_layGrowths_1 62 42 = true ∧ ck3L dS_cX11_layGrowths_1 63 180 130 = true := by decide +kernel
theorem dX11_layGrowths_118 : decode cX11_layGrowths 118 = .ok (.aload_n 0, 1) := dk_42 (ck1_s (r := 54) dT_cX11_layGrowths_1 rfl dg_cX11_layGrowths_746.1)
theorem dX11_layGrowths_119 : decode cX11_layGrowths 119 = .ok (.iload_n 3, 1) := dk_29 (ck1_s (r := 55) dT_cX11_layGrowths_1 rfl dg_cX11_layGrowths_746.2.1)
theorem dX11_layGrowths_120 : decode cX11_layGrowths 120 = .ok (.iload_n 1, 1) := dk_27 (ck1_s (r := 56) dT_cX11_layGrowths_1 rfl dg_cX11_layGrowths_746.2.2.1)
theorem dX11_layGrowths_121 : decode cX11_layGrowths 121 = .ok (.invokevirtual 531, 3) := dk_182 (ck3_s (r := 57) dT_cX11_layGrowths_1 rfl dg_cX11_layGrowths_746.2.2.2.1)
theorem dX11_layGrowths_124 : decode cX11_layGrowths 124 = .ok (.bastore, 1) := dk_84 (ck1_s (r := 60) dT_cX11_layGrowths_1 rfl dg_cX11_layGrowths_746.2.2.2.2.1)
theorem dX11_layGrowths_125 : decode cX11_layGrowths 125 = .ok (.iload_n 2, 1) := dk_28 (ck1_s (r := 61) dT_cX11_layGrowths_1 rfl dg_cX11_layGrowths_746.2.2.2.2.2.1)
theorem dX11_layGrowths_126 : decode cX11_layGrowths 126 = .ok (.aload_n 0, 1) := dk_42 (ck1_s (r := 62) dT_cX11_layGrowths_1 rfl dg_cX11_layGrowths_746.2.2.2.2.2.2.1)
theorem dX11_layGrowths_127 : decode cX11_layGrowths 127 = .ok (.getfield 130, 3) := dk_180 (ck3_s (r := 63) dT_cX11_layGrowths_1 rfl dg_cX11_layGrowths_746.2.2.2.2.2.2.2)
theorem dg_cX11_layGrowths_747 : ck1L dS_cX11_layGrowths_2 2 29 = true ∧ ck1L dS_cX11_layGrowths_2 3 51 = true ∧ ck3L dS_cX11_layGrowths_2 4 184 310 = true ∧ ck1L dS_cX11_layGrowths_2 7 96 = true ∧ ck1L dS_cX11_layGrowths_2 8 61 = true ∧ ck3iL dS_cX11_layGrowths_2 9 132 3 1 = true ∧ ck3sL dS_cX11_layGrowths_2 12 167 (-136) = true ∧ ck1L dS_cX11_layGrowths_2 15 28 = true := by decide +kernel
theorem dX11_layGrowths_130 : decode cX11_layGrowths 130 = .ok (.iload_n 3, 1) := dk_29 (ck1_s (r := 2) dT_cX11_layGrowths_2 rfl dg_cX11_layGrowths_747.1)
theorem dX11_layGrowths_131 : decode cX11_layGrowths 131 = .ok (.baload, 1) := dk_51 (ck1_s (r := 3) dT_cX11_layGrowths_2 rfl dg_cX11_layGrowths_747.2.1)
theorem dX11_layGrowths_132 : decode cX11_layGrowths 132 = .ok (.invokestatic 310, 3) := dk_184 (ck3_s (r := 4) dT_cX11_layGrowths_2 rfl dg_cX11_layGrowths_747.2.2.1)
theorem dX11_layGrowths_135 : decode cX11_layGrowths 135 = .ok (.iadd, 1) := dk_96 (ck1_s (r := 7) dT_cX11_layGrowths_2 rfl dg_cX11_layGrowths_747.2.2.2.1)
theorem dX11_layGrowths_136 : decode cX11_layGrowths 136 = .ok (.istore_n 2, 1) := dk_61 (ck1_s (r := 8) dT_cX11_layGrowths_2 rfl dg_cX11_layGrowths_747.2.2.2.2.1)
theorem dX11_layGrowths_137 : decode cX11_layGrowths 137 = .ok (.iinc 3 1, 3) := dk_132 (ck3i_s (r := 9) dT_cX11_layGrowths_2 rfl dg_cX11_layGrowths_747.2.2.2.2.2.1)
theorem dX11_layGrowths_140 : decode cX11_layGrowths 140 = .ok (.goto (-136), 3) := dk_167 (ck3s_s (r := 12) dT_cX11_layGrowths_2 rfl dg_cX11_layGrowths_747.2.2.2.2.2.2.1)
theorem dX11_layGrowths_143 : decode cX11_layGrowths 143 = .ok (.iload_n 2, 1) := dk_28 (ck1_s (r := 15) dT_cX11_layGrowths_2 rfl dg_cX11_layGrowths_747.2.2.2.2.2.2.2)
theorem dg_cX11_layGrowths_748 : ck1L dS_cX11_layGrowths_2 16 172 = true := by decide +kernel
theorem dX11_layGrowths_144 : decode cX11_layGrowths 144 = .ok (.ireturn, 1) := dk_172 (ck1_s (r := 16) dT_cX11_layGrowths_2 rfl dg_cX11_layGrowths_748)
theorem dg_cX11_layIlls_749 : ck1 cX11_layIlls 0 42 = true ∧ ck3 cX11_layIlls 1 182 449 = true ∧ ck1 cX11_layIlls 4 3 = true ∧ ck1 cX11_layIlls 5 60 = true ∧ ck1 cX11_layIlls 6 27 = true ∧ ck1 cX11_layIlls 7 42 = true ∧ ck3 cX11_layIlls 8 180 387 = true ∧ ck3s cX11_layIlls 11 162 42 = true := by decide +kernel
theorem dX11_layIlls_0 : decode cX11_layIlls 0 = .ok (.aload_n 0, 1) := dk_42 dg_cX11_layIlls_749.1
theorem dX11_layIlls_1 : decode cX11_layIlls 1 = .ok (.invokevirtual 449, 3) := dk_182 dg_cX11_layIlls_749.2.1
theorem dX11_layIlls_4 : decode cX11_layIlls 4 = .ok (.iconst 0, 1) := dk_3 dg_cX11_layIlls_749.2.2.1
theorem dX11_layIlls_5 : decode cX11_layIlls 5 = .ok (.istore_n 1, 1) := dk_60 dg_cX11_layIlls_749.2.2.2.1
theorem dX11_layIlls_6 : decode cX11_layIlls 6 = .ok (.iload_n 1, 1) := dk_27 dg_cX11_layIlls_749.2.2.2.2.1
theorem dX11_layIlls_7 : decode cX11_layIlls 7 = .ok (.aload_n 0, 1) := dk_42 dg_cX11_layIlls_749.2.2.2.2.2.1
theorem dX11_layIlls_8 : decode cX11_layIlls 8 = .ok (.getfield 387, 3) := dk_180 dg_cX11_layIlls_749.2.2.2.2.2.2.1
theorem dX11_layIlls_11 : decode cX11_layIlls 11 = .ok (.if_icmp .ge 42, 3) := dk_162 dg_cX11_layIlls_749.2.2.2.2.2.2.2
theorem dg_cX11_layIlls_750 : ck1 cX11_layIlls 14 3 = true ∧ ck1 cX11_layIlls 15 61 = true ∧ ck1 cX11_layIlls 16 28 = true ∧ ck1 cX11_layIlls 17 42 = true ∧ ck3 cX11_layIlls 18 180 390 = true ∧ ck3s cX11_layIlls 21 162 26 = true ∧ ck1 cX11_layIlls 24 42 = true ∧ ck3 cX11_layIlls 25 180 108 = true := by decide +kernel
theorem dX11_layIlls_14 : decode cX11_layIlls 14 = .ok (.iconst 0, 1) := dk_3 dg_cX11_layIlls_750.1
theorem dX11_layIlls_15 : decode cX11_layIlls 15 = .ok (.istore_n 2, 1) := dk_61 dg_cX11_layIlls_750.2.1
theorem dX11_layIlls_16 : decode cX11_layIlls 16 = .ok (.iload_n 2, 1) := dk_28 dg_cX11_layIlls_750.2.2.1
theorem dX11_layIlls_17 : decode cX11_layIlls 17 = .ok (.aload_n 0, 1) := dk_42 dg_cX11_layIlls_750.2.2.2.1
theorem dX11_layIlls_18 : decode cX11_layIlls 18 = .ok (.getfield 390, 3) := dk_180 dg_cX11_layIlls_750.2.2.2.2.1
theorem dX11_layIlls_21 : decode cX11_layIlls 21 = .ok (.if_icmp .ge 26, 3) := dk_162 dg_cX11_layIlls_750.2.2.2.2.2.1
theorem dX11_layIlls_24 : decode cX11_layIlls 24 = .ok (.aload_n 0, 1) := dk_42 dg_cX11_layIlls_750.2.2.2.2.2.2.1
theorem dX11_layIlls_25 : decode cX11_layIlls 25 = .ok (.getfield 108, 3) := dk_180 dg_cX11_layIlls_750.2.2.2.2.2.2.2
theorem dg_cX11_layIlls_751 : ck2s cX11_layIlls 28 16 6 = true ∧ ck1 cX11_layIlls 30 27 = true ∧ ck1 cX11_layIlls 31 104 = true ∧ ck1 cX11_layIlls 32 28 = true ∧ ck1 cX11_layIlls 33 96 = true ∧ ck1 cX11_layIlls 34 42 = true ∧ ck1 cX11_layIlls 35 27 = true ∧ ck1 cX11_layIlls 36 28 = true := by decide +kernel
theorem dX11_layIlls_28 : decode cX11_layIlls 28 = .ok (.bipush 6, 2) := dk_16 dg_cX11_layIlls_751.1
theorem dX11_layIlls_30 : decode cX11_layIlls 30 = .ok (.iload_n 1, 1) := dk_27 dg_cX11_layIlls_751.2.1
theorem dX11_layIlls_31 : decode cX11_layIlls 31 = .ok (.imul, 1) := dk_104 dg_cX11_layIlls_751.2.2.1
theorem dX11_layIlls_32 : decode cX11_layIlls 32 = .ok (.iload_n 2, 1) := dk_28 dg_cX11_layIlls_751.2.2.2.1
theorem dX11_layIlls_33 : decode cX11_layIlls 33 = .ok (.iadd, 1) := dk_96 dg_cX11_layIlls_751.2.2.2.2.1
theorem dX11_layIlls_34 : decode cX11_layIlls 34 = .ok (.aload_n 0, 1) := dk_42 dg_cX11_layIlls_751.2.2.2.2.2.1
theorem dX11_layIlls_35 : decode cX11_layIlls 35 = .ok (.iload_n 1, 1) := dk_27 dg_cX11_layIlls_751.2.2.2.2.2.2.1
theorem dX11_layIlls_36 : decode cX11_layIlls 36 = .ok (.iload_n 2, 1) := dk_28 dg_cX11_layIlls_751.2.2.2.2.2.2.2
theorem dg_cX11_layIlls_752 : ck3 cX11_layIlls 37 182 421 = true ∧ ck1 cX11_layIlls 40 79 = true ∧ ck3i cX11_layIlls 41 132 2 1 = true ∧ ck3s cX11_layIlls 44 167 (-28) = true ∧ ck3i cX11_layIlls 47 132 1 1 = true ∧ ck3s cX11_layIlls 50 167 (-44) = true ∧ ck1 cX11_layIlls 53 177 = true := by decide +kernel
theorem dX11_layIlls_37 : decode cX11_layIlls 37 = .ok (.invokevirtual 421, 3) := dk_182 dg_cX11_layIlls_752.1
theorem dX11_layIlls_40 : decode cX11_layIlls 40 = .ok (.iastore, 1) := dk_79 dg_cX11_layIlls_752.2.1
theorem dX11_layIlls_41 : decode cX11_layIlls 41 = .ok (.iinc 2 1, 3) := dk_132 dg_cX11_layIlls_752.2.2.1
theorem dX11_layIlls_44 : decode cX11_layIlls 44 = .ok (.goto (-28), 3) := dk_167 dg_cX11_layIlls_752.2.2.2.1
theorem dX11_layIlls_47 : decode cX11_layIlls 47 = .ok (.iinc 1 1, 3) := dk_132 dg_cX11_layIlls_752.2.2.2.2.1
theorem dX11_layIlls_50 : decode cX11_layIlls 50 = .ok (.goto (-44), 3) := dk_167 dg_cX11_layIlls_752.2.2.2.2.2.1
theorem dX11_layIlls_53 : decode cX11_layIlls 53 = .ok (.return_, 1) := dk_177 dg_cX11_layIlls_752.2.2.2.2.2.2
theorem dg_cX11_leftBy_753 : ck1 cX11_leftBy 0 3 = true ∧ ck1 cX11_leftBy 1 62 = true ∧ ck1 cX11_leftBy 2 3 = true ∧ ck2 cX11_leftBy 3 54 4 = true ∧ ck2 cX11_leftBy 5 21 4 = true ∧ ck2s cX11_leftBy 7 16 30 = true ∧ ck3s cX11_leftBy 9 163 45 = true ∧ ck1 cX11_leftBy 12 29 = true := by decide +kernel
theorem dX11_leftBy_0 : decode cX11_leftBy 0 = .ok (.iconst 0, 1) := dk_3 dg_cX11_leftBy_753.1
theorem dX11_leftBy_1 : decode cX11_leftBy 1 = .ok (.istore_n 3, 1) := dk_62 dg_cX11_leftBy_753.2.1
theorem dX11_leftBy_2 : decode cX11_leftBy 2 = .ok (.iconst 0, 1) := dk_3 dg_cX11_leftBy_753.2.2.1
theorem dX11_leftBy_3 : decode cX11_leftBy 3 = .ok (.istore 4, 2) := dk_54 dg_cX11_leftBy_753.2.2.2.1
theorem dX11_leftBy_5 : decode cX11_leftBy 5 = .ok (.iload 4, 2) := dk_21 dg_cX11_leftBy_753.2.2.2.2.1
theorem dX11_leftBy_7 : decode cX11_leftBy 7 = .ok (.bipush 30, 2) := dk_16 dg_cX11_leftBy_753.2.2.2.2.2.1
theorem dX11_leftBy_9 : decode cX11_leftBy 9 = .ok (.if_icmp .gt 45, 3) := dk_163 dg_cX11_leftBy_753.2.2.2.2.2.2.1
theorem dX11_leftBy_12 : decode cX11_leftBy 12 = .ok (.iload_n 3, 1) := dk_29 dg_cX11_leftBy_753.2.2.2.2.2.2.2
theorem dg_cX11_leftBy_754 : ck1 cX11_leftBy 13 42 = true ∧ ck3 cX11_leftBy 14 180 130 = true ∧ ck2 cX11_leftBy 17 21 4 = true ∧ ck1 cX11_leftBy 19 51 = true ∧ ck3s cX11_leftBy 20 153 22 = true ∧ ck1 cX11_leftBy 23 42 = true ∧ ck3 cX11_leftBy 24 180 127 = true ∧ ck2s cX11_leftBy 27 16 21 = true := by decide +kernel
theorem dX11_leftBy_13 : decode cX11_leftBy 13 = .ok (.aload_n 0, 1) := dk_42 dg_cX11_leftBy_754.1
theorem dX11_leftBy_14 : decode cX11_leftBy 14 = .ok (.getfield 130, 3) := dk_180 dg_cX11_leftBy_754.2.1
theorem dX11_leftBy_17 : decode cX11_leftBy 17 = .ok (.iload 4, 2) := dk_21 dg_cX11_leftBy_754.2.2.1
theorem dX11_leftBy_19 : decode cX11_leftBy 19 = .ok (.baload, 1) := dk_51 dg_cX11_leftBy_754.2.2.2.1
theorem dX11_leftBy_20 : decode cX11_leftBy 20 = .ok (.ifCond .eq 22, 3) := dk_153 dg_cX11_leftBy_754.2.2.2.2.1
theorem dX11_leftBy_23 : decode cX11_leftBy 23 = .ok (.aload_n 0, 1) := dk_42 dg_cX11_leftBy_754.2.2.2.2.2.1
theorem dX11_leftBy_24 : decode cX11_leftBy 24 = .ok (.getfield 127, 3) := dk_180 dg_cX11_leftBy_754.2.2.2.2.2.2.1
theorem dX11_leftBy_27 : decode cX11_leftBy 27 = .ok (.bipush 21, 2) := dk_16 dg_cX11_leftBy_754.2.2.2.2.2.2.2
theorem dg_cX11_leftBy_755 : ck2 cX11_leftBy 29 21 4 = true ∧ ck1 cX11_leftBy 31 104 = true ∧ ck1 cX11_leftBy 32 27 = true ∧ ck1 cX11_leftBy 33 96 = true ∧ ck1 cX11_leftBy 34 51 = true ∧ ck3s cX11_leftBy 35 153 7 = true ∧ ck1 cX11_leftBy 38 4 = true ∧ ck3s cX11_leftBy 39 167 4 = true := by decide +kernel
theorem dX11_leftBy_29 : decode cX11_leftBy 29 = .ok (.iload 4, 2) := dk_21 dg_cX11_leftBy_755.1
theorem dX11_leftBy_31 : decode cX11_leftBy 31 = .ok (.imul, 1) := dk_104 dg_cX11_leftBy_755.2.1
theorem dX11_leftBy_32 : decode cX11_leftBy 32 = .ok (.iload_n 1, 1) := dk_27 dg_cX11_leftBy_755.2.2.1
theorem dX11_leftBy_33 : decode cX11_leftBy 33 = .ok (.iadd, 1) := dk_96 dg_cX11_leftBy_755.2.2.2.1
theorem dX11_leftBy_34 : decode cX11_leftBy 34 = .ok (.baload, 1) := dk_51 dg_cX11_leftBy_755.2.2.2.2.1
theorem dX11_leftBy_35 : decode cX11_leftBy 35 = .ok (.ifCond .eq 7, 3) := dk_153 dg_cX11_leftBy_755.2.2.2.2.2.1
theorem dX11_leftBy_38 : decode cX11_leftBy 38 = .ok (.iconst 1, 1) := dk_4 dg_cX11_leftBy_755.2.2.2.2.2.2.1
theorem dX11_leftBy_39 : decode cX11_leftBy 39 = .ok (.goto 4, 3) := dk_167 dg_cX11_leftBy_755.2.2.2.2.2.2.2
theorem dg_cX11_leftBy_756 : ck1 cX11_leftBy 42 3 = true ∧ ck3 cX11_leftBy 43 184 310 = true ∧ ck1 cX11_leftBy 46 96 = true ∧ ck1 cX11_leftBy 47 62 = true ∧ ck3i cX11_leftBy 48 132 4 1 = true ∧ ck3s cX11_leftBy 51 167 (-46) = true ∧ ck1 cX11_leftBy 54 29 = true ∧ ck1 cX11_leftBy 55 28 = true := by decide +kernel
theorem dX11_leftBy_42 : decode cX11_leftBy 42 = .ok (.iconst 0, 1) := dk_3 dg_cX11_leftBy_756.1
theorem dX11_leftBy_43 : decode cX11_leftBy 43 = .ok (.invokestatic 310, 3) := dk_184 dg_cX11_leftBy_756.2.1
theorem dX11_leftBy_46 : decode cX11_leftBy 46 = .ok (.iadd, 1) := dk_96 dg_cX11_leftBy_756.2.2.1
theorem dX11_leftBy_47 : decode cX11_leftBy 47 = .ok (.istore_n 3, 1) := dk_62 dg_cX11_leftBy_756.2.2.2.1
theorem dX11_leftBy_48 : decode cX11_leftBy 48 = .ok (.iinc 4 1, 3) := dk_132 dg_cX11_leftBy_756.2.2.2.2.1
theorem dX11_leftBy_51 : decode cX11_leftBy 51 = .ok (.goto (-46), 3) := dk_167 dg_cX11_leftBy_756.2.2.2.2.2.1
theorem dX11_leftBy_54 : decode cX11_leftBy 54 = .ok (.iload_n 3, 1) := dk_29 dg_cX11_leftBy_756.2.2.2.2.2.2.1
theorem dX11_leftBy_55 : decode cX11_leftBy 55 = .ok (.iload_n 2, 1) := dk_28 dg_cX11_leftBy_756.2.2.2.2.2.2.2
theorem dg_cX11_leftBy_757 : ck1 cX11_leftBy 56 29 = true ∧ ck1 cX11_leftBy 57 100 = true ∧ ck3 cX11_leftBy 58 184 437 = true ∧ ck1 cX11_leftBy 61 172 = true := by decide +kernel
theorem dX11_leftBy_56 : decode cX11_leftBy 56 = .ok (.iload_n 3, 1) := dk_29 dg_cX11_leftBy_757.1
theorem dX11_leftBy_57 : decode cX11_leftBy 57 = .ok (.isub, 1) := dk_100 dg_cX11_leftBy_757.2.1
theorem dX11_leftBy_58 : decode cX11_leftBy 58 = .ok (.invokestatic 437, 3) := dk_184 dg_cX11_leftBy_757.2.2.1
theorem dX11_leftBy_61 : decode cX11_leftBy 61 = .ok (.ireturn, 1) := dk_172 dg_cX11_leftBy_757.2.2.2
theorem dg_cX11_lesser_758 : ck1 cX11_lesser 0 26 = true ∧ ck1 cX11_lesser 1 27 = true ∧ ck3s cX11_lesser 2 162 7 = true ∧ ck1 cX11_lesser 5 26 = true ∧ ck3s cX11_lesser 6 167 4 = true ∧ ck1 cX11_lesser 9 27 = true ∧ ck1 cX11_lesser 10 172 = true := by decide +kernel
theorem dX11_lesser_0 : decode cX11_lesser 0 = .ok (.iload_n 0, 1) := dk_26 dg_cX11_lesser_758.1
theorem dX11_lesser_1 : decode cX11_lesser 1 = .ok (.iload_n 1, 1) := dk_27 dg_cX11_lesser_758.2.1
theorem dX11_lesser_2 : decode cX11_lesser 2 = .ok (.if_icmp .ge 7, 3) := dk_162 dg_cX11_lesser_758.2.2.1
theorem dX11_lesser_5 : decode cX11_lesser 5 = .ok (.iload_n 0, 1) := dk_26 dg_cX11_lesser_758.2.2.2.1
theorem dX11_lesser_6 : decode cX11_lesser 6 = .ok (.goto 4, 3) := dk_167 dg_cX11_lesser_758.2.2.2.2.1
theorem dX11_lesser_9 : decode cX11_lesser 9 = .ok (.iload_n 1, 1) := dk_27 dg_cX11_lesser_758.2.2.2.2.2.1
theorem dX11_lesser_10 : decode cX11_lesser 10 = .ok (.ireturn, 1) := dk_172 dg_cX11_lesser_758.2.2.2.2.2.2
theorem dg_cX11_letout_759 : ck1 cX11_letout 0 42 = true ∧ ck1 cX11_letout 1 27 = true ∧ ck3 cX11_letout 2 182 455 = true ∧ ck3s cX11_letout 5 153 36 = true ∧ ck1 cX11_letout 8 28 = true ∧ ck1 cX11_letout 9 4 = true ∧ ck1 cX11_letout 10 42 = true ∧ ck3 cX11_letout 11 180 93 = true := by decide +kernel
theorem dX11_letout_0 : decode cX11_letout 0 = .ok (.aload_n 0, 1) := dk_42 dg_cX11_letout_759.1
theorem dX11_letout_1 : decode cX11_letout 1 = .ok (.iload_n 1, 1) := dk_27 dg_cX11_letout_759.2.1
theorem dX11_letout_2 : decode cX11_letout 2 = .ok (.invokevirtual 455, 3) := dk_182 dg_cX11_letout_759.2.2.1
theorem dX11_letout_5 : decode cX11_letout 5 = .ok (.ifCond .eq 36, 3) := dk_153 dg_cX11_letout_759.2.2.2.1
theorem dX11_letout_8 : decode cX11_letout 8 = .ok (.iload_n 2, 1) := dk_28 dg_cX11_letout_759.2.2.2.2.1
theorem dX11_letout_9 : decode cX11_letout 9 = .ok (.iconst 1, 1) := dk_4 dg_cX11_letout_759.2.2.2.2.2.1
theorem dX11_letout_10 : decode cX11_letout 10 = .ok (.aload_n 0, 1) := dk_42 dg_cX11_letout_759.2.2.2.2.2.2.1
theorem dX11_letout_11 : decode cX11_letout 11 = .ok (.getfield 93, 3) := dk_180 dg_cX11_letout_759.2.2.2.2.2.2.2
theorem dg_cX11_letout_760 : ck2s cX11_letout 14 16 24 = true ∧ ck1 cX11_letout 16 27 = true ∧ ck1 cX11_letout 17 96 = true ∧ ck1 cX11_letout 18 46 = true ∧ ck3 cX11_letout 19 184 417 = true ∧ ck3s cX11_letout 22 153 19 = true ∧ ck1 cX11_letout 25 42 = true ∧ ck3 cX11_letout 26 180 93 = true := by decide +kernel
theorem dX11_letout_14 : decode cX11_letout 14 = .ok (.bipush 24, 2) := dk_16 dg_cX11_letout_760.1
theorem dX11_letout_16 : decode cX11_letout 16 = .ok (.iload_n 1, 1) := dk_27 dg_cX11_letout_760.2.1
theorem dX11_letout_17 : decode cX11_letout 17 = .ok (.iadd, 1) := dk_96 dg_cX11_letout_760.2.2.1
theorem dX11_letout_18 : decode cX11_letout 18 = .ok (.iaload, 1) := dk_46 dg_cX11_letout_760.2.2.2.1
theorem dX11_letout_19 : decode cX11_letout 19 = .ok (.invokestatic 417, 3) := dk_184 dg_cX11_letout_760.2.2.2.2.1
theorem dX11_letout_22 : decode cX11_letout 22 = .ok (.ifCond .eq 19, 3) := dk_153 dg_cX11_letout_760.2.2.2.2.2.1
theorem dX11_letout_25 : decode cX11_letout 25 = .ok (.aload_n 0, 1) := dk_42 dg_cX11_letout_760.2.2.2.2.2.2.1
theorem dX11_letout_26 : decode cX11_letout 26 = .ok (.getfield 93, 3) := dk_180 dg_cX11_letout_760.2.2.2.2.2.2.2
theorem dg_cX11_letout_761 : ck2s cX11_letout 29 16 18 = true ∧ ck1 cX11_letout 31 27 = true ∧ ck1 cX11_letout 32 96 = true ∧ ck1 cX11_letout 33 46 = true ∧ ck1 cX11_letout 34 28 = true ∧ ck1 cX11_letout 35 96 = true ∧ ck2s cX11_letout 36 16 99 = true ∧ ck3s cX11_letout 38 164 5 = true := by decide +kernel
theorem dX11_letout_29 : decode cX11_letout 29 = .ok (.bipush 18, 2) := dk_16 dg_cX11_letout_761.1
theorem dX11_letout_31 : decode cX11_letout 31 = .ok (.iload_n 1, 1) := dk_27 dg_cX11_letout_761.2.1
theorem dX11_letout_32 : decode cX11_letout 32 = .ok (.iadd, 1) := dk_96 dg_cX11_letout_761.2.2.1
theorem dX11_letout_33 : decode cX11_letout 33 = .ok (.iaload, 1) := dk_46 dg_cX11_letout_761.2.2.2.1
theorem dX11_letout_34 : decode cX11_letout 34 = .ok (.iload_n 2, 1) := dk_28 dg_cX11_letout_761.2.2.2.2.1
theorem dX11_letout_35 : decode cX11_letout 35 = .ok (.iadd, 1) := dk_96 dg_cX11_letout_761.2.2.2.2.2.1
theorem dX11_letout_36 : decode cX11_letout 36 = .ok (.bipush 99, 2) := dk_16 dg_cX11_letout_761.2.2.2.2.2.2.1
theorem dX11_letout_38 : decode cX11_letout 38 = .ok (.if_icmp .le 5, 3) := dk_164 dg_cX11_letout_761.2.2.2.2.2.2.2
theorem dg_cX11_letout_762 : ck1 cX11_letout 41 2 = true ∧ ck1 cX11_letout 42 172 = true ∧ ck1 cX11_letout 43 42 = true ∧ ck3 cX11_letout 44 182 458 = true ∧ ck1 cX11_letout 47 42 = true ∧ ck3 cX11_letout 48 180 93 = true ∧ ck2s cX11_letout 51 16 24 = true ∧ ck1 cX11_letout 53 27 = true := by decide +kernel
theorem dX11_letout_41 : decode cX11_letout 41 = .ok (.iconst (-1), 1) := dk_2 dg_cX11_letout_762.1
theorem dX11_letout_42 : decode cX11_letout 42 = .ok (.ireturn, 1) := dk_172 dg_cX11_letout_762.2.1
theorem dX11_letout_43 : decode cX11_letout 43 = .ok (.aload_n 0, 1) := dk_42 dg_cX11_letout_762.2.2.1
theorem dX11_letout_44 : decode cX11_letout 44 = .ok (.invokevirtual 458, 3) := dk_182 dg_cX11_letout_762.2.2.2.1
theorem dX11_letout_47 : decode cX11_letout 47 = .ok (.aload_n 0, 1) := dk_42 dg_cX11_letout_762.2.2.2.2.1
theorem dX11_letout_48 : decode cX11_letout 48 = .ok (.getfield 93, 3) := dk_180 dg_cX11_letout_762.2.2.2.2.2.1
theorem dX11_letout_51 : decode cX11_letout 51 = .ok (.bipush 24, 2) := dk_16 dg_cX11_letout_762.2.2.2.2.2.2.1
theorem dX11_letout_53 : decode cX11_letout 53 = .ok (.iload_n 1, 1) := dk_27 dg_cX11_letout_762.2.2.2.2.2.2.2
theorem dg_cX11_letout_763 : ck1 cX11_letout 54 96 = true ∧ ck1 cX11_letout 55 92 = true ∧ ck1 cX11_letout 56 46 = true ∧ ck1 cX11_letout 57 28 = true ∧ ck1 cX11_letout 58 100 = true ∧ ck1 cX11_letout 59 79 = true ∧ ck1 cX11_letout 60 42 = true ∧ ck3 cX11_letout 61 180 93 = true := by decide +kernel
theorem dX11_letout_54 : decode cX11_letout 54 = .ok (.iadd, 1) := dk_96 dg_cX11_letout_763.1
theorem dX11_letout_55 : decode cX11_letout 55 = .ok (.dup2, 1) := dk_92 dg_cX11_letout_763.2.1
theorem dX11_letout_56 : decode cX11_letout 56 = .ok (.iaload, 1) := dk_46 dg_cX11_letout_763.2.2.1
theorem dX11_letout_57 : decode cX11_letout 57 = .ok (.iload_n 2, 1) := dk_28 dg_cX11_letout_763.2.2.2.1
theorem dX11_letout_58 : decode cX11_letout 58 = .ok (.isub, 1) := dk_100 dg_cX11_letout_763.2.2.2.2.1
theorem dX11_letout_59 : decode cX11_letout 59 = .ok (.iastore, 1) := dk_79 dg_cX11_letout_763.2.2.2.2.2.1
theorem dX11_letout_60 : decode cX11_letout 60 = .ok (.aload_n 0, 1) := dk_42 dg_cX11_letout_763.2.2.2.2.2.2.1
theorem dX11_letout_61 : decode cX11_letout 61 = .ok (.getfield 93, 3) := dk_180 dg_cX11_letout_763.2.2.2.2.2.2.2
def dS_cX11_letout_1 : List UInt8 := 16 :: 18 :: 27 :: 96 :: 92 :: 46 :: 28 :: 96 :: 79 :: 42 :: 180 :: 0 :: 93 :: 16 :: 18 :: 27 :: 96 :: 46 :: 172 :: []
def dS_cX11_letout_0 : List UInt8 := 42 :: 27 :: 182 :: 1 :: 199 :: 153 :: 0 :: 36 :: 28 :: 4 :: 42 :: 180 :: 0 :: 93 :: 16 :: 24 :: 27 :: 96 :: 46 :: 184 :: 1 :: 161 :: 153 :: 0 :: 19 :: 42 :: 180 :: 0 :: 93 :: 16 :: 18 :: 27 :: 96 :: 46 :: 28 :: 96 :: 16 :: 99 :: 164 :: 0 :: 5 :: 2 :: 172 :: 42 :: 182 :: 1 :: 202 :: 42 :: 180 :: 0 :: 93 :: 16 :: 24 :: 27 :: 96 :: 92 :: 46 :: 28 :: 100 :: 79 :: 42 :: 180 :: 0 :: 93 :: dS_cX11_letout_1
theorem dT_cX11_letout_0 : cX11_letout.data.toList.drop 0 = dS_cX11_letout_0 := by decide +kernel
theorem dT_cX11_letout_1 : cX11_letout.data.toList.drop 64 = dS_cX11_letout_1 := ck_nx dT_cX11_letout_0 (by decide +kernel) rfl
theorem dg_cX11_letout_764 : ck2sL dS_cX11_letout_1 0 16 18 = true ∧ ck1L dS_cX11_letout_1 2 27 = true ∧ ck1L dS_cX11_letout_1 3 96 = true ∧ ck1L dS_cX11_letout_1 4 92 = true ∧ ck1L dS_cX11_letout_1 5 46 = true ∧ ck1L dS_cX11_letout_1 6 28 = true ∧ ck1L dS_cX11_letout_1 7 96 = true ∧ ck1L dS_cX11_letout_1 8 79 = true := by decide +kernel
theorem dX11_letout_64 : decode cX11_letout 64 = .ok (.bipush 18, 2) := dk_16 (ck2s_s (r := 0) dT_cX11_letout_1 rfl dg_cX11_letout_764.1)
theorem dX11_letout_66 : decode cX11_letout 66 = .ok (.iload_n 1, 1) := dk_27 (ck1_s (r := 2) dT_cX11_letout_1 rfl dg_cX11_letout_764.2.1)
theorem dX11_letout_67 : decode cX11_letout 67 = .ok (.iadd, 1) := dk_96 (ck1_s (r := 3) dT_cX11_letout_1 rfl dg_cX11_letout_764.2.2.1)
theorem dX11_letout_68 : decode cX11_letout 68 = .ok (.dup2, 1) := dk_92 (ck1_s (r := 4) dT_cX11_letout_1 rfl dg_cX11_letout_764.2.2.2.1)
theorem dX11_letout_69 : decode cX11_letout 69 = .ok (.iaload, 1) := dk_46 (ck1_s (r := 5) dT_cX11_letout_1 rfl dg_cX11_letout_764.2.2.2.2.1)
theorem dX11_letout_70 : decode cX11_letout 70 = .ok (.iload_n 2, 1) := dk_28 (ck1_s (r := 6) dT_cX11_letout_1 rfl dg_cX11_letout_764.2.2.2.2.2.1)
theorem dX11_letout_71 : decode cX11_letout 71 = .ok (.iadd, 1) := dk_96 (ck1_s (r := 7) dT_cX11_letout_1 rfl dg_cX11_letout_764.2.2.2.2.2.2.1)
theorem dX11_letout_72 : decode cX11_letout 72 = .ok (.iastore, 1) := dk_79 (ck1_s (r := 8) dT_cX11_letout_1 rfl dg_cX11_letout_764.2.2.2.2.2.2.2)
theorem dg_cX11_letout_765 : ck1L dS_cX11_letout_1 9 42 = true ∧ ck3L dS_cX11_letout_1 10 180 93 = true ∧ ck2sL dS_cX11_letout_1 13 16 18 = true ∧ ck1L dS_cX11_letout_1 15 27 = true ∧ ck1L dS_cX11_letout_1 16 96 = true ∧ ck1L dS_cX11_letout_1 17 46 = true ∧ ck1L dS_cX11_letout_1 18 172 = true := by decide +kernel
theorem dX11_letout_73 : decode cX11_letout 73 = .ok (.aload_n 0, 1) := dk_42 (ck1_s (r := 9) dT_cX11_letout_1 rfl dg_cX11_letout_765.1)
theorem dX11_letout_74 : decode cX11_letout 74 = .ok (.getfield 93, 3) := dk_180 (ck3_s (r := 10) dT_cX11_letout_1 rfl dg_cX11_letout_765.2.1)
theorem dX11_letout_77 : decode cX11_letout 77 = .ok (.bipush 18, 2) := dk_16 (ck2s_s (r := 13) dT_cX11_letout_1 rfl dg_cX11_letout_765.2.2.1)
theorem dX11_letout_79 : decode cX11_letout 79 = .ok (.iload_n 1, 1) := dk_27 (ck1_s (r := 15) dT_cX11_letout_1 rfl dg_cX11_letout_765.2.2.2.1)
theorem dX11_letout_80 : decode cX11_letout 80 = .ok (.iadd, 1) := dk_96 (ck1_s (r := 16) dT_cX11_letout_1 rfl dg_cX11_letout_765.2.2.2.2.1)
theorem dX11_letout_81 : decode cX11_letout 81 = .ok (.iaload, 1) := dk_46 (ck1_s (r := 17) dT_cX11_letout_1 rfl dg_cX11_letout_765.2.2.2.2.2.1)
theorem dX11_letout_82 : decode cX11_letout 82 = .ok (.ireturn, 1) := dk_172 (ck1_s (r := 18) dT_cX11_letout_1 rfl dg_cX11_letout_765.2.2.2.2.2.2)
theorem dg_cX11_lies_766 : ck1 cX11_lies 0 27 = true ∧ ck1 cX11_lies 1 3 = true ∧ ck1 cX11_lies 2 42 = true ∧ ck3 cX11_lies 3 180 414 = true ∧ ck1 cX11_lies 6 4 = true ∧ ck1 cX11_lies 7 100 = true ∧ ck3 cX11_lies 8 184 417 = true ∧ ck3s cX11_lies 11 153 12 = true := by decide +kernel
theorem dX11_lies_0 : decode cX11_lies 0 = .ok (.iload_n 1, 1) := dk_27 dg_cX11_lies_766.1
theorem dX11_lies_1 : decode cX11_lies 1 = .ok (.iconst 0, 1) := dk_3 dg_cX11_lies_766.2.1
theorem dX11_lies_2 : decode cX11_lies 2 = .ok (.aload_n 0, 1) := dk_42 dg_cX11_lies_766.2.2.1
theorem dX11_lies_3 : decode cX11_lies 3 = .ok (.getfield 414, 3) := dk_180 dg_cX11_lies_766.2.2.2.1
theorem dX11_lies_6 : decode cX11_lies 6 = .ok (.iconst 1, 1) := dk_4 dg_cX11_lies_766.2.2.2.2.1
theorem dX11_lies_7 : decode cX11_lies 7 = .ok (.isub, 1) := dk_100 dg_cX11_lies_766.2.2.2.2.2.1
theorem dX11_lies_8 : decode cX11_lies 8 = .ok (.invokestatic 417, 3) := dk_184 dg_cX11_lies_766.2.2.2.2.2.2.1
theorem dX11_lies_11 : decode cX11_lies 11 = .ok (.ifCond .eq 12, 3) := dk_153 dg_cX11_lies_766.2.2.2.2.2.2.2
theorem dg_cX11_lies_767 : ck1 cX11_lies 14 42 = true ∧ ck3 cX11_lies 15 180 102 = true ∧ ck1 cX11_lies 18 27 = true ∧ ck1 cX11_lies 19 46 = true ∧ ck3s cX11_lies 20 167 5 = true ∧ ck2s cX11_lies 23 16 (-2) = true ∧ ck1 cX11_lies 25 172 = true := by decide +kernel
theorem dX11_lies_14 : decode cX11_lies 14 = .ok (.aload_n 0, 1) := dk_42 dg_cX11_lies_767.1
theorem dX11_lies_15 : decode cX11_lies 15 = .ok (.getfield 102, 3) := dk_180 dg_cX11_lies_767.2.1
theorem dX11_lies_18 : decode cX11_lies 18 = .ok (.iload_n 1, 1) := dk_27 dg_cX11_lies_767.2.2.1
theorem dX11_lies_19 : decode cX11_lies 19 = .ok (.iaload, 1) := dk_46 dg_cX11_lies_767.2.2.2.1
theorem dX11_lies_20 : decode cX11_lies 20 = .ok (.goto 5, 3) := dk_167 dg_cX11_lies_767.2.2.2.2.1
theorem dX11_lies_23 : decode cX11_lies 23 = .ok (.bipush (-2), 2) := dk_16 dg_cX11_lies_767.2.2.2.2.2.1
theorem dX11_lies_25 : decode cX11_lies 25 = .ok (.ireturn, 1) := dk_172 dg_cX11_lies_767.2.2.2.2.2.2
theorem dg_cX11_man_768 : ck1 cX11_man 0 42 = true ∧ ck1 cX11_man 1 27 = true ∧ ck3 cX11_man 2 182 446 = true ∧ ck3s cX11_man 5 154 6 = true ∧ ck2s cX11_man 8 16 (-2) = true ∧ ck1 cX11_man 10 172 = true ∧ ck1 cX11_man 11 42 = true ∧ ck3 cX11_man 12 182 449 = true := by decide +kernel
theorem dX11_man_0 : decode cX11_man 0 = .ok (.aload_n 0, 1) := dk_42 dg_cX11_man_768.1
theorem dX11_man_1 : decode cX11_man 1 = .ok (.iload_n 1, 1) := dk_27 dg_cX11_man_768.2.1
theorem dX11_man_2 : decode cX11_man 2 = .ok (.invokevirtual 446, 3) := dk_182 dg_cX11_man_768.2.2.1
theorem dX11_man_5 : decode cX11_man 5 = .ok (.ifCond .ne 6, 3) := dk_154 dg_cX11_man_768.2.2.2.1
theorem dX11_man_8 : decode cX11_man 8 = .ok (.bipush (-2), 2) := dk_16 dg_cX11_man_768.2.2.2.2.1
theorem dX11_man_10 : decode cX11_man 10 = .ok (.ireturn, 1) := dk_172 dg_cX11_man_768.2.2.2.2.2.1
theorem dX11_man_11 : decode cX11_man 11 = .ok (.aload_n 0, 1) := dk_42 dg_cX11_man_768.2.2.2.2.2.2.1
theorem dX11_man_12 : decode cX11_man 12 = .ok (.invokevirtual 449, 3) := dk_182 dg_cX11_man_768.2.2.2.2.2.2.2
theorem dg_cX11_man_769 : ck1 cX11_man 15 28 = true := by decide +kernel
theorem dX11_man_15 : decode cX11_man 15 = .ok (.iload_n 2, 1) := dk_28 dg_cX11_man_769
theorem dX11_man_16 : decode cX11_man 16 = .ok (.tableswitch 73 0 4 #[36, 43, 50, 57, 67], 36) := by decide +kernel
theorem dg_cX11_man_770 : ck1 cX11_man 52 42 = true ∧ ck3 cX11_man 53 180 63 = true ∧ ck1 cX11_man 56 27 = true ∧ ck1 cX11_man 57 46 = true ∧ ck1 cX11_man 58 172 = true ∧ ck1 cX11_man 59 42 = true ∧ ck3 cX11_man 60 180 96 = true ∧ ck1 cX11_man 63 27 = true := by decide +kernel
theorem dX11_man_52 : decode cX11_man 52 = .ok (.aload_n 0, 1) := dk_42 dg_cX11_man_770.1
theorem dX11_man_53 : decode cX11_man 53 = .ok (.getfield 63, 3) := dk_180 dg_cX11_man_770.2.1
theorem dX11_man_56 : decode cX11_man 56 = .ok (.iload_n 1, 1) := dk_27 dg_cX11_man_770.2.2.1
theorem dX11_man_57 : decode cX11_man 57 = .ok (.iaload, 1) := dk_46 dg_cX11_man_770.2.2.2.1
theorem dX11_man_58 : decode cX11_man 58 = .ok (.ireturn, 1) := dk_172 dg_cX11_man_770.2.2.2.2.1
theorem dX11_man_59 : decode cX11_man 59 = .ok (.aload_n 0, 1) := dk_42 dg_cX11_man_770.2.2.2.2.2.1
theorem dX11_man_60 : decode cX11_man 60 = .ok (.getfield 96, 3) := dk_180 dg_cX11_man_770.2.2.2.2.2.2.1
theorem dX11_man_63 : decode cX11_man 63 = .ok (.iload_n 1, 1) := dk_27 dg_cX11_man_770.2.2.2.2.2.2.2
def dS_cX11_man_1 : List UInt8 := 46 :: 172 :: 42 :: 180 :: 0 :: 69 :: 27 :: 46 :: 172 :: 42 :: 180 :: 0 :: 96 :: 16 :: 6 :: 27 :: 96 :: 46 :: 172 :: 42 :: 27 :: 182 :: 1 :: 196 :: 172 :: 16 :: 254 :: 172 :: []
def dS_cX11_man_0 : List UInt8 := 42 :: 27 :: 182 :: 1 :: 190 :: 154 :: 0 :: 6 :: 16 :: 254 :: 172 :: 42 :: 182 :: 1 :: 193 :: 28 :: 170 :: 0 :: 0 :: 0 :: 0 :: 0 :: 0 :: 73 :: 0 :: 0 :: 0 :: 0 :: 0 :: 0 :: 0 :: 4 :: 0 :: 0 :: 0 :: 36 :: 0 :: 0 :: 0 :: 43 :: 0 :: 0 :: 0 :: 50 :: 0 :: 0 :: 0 :: 57 :: 0 :: 0 :: 0 :: 67 :: 42 :: 180 :: 0 :: 63 :: 27 :: 46 :: 172 :: 42 :: 180 :: 0 :: 96 :: 27 :: dS_cX11_man_1
theorem dT_cX11_man_0 : cX11_man.data.toList.drop 0 = dS_cX11_man_0 := by decide +kernel
theorem dT_cX11_man_1 : cX11_man.data.toList.drop 64 = dS_cX11_man_1 := ck_nx dT_cX11_man_0 (by decide +kernel) rfl
theorem dg_cX11_man_771 : ck1L dS_cX11_man_1 0 46 = true ∧ ck1L dS_cX11_man_1 1 172 = true ∧ ck1L dS_cX11_man_1 2 42 = true ∧ ck3L dS_cX11_man_1 3 180 69 = true ∧ ck1L dS_cX11_man_1 6 27 = true ∧ ck1L dS_cX11_man_1 7 46 = true ∧ ck1L dS_cX11_man_1 8 172 = true ∧ ck1L dS_cX11_man_1 9 42 = true := by decide +kernel
theorem dX11_man_64 : decode cX11_man 64 = .ok (.iaload, 1) := dk_46 (ck1_s (r := 0) dT_cX11_man_1 rfl dg_cX11_man_771.1)
theorem dX11_man_65 : decode cX11_man 65 = .ok (.ireturn, 1) := dk_172 (ck1_s (r := 1) dT_cX11_man_1 rfl dg_cX11_man_771.2.1)
theorem dX11_man_66 : decode cX11_man 66 = .ok (.aload_n 0, 1) := dk_42 (ck1_s (r := 2) dT_cX11_man_1 rfl dg_cX11_man_771.2.2.1)
theorem dX11_man_67 : decode cX11_man 67 = .ok (.getfield 69, 3) := dk_180 (ck3_s (r := 3) dT_cX11_man_1 rfl dg_cX11_man_771.2.2.2.1)
theorem dX11_man_70 : decode cX11_man 70 = .ok (.iload_n 1, 1) := dk_27 (ck1_s (r := 6) dT_cX11_man_1 rfl dg_cX11_man_771.2.2.2.2.1)
theorem dX11_man_71 : decode cX11_man 71 = .ok (.iaload, 1) := dk_46 (ck1_s (r := 7) dT_cX11_man_1 rfl dg_cX11_man_771.2.2.2.2.2.1)
theorem dX11_man_72 : decode cX11_man 72 = .ok (.ireturn, 1) := dk_172 (ck1_s (r := 8) dT_cX11_man_1 rfl dg_cX11_man_771.2.2.2.2.2.2.1)
theorem dX11_man_73 : decode cX11_man 73 = .ok (.aload_n 0, 1) := dk_42 (ck1_s (r := 9) dT_cX11_man_1 rfl dg_cX11_man_771.2.2.2.2.2.2.2)
theorem dg_cX11_man_772 : ck3L dS_cX11_man_1 10 180 96 = true ∧ ck2sL dS_cX11_man_1 13 16 6 = true ∧ ck1L dS_cX11_man_1 15 27 = true ∧ ck1L dS_cX11_man_1 16 96 = true ∧ ck1L dS_cX11_man_1 17 46 = true ∧ ck1L dS_cX11_man_1 18 172 = true ∧ ck1L dS_cX11_man_1 19 42 = true ∧ ck1L dS_cX11_man_1 20 27 = true := by decide +kernel
theorem dX11_man_74 : decode cX11_man 74 = .ok (.getfield 96, 3) := dk_180 (ck3_s (r := 10) dT_cX11_man_1 rfl dg_cX11_man_772.1)
theorem dX11_man_77 : decode cX11_man 77 = .ok (.bipush 6, 2) := dk_16 (ck2s_s (r := 13) dT_cX11_man_1 rfl dg_cX11_man_772.2.1)
theorem dX11_man_79 : decode cX11_man 79 = .ok (.iload_n 1, 1) := dk_27 (ck1_s (r := 15) dT_cX11_man_1 rfl dg_cX11_man_772.2.2.1)
theorem dX11_man_80 : decode cX11_man 80 = .ok (.iadd, 1) := dk_96 (ck1_s (r := 16) dT_cX11_man_1 rfl dg_cX11_man_772.2.2.2.1)
theorem dX11_man_81 : decode cX11_man 81 = .ok (.iaload, 1) := dk_46 (ck1_s (r := 17) dT_cX11_man_1 rfl dg_cX11_man_772.2.2.2.2.1)
theorem dX11_man_82 : decode cX11_man 82 = .ok (.ireturn, 1) := dk_172 (ck1_s (r := 18) dT_cX11_man_1 rfl dg_cX11_man_772.2.2.2.2.2.1)
theorem dX11_man_83 : decode cX11_man 83 = .ok (.aload_n 0, 1) := dk_42 (ck1_s (r := 19) dT_cX11_man_1 rfl dg_cX11_man_772.2.2.2.2.2.2.1)
theorem dX11_man_84 : decode cX11_man 84 = .ok (.iload_n 1, 1) := dk_27 (ck1_s (r := 20) dT_cX11_man_1 rfl dg_cX11_man_772.2.2.2.2.2.2.2)
theorem dg_cX11_man_773 : ck3L dS_cX11_man_1 21 182 452 = true ∧ ck1L dS_cX11_man_1 24 172 = true ∧ ck2sL dS_cX11_man_1 25 16 (-2) = true ∧ ck1L dS_cX11_man_1 27 172 = true := by decide +kernel
theorem dX11_man_85 : decode cX11_man 85 = .ok (.invokevirtual 452, 3) := dk_182 (ck3_s (r := 21) dT_cX11_man_1 rfl dg_cX11_man_773.1)
theorem dX11_man_88 : decode cX11_man 88 = .ok (.ireturn, 1) := dk_172 (ck1_s (r := 24) dT_cX11_man_1 rfl dg_cX11_man_773.2.1)
theorem dX11_man_89 : decode cX11_man 89 = .ok (.bipush (-2), 2) := dk_16 (ck2s_s (r := 25) dT_cX11_man_1 rfl dg_cX11_man_773.2.2.1)
theorem dX11_man_91 : decode cX11_man 91 = .ok (.ireturn, 1) := dk_172 (ck1_s (r := 27) dT_cX11_man_1 rfl dg_cX11_man_773.2.2.2)
theorem dg_cX11_mayNot_774 : ck1 cX11_mayNot 0 42 = true ∧ ck3 cX11_mayNot 1 180 256 = true ∧ ck3s cX11_mayNot 4 153 37 = true ∧ ck1 cX11_mayNot 7 42 = true ∧ ck3 cX11_mayNot 8 180 33 = true ∧ ck1 cX11_mayNot 11 42 = true ∧ ck3 cX11_mayNot 12 180 256 = true ∧ ck1 cX11_mayNot 15 4 = true := by decide +kernel
theorem dX11_mayNot_0 : decode cX11_mayNot 0 = .ok (.aload_n 0, 1) := dk_42 dg_cX11_mayNot_774.1
theorem dX11_mayNot_1 : decode cX11_mayNot 1 = .ok (.getfield 256, 3) := dk_180 dg_cX11_mayNot_774.2.1
theorem dX11_mayNot_4 : decode cX11_mayNot 4 = .ok (.ifCond .eq 37, 3) := dk_153 dg_cX11_mayNot_774.2.2.1
theorem dX11_mayNot_7 : decode cX11_mayNot 7 = .ok (.aload_n 0, 1) := dk_42 dg_cX11_mayNot_774.2.2.2.1
theorem dX11_mayNot_8 : decode cX11_mayNot 8 = .ok (.getfield 33, 3) := dk_180 dg_cX11_mayNot_774.2.2.2.2.1
theorem dX11_mayNot_11 : decode cX11_mayNot 11 = .ok (.aload_n 0, 1) := dk_42 dg_cX11_mayNot_774.2.2.2.2.2.1
theorem dX11_mayNot_12 : decode cX11_mayNot 12 = .ok (.getfield 256, 3) := dk_180 dg_cX11_mayNot_774.2.2.2.2.2.2.1
theorem dX11_mayNot_15 : decode cX11_mayNot 15 = .ok (.iconst 1, 1) := dk_4 dg_cX11_mayNot_774.2.2.2.2.2.2.2
theorem dg_cX11_mayNot_775 : ck1 cX11_mayNot 16 100 = true ∧ ck1 cX11_mayNot 17 46 = true ∧ ck2s cX11_mayNot 18 16 20 = true ∧ ck3s cX11_mayNot 20 159 21 = true ∧ ck1 cX11_mayNot 23 42 = true ∧ ck3 cX11_mayNot 24 180 33 = true ∧ ck1 cX11_mayNot 27 42 = true ∧ ck3 cX11_mayNot 28 180 256 = true := by decide +kernel
theorem dX11_mayNot_16 : decode cX11_mayNot 16 = .ok (.isub, 1) := dk_100 dg_cX11_mayNot_775.1
theorem dX11_mayNot_17 : decode cX11_mayNot 17 = .ok (.iaload, 1) := dk_46 dg_cX11_mayNot_775.2.1
theorem dX11_mayNot_18 : decode cX11_mayNot 18 = .ok (.bipush 20, 2) := dk_16 dg_cX11_mayNot_775.2.2.1
theorem dX11_mayNot_20 : decode cX11_mayNot 20 = .ok (.if_icmp .eq 21, 3) := dk_159 dg_cX11_mayNot_775.2.2.2.1
theorem dX11_mayNot_23 : decode cX11_mayNot 23 = .ok (.aload_n 0, 1) := dk_42 dg_cX11_mayNot_775.2.2.2.2.1
theorem dX11_mayNot_24 : decode cX11_mayNot 24 = .ok (.getfield 33, 3) := dk_180 dg_cX11_mayNot_775.2.2.2.2.2.1
theorem dX11_mayNot_27 : decode cX11_mayNot 27 = .ok (.aload_n 0, 1) := dk_42 dg_cX11_mayNot_775.2.2.2.2.2.2.1
theorem dX11_mayNot_28 : decode cX11_mayNot 28 = .ok (.getfield 256, 3) := dk_180 dg_cX11_mayNot_775.2.2.2.2.2.2.2
theorem dg_cX11_mayNot_776 : ck1 cX11_mayNot 31 4 = true ∧ ck1 cX11_mayNot 32 100 = true ∧ ck1 cX11_mayNot 33 46 = true ∧ ck3 cX11_mayNot 34 184 259 = true ∧ ck1 cX11_mayNot 37 7 = true ∧ ck3s cX11_mayNot 38 162 7 = true ∧ ck1 cX11_mayNot 41 4 = true ∧ ck3s cX11_mayNot 42 167 4 = true := by decide +kernel
theorem dX11_mayNot_31 : decode cX11_mayNot 31 = .ok (.iconst 1, 1) := dk_4 dg_cX11_mayNot_776.1
theorem dX11_mayNot_32 : decode cX11_mayNot 32 = .ok (.isub, 1) := dk_100 dg_cX11_mayNot_776.2.1
theorem dX11_mayNot_33 : decode cX11_mayNot 33 = .ok (.iaload, 1) := dk_46 dg_cX11_mayNot_776.2.2.1
theorem dX11_mayNot_34 : decode cX11_mayNot 34 = .ok (.invokestatic 259, 3) := dk_184 dg_cX11_mayNot_776.2.2.2.1
theorem dX11_mayNot_37 : decode cX11_mayNot 37 = .ok (.iconst 4, 1) := dk_7 dg_cX11_mayNot_776.2.2.2.2.1
theorem dX11_mayNot_38 : decode cX11_mayNot 38 = .ok (.if_icmp .ge 7, 3) := dk_162 dg_cX11_mayNot_776.2.2.2.2.2.1
theorem dX11_mayNot_41 : decode cX11_mayNot 41 = .ok (.iconst 1, 1) := dk_4 dg_cX11_mayNot_776.2.2.2.2.2.2.1
theorem dX11_mayNot_42 : decode cX11_mayNot 42 = .ok (.goto 4, 3) := dk_167 dg_cX11_mayNot_776.2.2.2.2.2.2.2
theorem dg_cX11_mayNot_777 : ck1 cX11_mayNot 45 3 = true ∧ ck1 cX11_mayNot 46 172 = true := by decide +kernel
theorem dX11_mayNot_45 : decode cX11_mayNot 45 = .ok (.iconst 0, 1) := dk_3 dg_cX11_mayNot_777.1
theorem dX11_mayNot_46 : decode cX11_mayNot 46 = .ok (.ireturn, 1) := dk_172 dg_cX11_mayNot_777.2
theorem dg_cX11_members_778 : ck1 cX11_members 0 3 = true ∧ ck1 cX11_members 1 60 = true ∧ ck1 cX11_members 2 3 = true ∧ ck1 cX11_members 3 61 = true ∧ ck1 cX11_members 4 28 = true ∧ ck2s cX11_members 5 16 6 = true ∧ ck3s cX11_members 7 162 17 = true ∧ ck1 cX11_members 10 27 = true := by decide +kernel
theorem dX11_members_0 : decode cX11_members 0 = .ok (.iconst 0, 1) := dk_3 dg_cX11_members_778.1
theorem dX11_members_1 : decode cX11_members 1 = .ok (.istore_n 1, 1) := dk_60 dg_cX11_members_778.2.1
theorem dX11_members_2 : decode cX11_members 2 = .ok (.iconst 0, 1) := dk_3 dg_cX11_members_778.2.2.1
theorem dX11_members_3 : decode cX11_members 3 = .ok (.istore_n 2, 1) := dk_61 dg_cX11_members_778.2.2.2.1
theorem dX11_members_4 : decode cX11_members 4 = .ok (.iload_n 2, 1) := dk_28 dg_cX11_members_778.2.2.2.2.1
theorem dX11_members_5 : decode cX11_members 5 = .ok (.bipush 6, 2) := dk_16 dg_cX11_members_778.2.2.2.2.2.1
theorem dX11_members_7 : decode cX11_members 7 = .ok (.if_icmp .ge 17, 3) := dk_162 dg_cX11_members_778.2.2.2.2.2.2.1
theorem dX11_members_10 : decode cX11_members 10 = .ok (.iload_n 1, 1) := dk_27 dg_cX11_members_778.2.2.2.2.2.2.2
theorem dg_cX11_members_779 : ck1 cX11_members 11 26 = true ∧ ck1 cX11_members 12 28 = true ∧ ck1 cX11_members 13 122 = true ∧ ck1 cX11_members 14 4 = true ∧ ck1 cX11_members 15 126 = true ∧ ck1 cX11_members 16 96 = true ∧ ck1 cX11_members 17 60 = true ∧ ck3i cX11_members 18 132 2 1 = true := by decide +kernel
theorem dX11_members_11 : decode cX11_members 11 = .ok (.iload_n 0, 1) := dk_26 dg_cX11_members_779.1
theorem dX11_members_12 : decode cX11_members 12 = .ok (.iload_n 2, 1) := dk_28 dg_cX11_members_779.2.1
theorem dX11_members_13 : decode cX11_members 13 = .ok (.ishr, 1) := dk_122 dg_cX11_members_779.2.2.1
theorem dX11_members_14 : decode cX11_members 14 = .ok (.iconst 1, 1) := dk_4 dg_cX11_members_779.2.2.2.1
theorem dX11_members_15 : decode cX11_members 15 = .ok (.iand, 1) := dk_126 dg_cX11_members_779.2.2.2.2.1
theorem dX11_members_16 : decode cX11_members 16 = .ok (.iadd, 1) := dk_96 dg_cX11_members_779.2.2.2.2.2.1
theorem dX11_members_17 : decode cX11_members 17 = .ok (.istore_n 1, 1) := dk_60 dg_cX11_members_779.2.2.2.2.2.2.1
theorem dX11_members_18 : decode cX11_members 18 = .ok (.iinc 2 1, 3) := dk_132 dg_cX11_members_779.2.2.2.2.2.2.2
theorem dg_cX11_members_780 : ck3s cX11_members 21 167 (-17) = true ∧ ck1 cX11_members 24 27 = true ∧ ck1 cX11_members 25 172 = true := by decide +kernel
theorem dX11_members_21 : decode cX11_members 21 = .ok (.goto (-17), 3) := dk_167 dg_cX11_members_780.1
theorem dX11_members_24 : decode cX11_members 24 = .ok (.iload_n 1, 1) := dk_27 dg_cX11_members_780.2.1
theorem dX11_members_25 : decode cX11_members 25 = .ok (.ireturn, 1) := dk_172 dg_cX11_members_780.2.2
theorem dg_cX11_menFor_781 : ck1 cX11_menFor 0 3 = true ∧ ck1 cX11_menFor 1 61 = true ∧ ck1 cX11_menFor 2 3 = true ∧ ck1 cX11_menFor 3 62 = true ∧ ck1 cX11_menFor 4 29 = true ∧ ck1 cX11_menFor 5 42 = true ∧ ck3 cX11_menFor 6 180 387 = true ∧ ck3s cX11_menFor 9 162 21 = true := by decide +kernel
theorem dX11_menFor_0 : decode cX11_menFor 0 = .ok (.iconst 0, 1) := dk_3 dg_cX11_menFor_781.1
theorem dX11_menFor_1 : decode cX11_menFor 1 = .ok (.istore_n 2, 1) := dk_61 dg_cX11_menFor_781.2.1
theorem dX11_menFor_2 : decode cX11_menFor 2 = .ok (.iconst 0, 1) := dk_3 dg_cX11_menFor_781.2.2.1
theorem dX11_menFor_3 : decode cX11_menFor 3 = .ok (.istore_n 3, 1) := dk_62 dg_cX11_menFor_781.2.2.2.1
theorem dX11_menFor_4 : decode cX11_menFor 4 = .ok (.iload_n 3, 1) := dk_29 dg_cX11_menFor_781.2.2.2.2.1
theorem dX11_menFor_5 : decode cX11_menFor 5 = .ok (.aload_n 0, 1) := dk_42 dg_cX11_menFor_781.2.2.2.2.2.1
theorem dX11_menFor_6 : decode cX11_menFor 6 = .ok (.getfield 387, 3) := dk_180 dg_cX11_menFor_781.2.2.2.2.2.2.1
theorem dX11_menFor_9 : decode cX11_menFor 9 = .ok (.if_icmp .ge 21, 3) := dk_162 dg_cX11_menFor_781.2.2.2.2.2.2.2
theorem dg_cX11_menFor_782 : ck1 cX11_menFor 12 28 = true ∧ ck1 cX11_menFor 13 42 = true ∧ ck1 cX11_menFor 14 29 = true ∧ ck1 cX11_menFor 15 27 = true ∧ ck3 cX11_menFor 16 182 424 = true ∧ ck3 cX11_menFor 19 184 310 = true ∧ ck1 cX11_menFor 22 96 = true ∧ ck1 cX11_menFor 23 61 = true := by decide +kernel
theorem dX11_menFor_12 : decode cX11_menFor 12 = .ok (.iload_n 2, 1) := dk_28 dg_cX11_menFor_782.1
theorem dX11_menFor_13 : decode cX11_menFor 13 = .ok (.aload_n 0, 1) := dk_42 dg_cX11_menFor_782.2.1
theorem dX11_menFor_14 : decode cX11_menFor 14 = .ok (.iload_n 3, 1) := dk_29 dg_cX11_menFor_782.2.2.1
theorem dX11_menFor_15 : decode cX11_menFor 15 = .ok (.iload_n 1, 1) := dk_27 dg_cX11_menFor_782.2.2.2.1
theorem dX11_menFor_16 : decode cX11_menFor 16 = .ok (.invokevirtual 424, 3) := dk_182 dg_cX11_menFor_782.2.2.2.2.1
theorem dX11_menFor_19 : decode cX11_menFor 19 = .ok (.invokestatic 310, 3) := dk_184 dg_cX11_menFor_782.2.2.2.2.2.1
theorem dX11_menFor_22 : decode cX11_menFor 22 = .ok (.iadd, 1) := dk_96 dg_cX11_menFor_782.2.2.2.2.2.2.1
theorem dX11_menFor_23 : decode cX11_menFor 23 = .ok (.istore_n 2, 1) := dk_61 dg_cX11_menFor_782.2.2.2.2.2.2.2
theorem dg_cX11_menFor_783 : ck3i cX11_menFor 24 132 3 1 = true ∧ ck3s cX11_menFor 27 167 (-23) = true ∧ ck1 cX11_menFor 30 28 = true ∧ ck1 cX11_menFor 31 172 = true := by decide +kernel
theorem dX11_menFor_24 : decode cX11_menFor 24 = .ok (.iinc 3 1, 3) := dk_132 dg_cX11_menFor_783.1
theorem dX11_menFor_27 : decode cX11_menFor 27 = .ok (.goto (-23), 3) := dk_167 dg_cX11_menFor_783.2.1
theorem dX11_menFor_30 : decode cX11_menFor 30 = .ok (.iload_n 2, 1) := dk_28 dg_cX11_menFor_783.2.2.1
theorem dX11_menFor_31 : decode cX11_menFor 31 = .ok (.ireturn, 1) := dk_172 dg_cX11_menFor_783.2.2.2
theorem dg_cX11_misfit_784 : ck1 cX11_misfit 0 42 = true ∧ ck3 cX11_misfit 1 182 449 = true ∧ ck1 cX11_misfit 4 42 = true ∧ ck1 cX11_misfit 5 27 = true ∧ ck3 cX11_misfit 6 182 446 = true ∧ ck3s cX11_misfit 9 153 20 = true ∧ ck1 cX11_misfit 12 42 = true ∧ ck1 cX11_misfit 13 28 = true := by decide +kernel
theorem dX11_misfit_0 : decode cX11_misfit 0 = .ok (.aload_n 0, 1) := dk_42 dg_cX11_misfit_784.1
theorem dX11_misfit_1 : decode cX11_misfit 1 = .ok (.invokevirtual 449, 3) := dk_182 dg_cX11_misfit_784.2.1
theorem dX11_misfit_4 : decode cX11_misfit 4 = .ok (.aload_n 0, 1) := dk_42 dg_cX11_misfit_784.2.2.1
theorem dX11_misfit_5 : decode cX11_misfit 5 = .ok (.iload_n 1, 1) := dk_27 dg_cX11_misfit_784.2.2.2.1
theorem dX11_misfit_6 : decode cX11_misfit 6 = .ok (.invokevirtual 446, 3) := dk_182 dg_cX11_misfit_784.2.2.2.2.1
theorem dX11_misfit_9 : decode cX11_misfit 9 = .ok (.ifCond .eq 20, 3) := dk_153 dg_cX11_misfit_784.2.2.2.2.2.1
theorem dX11_misfit_12 : decode cX11_misfit 12 = .ok (.aload_n 0, 1) := dk_42 dg_cX11_misfit_784.2.2.2.2.2.2.1
theorem dX11_misfit_13 : decode cX11_misfit 13 = .ok (.iload_n 2, 1) := dk_28 dg_cX11_misfit_784.2.2.2.2.2.2.2
theorem dg_cX11_misfit_785 : ck3 cX11_misfit 14 182 455 = true ∧ ck3s cX11_misfit 17 153 12 = true ∧ ck1 cX11_misfit 20 42 = true ∧ ck1 cX11_misfit 21 27 = true ∧ ck1 cX11_misfit 22 28 = true ∧ ck3 cX11_misfit 23 182 421 = true ∧ ck3s cX11_misfit 26 167 4 = true ∧ ck1 cX11_misfit 29 2 = true := by decide +kernel
theorem dX11_misfit_14 : decode cX11_misfit 14 = .ok (.invokevirtual 455, 3) := dk_182 dg_cX11_misfit_785.1
theorem dX11_misfit_17 : decode cX11_misfit 17 = .ok (.ifCond .eq 12, 3) := dk_153 dg_cX11_misfit_785.2.1
theorem dX11_misfit_20 : decode cX11_misfit 20 = .ok (.aload_n 0, 1) := dk_42 dg_cX11_misfit_785.2.2.1
theorem dX11_misfit_21 : decode cX11_misfit 21 = .ok (.iload_n 1, 1) := dk_27 dg_cX11_misfit_785.2.2.2.1
theorem dX11_misfit_22 : decode cX11_misfit 22 = .ok (.iload_n 2, 1) := dk_28 dg_cX11_misfit_785.2.2.2.2.1
theorem dX11_misfit_23 : decode cX11_misfit 23 = .ok (.invokevirtual 421, 3) := dk_182 dg_cX11_misfit_785.2.2.2.2.2.1
theorem dX11_misfit_26 : decode cX11_misfit 26 = .ok (.goto 4, 3) := dk_167 dg_cX11_misfit_785.2.2.2.2.2.2.1
theorem dX11_misfit_29 : decode cX11_misfit 29 = .ok (.iconst (-1), 1) := dk_2 dg_cX11_misfit_785.2.2.2.2.2.2.2
theorem dg_cX11_misfit_786 : ck1 cX11_misfit 30 172 = true := by decide +kernel
theorem dX11_misfit_30 : decode cX11_misfit 30 = .ok (.ireturn, 1) := dk_172 dg_cX11_misfit_786
theorem dg_cX11_misfitOf_787 : ck1 cX11_misfitOf 0 42 = true ∧ ck3 cX11_misfitOf 1 180 39 = true ∧ ck1 cX11_misfitOf 4 3 = true ∧ ck1 cX11_misfitOf 5 42 = true ∧ ck3 cX11_misfitOf 6 180 96 = true ∧ ck1 cX11_misfitOf 9 27 = true ∧ ck1 cX11_misfitOf 10 46 = true ∧ ck1 cX11_misfitOf 11 42 = true := by decide +kernel
theorem dX11_misfitOf_0 : decode cX11_misfitOf 0 = .ok (.aload_n 0, 1) := dk_42 dg_cX11_misfitOf_787.1
theorem dX11_misfitOf_1 : decode cX11_misfitOf 1 = .ok (.getfield 39, 3) := dk_180 dg_cX11_misfitOf_787.2.1
theorem dX11_misfitOf_4 : decode cX11_misfitOf 4 = .ok (.iconst 0, 1) := dk_3 dg_cX11_misfitOf_787.2.2.1
theorem dX11_misfitOf_5 : decode cX11_misfitOf 5 = .ok (.aload_n 0, 1) := dk_42 dg_cX11_misfitOf_787.2.2.2.1
theorem dX11_misfitOf_6 : decode cX11_misfitOf 6 = .ok (.getfield 96, 3) := dk_180 dg_cX11_misfitOf_787.2.2.2.2.1
theorem dX11_misfitOf_9 : decode cX11_misfitOf 9 = .ok (.iload_n 1, 1) := dk_27 dg_cX11_misfitOf_787.2.2.2.2.2.1
theorem dX11_misfitOf_10 : decode cX11_misfitOf 10 = .ok (.iaload, 1) := dk_46 dg_cX11_misfitOf_787.2.2.2.2.2.2.1
theorem dX11_misfitOf_11 : decode cX11_misfitOf 11 = .ok (.aload_n 0, 1) := dk_42 dg_cX11_misfitOf_787.2.2.2.2.2.2.2
theorem dg_cX11_misfitOf_788 : ck3 cX11_misfitOf 12 180 96 = true ∧ ck2s cX11_misfitOf 15 16 18 = true ∧ ck1 cX11_misfitOf 17 28 = true ∧ ck1 cX11_misfitOf 18 96 = true ∧ ck1 cX11_misfitOf 19 46 = true ∧ ck3 cX11_misfitOf 20 184 314 = true ∧ ck1 cX11_misfitOf 23 79 = true ∧ ck1 cX11_misfitOf 24 42 = true := by decide +kernel
theorem dX11_misfitOf_12 : decode cX11_misfitOf 12 = .ok (.getfield 96, 3) := dk_180 dg_cX11_misfitOf_788.1
theorem dX11_misfitOf_15 : decode cX11_misfitOf 15 = .ok (.bipush 18, 2) := dk_16 dg_cX11_misfitOf_788.2.1
theorem dX11_misfitOf_17 : decode cX11_misfitOf 17 = .ok (.iload_n 2, 1) := dk_28 dg_cX11_misfitOf_788.2.2.1
theorem dX11_misfitOf_18 : decode cX11_misfitOf 18 = .ok (.iadd, 1) := dk_96 dg_cX11_misfitOf_788.2.2.2.1
theorem dX11_misfitOf_19 : decode cX11_misfitOf 19 = .ok (.iaload, 1) := dk_46 dg_cX11_misfitOf_788.2.2.2.2.1
theorem dX11_misfitOf_20 : decode cX11_misfitOf 20 = .ok (.invokestatic 314, 3) := dk_184 dg_cX11_misfitOf_788.2.2.2.2.2.1
theorem dX11_misfitOf_23 : decode cX11_misfitOf 23 = .ok (.iastore, 1) := dk_79 dg_cX11_misfitOf_788.2.2.2.2.2.2.1
theorem dX11_misfitOf_24 : decode cX11_misfitOf 24 = .ok (.aload_n 0, 1) := dk_42 dg_cX11_misfitOf_788.2.2.2.2.2.2.2
theorem dg_cX11_misfitOf_789 : ck3 cX11_misfitOf 25 180 39 = true ∧ ck1 cX11_misfitOf 28 4 = true ∧ ck1 cX11_misfitOf 29 42 = true ∧ ck3 cX11_misfitOf 30 180 96 = true ∧ ck2s cX11_misfitOf 33 16 18 = true ∧ ck1 cX11_misfitOf 35 28 = true ∧ ck1 cX11_misfitOf 36 96 = true ∧ ck1 cX11_misfitOf 37 46 = true := by decide +kernel
theorem dX11_misfitOf_25 : decode cX11_misfitOf 25 = .ok (.getfield 39, 3) := dk_180 dg_cX11_misfitOf_789.1
theorem dX11_misfitOf_28 : decode cX11_misfitOf 28 = .ok (.iconst 1, 1) := dk_4 dg_cX11_misfitOf_789.2.1
theorem dX11_misfitOf_29 : decode cX11_misfitOf 29 = .ok (.aload_n 0, 1) := dk_42 dg_cX11_misfitOf_789.2.2.1
theorem dX11_misfitOf_30 : decode cX11_misfitOf 30 = .ok (.getfield 96, 3) := dk_180 dg_cX11_misfitOf_789.2.2.2.1
theorem dX11_misfitOf_33 : decode cX11_misfitOf 33 = .ok (.bipush 18, 2) := dk_16 dg_cX11_misfitOf_789.2.2.2.2.1
theorem dX11_misfitOf_35 : decode cX11_misfitOf 35 = .ok (.iload_n 2, 1) := dk_28 dg_cX11_misfitOf_789.2.2.2.2.2.1
theorem dX11_misfitOf_36 : decode cX11_misfitOf 36 = .ok (.iadd, 1) := dk_96 dg_cX11_misfitOf_789.2.2.2.2.2.2.1
theorem dX11_misfitOf_37 : decode cX11_misfitOf 37 = .ok (.iaload, 1) := dk_46 dg_cX11_misfitOf_789.2.2.2.2.2.2.2
theorem dg_cX11_misfitOf_790 : ck1 cX11_misfitOf 38 42 = true ∧ ck3 cX11_misfitOf 39 180 96 = true ∧ ck1 cX11_misfitOf 42 27 = true ∧ ck1 cX11_misfitOf 43 46 = true ∧ ck3 cX11_misfitOf 44 184 314 = true ∧ ck1 cX11_misfitOf 47 79 = true ∧ ck1 cX11_misfitOf 48 42 = true ∧ ck3 cX11_misfitOf 49 180 39 = true := by decide +kernel
theorem dX11_misfitOf_38 : decode cX11_misfitOf 38 = .ok (.aload_n 0, 1) := dk_42 dg_cX11_misfitOf_790.1
theorem dX11_misfitOf_39 : decode cX11_misfitOf 39 = .ok (.getfield 96, 3) := dk_180 dg_cX11_misfitOf_790.2.1
theorem dX11_misfitOf_42 : decode cX11_misfitOf 42 = .ok (.iload_n 1, 1) := dk_27 dg_cX11_misfitOf_790.2.2.1
theorem dX11_misfitOf_43 : decode cX11_misfitOf 43 = .ok (.iaload, 1) := dk_46 dg_cX11_misfitOf_790.2.2.2.1
theorem dX11_misfitOf_44 : decode cX11_misfitOf 44 = .ok (.invokestatic 314, 3) := dk_184 dg_cX11_misfitOf_790.2.2.2.2.1
theorem dX11_misfitOf_47 : decode cX11_misfitOf 47 = .ok (.iastore, 1) := dk_79 dg_cX11_misfitOf_790.2.2.2.2.2.1
theorem dX11_misfitOf_48 : decode cX11_misfitOf 48 = .ok (.aload_n 0, 1) := dk_42 dg_cX11_misfitOf_790.2.2.2.2.2.2.1
theorem dX11_misfitOf_49 : decode cX11_misfitOf 49 = .ok (.getfield 39, 3) := dk_180 dg_cX11_misfitOf_790.2.2.2.2.2.2.2
theorem dg_cX11_misfitOf_791 : ck1 cX11_misfitOf 52 5 = true ∧ ck1 cX11_misfitOf 53 42 = true ∧ ck3 cX11_misfitOf 54 180 63 = true ∧ ck1 cX11_misfitOf 57 27 = true ∧ ck1 cX11_misfitOf 58 46 = true ∧ ck1 cX11_misfitOf 59 42 = true ∧ ck3 cX11_misfitOf 60 180 96 = true ∧ ck2s cX11_misfitOf 63 16 12 = true := by decide +kernel
theorem dX11_misfitOf_52 : decode cX11_misfitOf 52 = .ok (.iconst 2, 1) := dk_5 dg_cX11_misfitOf_791.1
theorem dX11_misfitOf_53 : decode cX11_misfitOf 53 = .ok (.aload_n 0, 1) := dk_42 dg_cX11_misfitOf_791.2.1
theorem dX11_misfitOf_54 : decode cX11_misfitOf 54 = .ok (.getfield 63, 3) := dk_180 dg_cX11_misfitOf_791.2.2.1
theorem dX11_misfitOf_57 : decode cX11_misfitOf 57 = .ok (.iload_n 1, 1) := dk_27 dg_cX11_misfitOf_791.2.2.2.1
theorem dX11_misfitOf_58 : decode cX11_misfitOf 58 = .ok (.iaload, 1) := dk_46 dg_cX11_misfitOf_791.2.2.2.2.1
theorem dX11_misfitOf_59 : decode cX11_misfitOf 59 = .ok (.aload_n 0, 1) := dk_42 dg_cX11_misfitOf_791.2.2.2.2.2.1
theorem dX11_misfitOf_60 : decode cX11_misfitOf 60 = .ok (.getfield 96, 3) := dk_180 dg_cX11_misfitOf_791.2.2.2.2.2.2.1
theorem dX11_misfitOf_63 : decode cX11_misfitOf 63 = .ok (.bipush 12, 2) := dk_16 dg_cX11_misfitOf_791.2.2.2.2.2.2.2
def dS_cX11_misfitOf_5 : List UInt8 := 46 :: 42 :: 180 :: 0 :: 36 :: 29 :: 46 :: 184 :: 1 :: 70 :: 79 :: 132 :: 4 :: 1 :: 167 :: 255 :: 103 :: 42 :: 180 :: 0 :: 36 :: 3 :: 46 :: 17 :: 3 :: 231 :: 184 :: 1 :: 64 :: 172 :: []
def dS_cX11_misfitOf_4 : List UInt8 := 180 :: 0 :: 27 :: 21 :: 4 :: 46 :: 5 :: 160 :: 0 :: 33 :: 42 :: 180 :: 0 :: 36 :: 29 :: 4 :: 100 :: 42 :: 180 :: 0 :: 36 :: 29 :: 4 :: 100 :: 46 :: 154 :: 0 :: 7 :: 4 :: 167 :: 0 :: 4 :: 3 :: 184 :: 1 :: 54 :: 79 :: 167 :: 0 :: 38 :: 132 :: 3 :: 255 :: 42 :: 180 :: 0 :: 36 :: 29 :: 4 :: 100 :: 42 :: 180 :: 0 :: 30 :: 21 :: 4 :: 46 :: 42 :: 180 :: 0 :: 36 :: 29 :: 4 :: 100 :: dS_cX11_misfitOf_5
def dS_cX11_misfitOf_3 : List UInt8 := 0 :: 27 :: 21 :: 4 :: 46 :: 153 :: 0 :: 14 :: 42 :: 180 :: 0 :: 27 :: 21 :: 4 :: 46 :: 4 :: 160 :: 0 :: 47 :: 42 :: 180 :: 0 :: 36 :: 29 :: 42 :: 180 :: 0 :: 27 :: 21 :: 4 :: 46 :: 154 :: 0 :: 13 :: 42 :: 180 :: 0 :: 30 :: 21 :: 4 :: 46 :: 167 :: 0 :: 15 :: 42 :: 180 :: 0 :: 39 :: 42 :: 180 :: 0 :: 30 :: 21 :: 4 :: 46 :: 46 :: 79 :: 132 :: 3 :: 1 :: 167 :: 0 :: 79 :: 42 :: dS_cX11_misfitOf_4
def dS_cX11_misfitOf_2 : List UInt8 := 154 :: 0 :: 48 :: 6 :: 42 :: 180 :: 0 :: 39 :: 3 :: 46 :: 104 :: 42 :: 180 :: 0 :: 39 :: 4 :: 46 :: 96 :: 5 :: 42 :: 180 :: 0 :: 39 :: 5 :: 46 :: 104 :: 96 :: 42 :: 180 :: 0 :: 39 :: 6 :: 46 :: 96 :: 42 :: 180 :: 0 :: 39 :: 7 :: 46 :: 96 :: 17 :: 3 :: 231 :: 184 :: 1 :: 64 :: 172 :: 3 :: 62 :: 3 :: 54 :: 4 :: 21 :: 4 :: 42 :: 180 :: 1 :: 67 :: 162 :: 0 :: 150 :: 42 :: 180 :: dS_cX11_misfitOf_3
def dS_cX11_misfitOf_1 : List UInt8 := 12 :: 28 :: 96 :: 46 :: 184 :: 1 :: 58 :: 79 :: 42 :: 180 :: 0 :: 39 :: 6 :: 42 :: 180 :: 0 :: 96 :: 16 :: 12 :: 28 :: 96 :: 46 :: 42 :: 180 :: 0 :: 63 :: 27 :: 46 :: 184 :: 1 :: 58 :: 79 :: 42 :: 180 :: 0 :: 39 :: 7 :: 42 :: 180 :: 0 :: 96 :: 16 :: 30 :: 28 :: 96 :: 46 :: 79 :: 42 :: 180 :: 0 :: 39 :: 8 :: 42 :: 180 :: 0 :: 96 :: 16 :: 37 :: 46 :: 79 :: 42 :: 180 :: 1 :: 61 :: dS_cX11_misfitOf_2
def dS_cX11_misfitOf_0 : List UInt8 := 42 :: 180 :: 0 :: 39 :: 3 :: 42 :: 180 :: 0 :: 96 :: 27 :: 46 :: 42 :: 180 :: 0 :: 96 :: 16 :: 18 :: 28 :: 96 :: 46 :: 184 :: 1 :: 58 :: 79 :: 42 :: 180 :: 0 :: 39 :: 4 :: 42 :: 180 :: 0 :: 96 :: 16 :: 18 :: 28 :: 96 :: 46 :: 42 :: 180 :: 0 :: 96 :: 27 :: 46 :: 184 :: 1 :: 58 :: 79 :: 42 :: 180 :: 0 :: 39 :: 5 :: 42 :: 180 :: 0 :: 63 :: 27 :: 46 :: 42 :: 180 :: 0 :: 96 :: 16 :: dS_cX11_misfitOf_1
theorem dT_cX11_misfitOf_0 : cX11_misfitOf.data.toList.drop 0 = dS_cX11_misfitOf_0 := by decide +kernel
theorem dT_cX11_misfitOf_1 : cX11_misfitOf.data.toList.drop 64 = dS_cX11_misfitOf_1 := ck_nx dT_cX11_misfitOf_0 (by decide +kernel) rfl
theorem dT_cX11_misfitOf_2 : cX11_misfitOf.data.toList.drop 128 = dS_cX11_misfitOf_2 := ck_nx dT_cX11_misfitOf_1 (by decide +kernel) rfl
theorem dT_cX11_misfitOf_3 : cX11_misfitOf.data.toList.drop 192 = dS_cX11_misfitOf_3 := ck_nx dT_cX11_misfitOf_2 (by decide +kernel) rfl
theorem dT_cX11_misfitOf_4 : cX11_misfitOf.data.toList.drop 256 = dS_cX11_misfitOf_4 := ck_nx dT_cX11_misfitOf_3 (by decide +kernel) rfl
theorem dT_cX11_misfitOf_5 : cX11_misfitOf.data.toList.drop 320 = dS_cX11_misfitOf_5 := ck_nx dT_cX11_misfitOf_4 (by decide +kernel) rfl
theorem dg_cX11_misfitOf_792 : ck1L dS_cX11_misfitOf_1 1 28 = true ∧ ck1L dS_cX11_misfitOf_1 2 96 = true ∧ ck1L dS_cX11_misfitOf_1 3 46 = true ∧ ck3L dS_cX11_misfitOf_1 4 184 314 = true ∧ ck1L dS_cX11_misfitOf_1 7 79 = true ∧ ck1L dS_cX11_misfitOf_1 8 42 = true ∧ ck3L dS_cX11_misfitOf_1 9 180 39 = true ∧ ck1L dS_cX11_misfitOf_1 12 6 = true := by decide +kernel
theorem dX11_misfitOf_65 : decode cX11_misfitOf 65 = .ok (.iload_n 2, 1) := dk_28 (ck1_s (r := 1) dT_cX11_misfitOf_1 rfl dg_cX11_misfitOf_792.1)
theorem dX11_misfitOf_66 : decode cX11_misfitOf 66 = .ok (.iadd, 1) := dk_96 (ck1_s (r := 2) dT_cX11_misfitOf_1 rfl dg_cX11_misfitOf_792.2.1)
theorem dX11_misfitOf_67 : decode cX11_misfitOf 67 = .ok (.iaload, 1) := dk_46 (ck1_s (r := 3) dT_cX11_misfitOf_1 rfl dg_cX11_misfitOf_792.2.2.1)
theorem dX11_misfitOf_68 : decode cX11_misfitOf 68 = .ok (.invokestatic 314, 3) := dk_184 (ck3_s (r := 4) dT_cX11_misfitOf_1 rfl dg_cX11_misfitOf_792.2.2.2.1)
theorem dX11_misfitOf_71 : decode cX11_misfitOf 71 = .ok (.iastore, 1) := dk_79 (ck1_s (r := 7) dT_cX11_misfitOf_1 rfl dg_cX11_misfitOf_792.2.2.2.2.1)
theorem dX11_misfitOf_72 : decode cX11_misfitOf 72 = .ok (.aload_n 0, 1) := dk_42 (ck1_s (r := 8) dT_cX11_misfitOf_1 rfl dg_cX11_misfitOf_792.2.2.2.2.2.1)
theorem dX11_misfitOf_73 : decode cX11_misfitOf 73 = .ok (.getfield 39, 3) := dk_180 (ck3_s (r := 9) dT_cX11_misfitOf_1 rfl dg_cX11_misfitOf_792.2.2.2.2.2.2.1)
theorem dX11_misfitOf_76 : decode cX11_misfitOf 76 = .ok (.iconst 3, 1) := dk_6 (ck1_s (r := 12) dT_cX11_misfitOf_1 rfl dg_cX11_misfitOf_792.2.2.2.2.2.2.2)
theorem dg_cX11_misfitOf_793 : ck1L dS_cX11_misfitOf_1 13 42 = true ∧ ck3L dS_cX11_misfitOf_1 14 180 96 = true ∧ ck2sL dS_cX11_misfitOf_1 17 16 12 = true ∧ ck1L dS_cX11_misfitOf_1 19 28 = true ∧ ck1L dS_cX11_misfitOf_1 20 96 = true ∧ ck1L dS_cX11_misfitOf_1 21 46 = true ∧ ck1L dS_cX11_misfitOf_1 22 42 = true ∧ ck3L dS_cX11_misfitOf_1 23 180 63 = true := by decide +kernel
theorem dX11_misfitOf_77 : decode cX11_misfitOf 77 = .ok (.aload_n 0, 1) := dk_42 (ck1_s (r := 13) dT_cX11_misfitOf_1 rfl dg_cX11_misfitOf_793.1)
theorem dX11_misfitOf_78 : decode cX11_misfitOf 78 = .ok (.getfield 96, 3) := dk_180 (ck3_s (r := 14) dT_cX11_misfitOf_1 rfl dg_cX11_misfitOf_793.2.1)
theorem dX11_misfitOf_81 : decode cX11_misfitOf 81 = .ok (.bipush 12, 2) := dk_16 (ck2s_s (r := 17) dT_cX11_misfitOf_1 rfl dg_cX11_misfitOf_793.2.2.1)
theorem dX11_misfitOf_83 : decode cX11_misfitOf 83 = .ok (.iload_n 2, 1) := dk_28 (ck1_s (r := 19) dT_cX11_misfitOf_1 rfl dg_cX11_misfitOf_793.2.2.2.1)
theorem dX11_misfitOf_84 : decode cX11_misfitOf 84 = .ok (.iadd, 1) := dk_96 (ck1_s (r := 20) dT_cX11_misfitOf_1 rfl dg_cX11_misfitOf_793.2.2.2.2.1)
theorem dX11_misfitOf_85 : decode cX11_misfitOf 85 = .ok (.iaload, 1) := dk_46 (ck1_s (r := 21) dT_cX11_misfitOf_1 rfl dg_cX11_misfitOf_793.2.2.2.2.2.1)
theorem dX11_misfitOf_86 : decode cX11_misfitOf 86 = .ok (.aload_n 0, 1) := dk_42 (ck1_s (r := 22) dT_cX11_misfitOf_1 rfl dg_cX11_misfitOf_793.2.2.2.2.2.2.1)
theorem dX11_misfitOf_87 : decode cX11_misfitOf 87 = .ok (.getfield 63, 3) := dk_180 (ck3_s (r := 23) dT_cX11_misfitOf_1 rfl dg_cX11_misfitOf_793.2.2.2.2.2.2.2)
theorem dg_cX11_misfitOf_794 : ck1L dS_cX11_misfitOf_1 26 27 = true ∧ ck1L dS_cX11_misfitOf_1 27 46 = true ∧ ck3L dS_cX11_misfitOf_1 28 184 314 = true ∧ ck1L dS_cX11_misfitOf_1 31 79 = true ∧ ck1L dS_cX11_misfitOf_1 32 42 = true ∧ ck3L dS_cX11_misfitOf_1 33 180 39 = true ∧ ck1L dS_cX11_misfitOf_1 36 7 = true ∧ ck1L dS_cX11_misfitOf_1 37 42 = true := by decide +kernel
theorem dX11_misfitOf_90 : decode cX11_misfitOf 90 = .ok (.iload_n 1, 1) := dk_27 (ck1_s (r := 26) dT_cX11_misfitOf_1 rfl dg_cX11_misfitOf_794.1)
theorem dX11_misfitOf_91 : decode cX11_misfitOf 91 = .ok (.iaload, 1) := dk_46 (ck1_s (r := 27) dT_cX11_misfitOf_1 rfl dg_cX11_misfitOf_794.2.1)
theorem dX11_misfitOf_92 : decode cX11_misfitOf 92 = .ok (.invokestatic 314, 3) := dk_184 (ck3_s (r := 28) dT_cX11_misfitOf_1 rfl dg_cX11_misfitOf_794.2.2.1)
theorem dX11_misfitOf_95 : decode cX11_misfitOf 95 = .ok (.iastore, 1) := dk_79 (ck1_s (r := 31) dT_cX11_misfitOf_1 rfl dg_cX11_misfitOf_794.2.2.2.1)
theorem dX11_misfitOf_96 : decode cX11_misfitOf 96 = .ok (.aload_n 0, 1) := dk_42 (ck1_s (r := 32) dT_cX11_misfitOf_1 rfl dg_cX11_misfitOf_794.2.2.2.2.1)
theorem dX11_misfitOf_97 : decode cX11_misfitOf 97 = .ok (.getfield 39, 3) := dk_180 (ck3_s (r := 33) dT_cX11_misfitOf_1 rfl dg_cX11_misfitOf_794.2.2.2.2.2.1)
theorem dX11_misfitOf_100 : decode cX11_misfitOf 100 = .ok (.iconst 4, 1) := dk_7 (ck1_s (r := 36) dT_cX11_misfitOf_1 rfl dg_cX11_misfitOf_794.2.2.2.2.2.2.1)
theorem dX11_misfitOf_101 : decode cX11_misfitOf 101 = .ok (.aload_n 0, 1) := dk_42 (ck1_s (r := 37) dT_cX11_misfitOf_1 rfl dg_cX11_misfitOf_794.2.2.2.2.2.2.2)
theorem dg_cX11_misfitOf_795 : ck3L dS_cX11_misfitOf_1 38 180 96 = true ∧ ck2sL dS_cX11_misfitOf_1 41 16 30 = true ∧ ck1L dS_cX11_misfitOf_1 43 28 = true ∧ ck1L dS_cX11_misfitOf_1 44 96 = true ∧ ck1L dS_cX11_misfitOf_1 45 46 = true ∧ ck1L dS_cX11_misfitOf_1 46 79 = true ∧ ck1L dS_cX11_misfitOf_1 47 42 = true ∧ ck3L dS_cX11_misfitOf_1 48 180 39 = true := by decide +kernel
theorem dX11_misfitOf_102 : decode cX11_misfitOf 102 = .ok (.getfield 96, 3) := dk_180 (ck3_s (r := 38) dT_cX11_misfitOf_1 rfl dg_cX11_misfitOf_795.1)
theorem dX11_misfitOf_105 : decode cX11_misfitOf 105 = .ok (.bipush 30, 2) := dk_16 (ck2s_s (r := 41) dT_cX11_misfitOf_1 rfl dg_cX11_misfitOf_795.2.1)
theorem dX11_misfitOf_107 : decode cX11_misfitOf 107 = .ok (.iload_n 2, 1) := dk_28 (ck1_s (r := 43) dT_cX11_misfitOf_1 rfl dg_cX11_misfitOf_795.2.2.1)
theorem dX11_misfitOf_108 : decode cX11_misfitOf 108 = .ok (.iadd, 1) := dk_96 (ck1_s (r := 44) dT_cX11_misfitOf_1 rfl dg_cX11_misfitOf_795.2.2.2.1)
theorem dX11_misfitOf_109 : decode cX11_misfitOf 109 = .ok (.iaload, 1) := dk_46 (ck1_s (r := 45) dT_cX11_misfitOf_1 rfl dg_cX11_misfitOf_795.2.2.2.2.1)
theorem dX11_misfitOf_110 : decode cX11_misfitOf 110 = .ok (.iastore, 1) := dk_79 (ck1_s (r := 46) dT_cX11_misfitOf_1 rfl dg_cX11_misfitOf_795.2.2.2.2.2.1)
theorem dX11_misfitOf_111 : decode cX11_misfitOf 111 = .ok (.aload_n 0, 1) := dk_42 (ck1_s (r := 47) dT_cX11_misfitOf_1 rfl dg_cX11_misfitOf_795.2.2.2.2.2.2.1)
theorem dX11_misfitOf_112 : decode cX11_misfitOf 112 = .ok (.getfield 39, 3) := dk_180 (ck3_s (r := 48) dT_cX11_misfitOf_1 rfl dg_cX11_misfitOf_795.2.2.2.2.2.2.2)
theorem dg_cX11_misfitOf_796 : ck1L dS_cX11_misfitOf_1 51 8 = true ∧ ck1L dS_cX11_misfitOf_1 52 42 = true ∧ ck3L dS_cX11_misfitOf_1 53 180 96 = true ∧ ck2sL dS_cX11_misfitOf_1 56 16 37 = true ∧ ck1L dS_cX11_misfitOf_1 58 46 = true ∧ ck1L dS_cX11_misfitOf_1 59 79 = true ∧ ck1L dS_cX11_misfitOf_1 60 42 = true ∧ ck3L dS_cX11_misfitOf_1 61 180 317 = true := by decide +kernel
theorem dX11_misfitOf_115 : decode cX11_misfitOf 115 = .ok (.iconst 5, 1) := dk_8 (ck1_s (r := 51) dT_cX11_misfitOf_1 rfl dg_cX11_misfitOf_796.1)
theorem dX11_misfitOf_116 : decode cX11_misfitOf 116 = .ok (.aload_n 0, 1) := dk_42 (ck1_s (r := 52) dT_cX11_misfitOf_1 rfl dg_cX11_misfitOf_796.2.1)
theorem dX11_misfitOf_117 : decode cX11_misfitOf 117 = .ok (.getfield 96, 3) := dk_180 (ck3_s (r := 53) dT_cX11_misfitOf_1 rfl dg_cX11_misfitOf_796.2.2.1)
theorem dX11_misfitOf_120 : decode cX11_misfitOf 120 = .ok (.bipush 37, 2) := dk_16 (ck2s_s (r := 56) dT_cX11_misfitOf_1 rfl dg_cX11_misfitOf_796.2.2.2.1)
theorem dX11_misfitOf_122 : decode cX11_misfitOf 122 = .ok (.iaload, 1) := dk_46 (ck1_s (r := 58) dT_cX11_misfitOf_1 rfl dg_cX11_misfitOf_796.2.2.2.2.1)
theorem dX11_misfitOf_123 : decode cX11_misfitOf 123 = .ok (.iastore, 1) := dk_79 (ck1_s (r := 59) dT_cX11_misfitOf_1 rfl dg_cX11_misfitOf_796.2.2.2.2.2.1)
theorem dX11_misfitOf_124 : decode cX11_misfitOf 124 = .ok (.aload_n 0, 1) := dk_42 (ck1_s (r := 60) dT_cX11_misfitOf_1 rfl dg_cX11_misfitOf_796.2.2.2.2.2.2.1)
theorem dX11_misfitOf_125 : decode cX11_misfitOf 125 = .ok (.getfield 317, 3) := dk_180 (ck3_s (r := 61) dT_cX11_misfitOf_1 rfl dg_cX11_misfitOf_796.2.2.2.2.2.2.2)
theorem dg_cX11_misfitOf_797 : ck3sL dS_cX11_misfitOf_2 0 154 48 = true ∧ ck1L dS_cX11_misfitOf_2 3 6 = true ∧ ck1L dS_cX11_misfitOf_2 4 42 = true ∧ ck3L dS_cX11_misfitOf_2 5 180 39 = true ∧ ck1L dS_cX11_misfitOf_2 8 3 = true ∧ ck1L dS_cX11_misfitOf_2 9 46 = true ∧ ck1L dS_cX11_misfitOf_2 10 104 = true ∧ ck1L dS_cX11_misfitOf_2 11 42 = true := by decide +kernel
theorem dX11_misfitOf_128 : decode cX11_misfitOf 128 = .ok (.ifCond .ne 48, 3) := dk_154 (ck3s_s (r := 0) dT_cX11_misfitOf_2 rfl dg_cX11_misfitOf_797.1)
theorem dX11_misfitOf_131 : decode cX11_misfitOf 131 = .ok (.iconst 3, 1) := dk_6 (ck1_s (r := 3) dT_cX11_misfitOf_2 rfl dg_cX11_misfitOf_797.2.1)
theorem dX11_misfitOf_132 : decode cX11_misfitOf 132 = .ok (.aload_n 0, 1) := dk_42 (ck1_s (r := 4) dT_cX11_misfitOf_2 rfl dg_cX11_misfitOf_797.2.2.1)
theorem dX11_misfitOf_133 : decode cX11_misfitOf 133 = .ok (.getfield 39, 3) := dk_180 (ck3_s (r := 5) dT_cX11_misfitOf_2 rfl dg_cX11_misfitOf_797.2.2.2.1)
theorem dX11_misfitOf_136 : decode cX11_misfitOf 136 = .ok (.iconst 0, 1) := dk_3 (ck1_s (r := 8) dT_cX11_misfitOf_2 rfl dg_cX11_misfitOf_797.2.2.2.2.1)
theorem dX11_misfitOf_137 : decode cX11_misfitOf 137 = .ok (.iaload, 1) := dk_46 (ck1_s (r := 9) dT_cX11_misfitOf_2 rfl dg_cX11_misfitOf_797.2.2.2.2.2.1)
theorem dX11_misfitOf_138 : decode cX11_misfitOf 138 = .ok (.imul, 1) := dk_104 (ck1_s (r := 10) dT_cX11_misfitOf_2 rfl dg_cX11_misfitOf_797.2.2.2.2.2.2.1)
theorem dX11_misfitOf_139 : decode cX11_misfitOf 139 = .ok (.aload_n 0, 1) := dk_42 (ck1_s (r := 11) dT_cX11_misfitOf_2 rfl dg_cX11_misfitOf_797.2.2.2.2.2.2.2)
theorem dg_cX11_misfitOf_798 : ck3L dS_cX11_misfitOf_2 12 180 39 = true ∧ ck1L dS_cX11_misfitOf_2 15 4 = true ∧ ck1L dS_cX11_misfitOf_2 16 46 = true ∧ ck1L dS_cX11_misfitOf_2 17 96 = true ∧ ck1L dS_cX11_misfitOf_2 18 5 = true ∧ ck1L dS_cX11_misfitOf_2 19 42 = true ∧ ck3L dS_cX11_misfitOf_2 20 180 39 = true ∧ ck1L dS_cX11_misfitOf_2 23 5 = true := by decide +kernel
theorem dX11_misfitOf_140 : decode cX11_misfitOf 140 = .ok (.getfield 39, 3) := dk_180 (ck3_s (r := 12) dT_cX11_misfitOf_2 rfl dg_cX11_misfitOf_798.1)
theorem dX11_misfitOf_143 : decode cX11_misfitOf 143 = .ok (.iconst 1, 1) := dk_4 (ck1_s (r := 15) dT_cX11_misfitOf_2 rfl dg_cX11_misfitOf_798.2.1)
theorem dX11_misfitOf_144 : decode cX11_misfitOf 144 = .ok (.iaload, 1) := dk_46 (ck1_s (r := 16) dT_cX11_misfitOf_2 rfl dg_cX11_misfitOf_798.2.2.1)
theorem dX11_misfitOf_145 : decode cX11_misfitOf 145 = .ok (.iadd, 1) := dk_96 (ck1_s (r := 17) dT_cX11_misfitOf_2 rfl dg_cX11_misfitOf_798.2.2.2.1)
theorem dX11_misfitOf_146 : decode cX11_misfitOf 146 = .ok (.iconst 2, 1) := dk_5 (ck1_s (r := 18) dT_cX11_misfitOf_2 rfl dg_cX11_misfitOf_798.2.2.2.2.1)
theorem dX11_misfitOf_147 : decode cX11_misfitOf 147 = .ok (.aload_n 0, 1) := dk_42 (ck1_s (r := 19) dT_cX11_misfitOf_2 rfl dg_cX11_misfitOf_798.2.2.2.2.2.1)
theorem dX11_misfitOf_148 : decode cX11_misfitOf 148 = .ok (.getfield 39, 3) := dk_180 (ck3_s (r := 20) dT_cX11_misfitOf_2 rfl dg_cX11_misfitOf_798.2.2.2.2.2.2.1)
theorem dX11_misfitOf_151 : decode cX11_misfitOf 151 = .ok (.iconst 2, 1) := dk_5 (ck1_s (r := 23) dT_cX11_misfitOf_2 rfl dg_cX11_misfitOf_798.2.2.2.2.2.2.2)
theorem dg_cX11_misfitOf_799 : ck1L dS_cX11_misfitOf_2 24 46 = true ∧ ck1L dS_cX11_misfitOf_2 25 104 = true ∧ ck1L dS_cX11_misfitOf_2 26 96 = true ∧ ck1L dS_cX11_misfitOf_2 27 42 = true ∧ ck3L dS_cX11_misfitOf_2 28 180 39 = true ∧ ck1L dS_cX11_misfitOf_2 31 6 = true ∧ ck1L dS_cX11_misfitOf_2 32 46 = true ∧ ck1L dS_cX11_misfitOf_2 33 96 = true := by decide +kernel
theorem dX11_misfitOf_152 : decode cX11_misfitOf 152 = .ok (.iaload, 1) := dk_46 (ck1_s (r := 24) dT_cX11_misfitOf_2 rfl dg_cX11_misfitOf_799.1)
theorem dX11_misfitOf_153 : decode cX11_misfitOf 153 = .ok (.imul, 1) := dk_104 (ck1_s (r := 25) dT_cX11_misfitOf_2 rfl dg_cX11_misfitOf_799.2.1)
theorem dX11_misfitOf_154 : decode cX11_misfitOf 154 = .ok (.iadd, 1) := dk_96 (ck1_s (r := 26) dT_cX11_misfitOf_2 rfl dg_cX11_misfitOf_799.2.2.1)
theorem dX11_misfitOf_155 : decode cX11_misfitOf 155 = .ok (.aload_n 0, 1) := dk_42 (ck1_s (r := 27) dT_cX11_misfitOf_2 rfl dg_cX11_misfitOf_799.2.2.2.1)
theorem dX11_misfitOf_156 : decode cX11_misfitOf 156 = .ok (.getfield 39, 3) := dk_180 (ck3_s (r := 28) dT_cX11_misfitOf_2 rfl dg_cX11_misfitOf_799.2.2.2.2.1)
theorem dX11_misfitOf_159 : decode cX11_misfitOf 159 = .ok (.iconst 3, 1) := dk_6 (ck1_s (r := 31) dT_cX11_misfitOf_2 rfl dg_cX11_misfitOf_799.2.2.2.2.2.1)
theorem dX11_misfitOf_160 : decode cX11_misfitOf 160 = .ok (.iaload, 1) := dk_46 (ck1_s (r := 32) dT_cX11_misfitOf_2 rfl dg_cX11_misfitOf_799.2.2.2.2.2.2.1)
theorem dX11_misfitOf_161 : decode cX11_misfitOf 161 = .ok (.iadd, 1) := dk_96 (ck1_s (r := 33) dT_cX11_misfitOf_2 rfl dg_cX11_misfitOf_799.2.2.2.2.2.2.2)
theorem dg_cX11_misfitOf_800 : ck1L dS_cX11_misfitOf_2 34 42 = true ∧ ck3L dS_cX11_misfitOf_2 35 180 39 = true ∧ ck1L dS_cX11_misfitOf_2 38 7 = true ∧ ck1L dS_cX11_misfitOf_2 39 46 = true ∧ ck1L dS_cX11_misfitOf_2 40 96 = true ∧ ck3sL dS_cX11_misfitOf_2 41 17 999 = true ∧ ck3L dS_cX11_misfitOf_2 44 184 320 = true ∧ ck1L dS_cX11_misfitOf_2 47 172 = true := by decide +kernel
theorem dX11_misfitOf_162 : decode cX11_misfitOf 162 = .ok (.aload_n 0, 1) := dk_42 (ck1_s (r := 34) dT_cX11_misfitOf_2 rfl dg_cX11_misfitOf_800.1)
theorem dX11_misfitOf_163 : decode cX11_misfitOf 163 = .ok (.getfield 39, 3) := dk_180 (ck3_s (r := 35) dT_cX11_misfitOf_2 rfl dg_cX11_misfitOf_800.2.1)
theorem dX11_misfitOf_166 : decode cX11_misfitOf 166 = .ok (.iconst 4, 1) := dk_7 (ck1_s (r := 38) dT_cX11_misfitOf_2 rfl dg_cX11_misfitOf_800.2.2.1)
theorem dX11_misfitOf_167 : decode cX11_misfitOf 167 = .ok (.iaload, 1) := dk_46 (ck1_s (r := 39) dT_cX11_misfitOf_2 rfl dg_cX11_misfitOf_800.2.2.2.1)
theorem dX11_misfitOf_168 : decode cX11_misfitOf 168 = .ok (.iadd, 1) := dk_96 (ck1_s (r := 40) dT_cX11_misfitOf_2 rfl dg_cX11_misfitOf_800.2.2.2.2.1)
theorem dX11_misfitOf_169 : decode cX11_misfitOf 169 = .ok (.sipush 999, 3) := dk_17 (ck3s_s (r := 41) dT_cX11_misfitOf_2 rfl dg_cX11_misfitOf_800.2.2.2.2.2.1)
theorem dX11_misfitOf_172 : decode cX11_misfitOf 172 = .ok (.invokestatic 320, 3) := dk_184 (ck3_s (r := 44) dT_cX11_misfitOf_2 rfl dg_cX11_misfitOf_800.2.2.2.2.2.2.1)
theorem dX11_misfitOf_175 : decode cX11_misfitOf 175 = .ok (.ireturn, 1) := dk_172 (ck1_s (r := 47) dT_cX11_misfitOf_2 rfl dg_cX11_misfitOf_800.2.2.2.2.2.2.2)
theorem dg_cX11_misfitOf_801 : ck1L dS_cX11_misfitOf_2 48 3 = true ∧ ck1L dS_cX11_misfitOf_2 49 62 = true ∧ ck1L dS_cX11_misfitOf_2 50 3 = true ∧ ck2L dS_cX11_misfitOf_2 51 54 4 = true ∧ ck2L dS_cX11_misfitOf_2 53 21 4 = true ∧ ck1L dS_cX11_misfitOf_2 55 42 = true ∧ ck3L dS_cX11_misfitOf_2 56 180 323 = true ∧ ck3sL dS_cX11_misfitOf_2 59 162 150 = true := by decide +kernel
theorem dX11_misfitOf_176 : decode cX11_misfitOf 176 = .ok (.iconst 0, 1) := dk_3 (ck1_s (r := 48) dT_cX11_misfitOf_2 rfl dg_cX11_misfitOf_801.1)
theorem dX11_misfitOf_177 : decode cX11_misfitOf 177 = .ok (.istore_n 3, 1) := dk_62 (ck1_s (r := 49) dT_cX11_misfitOf_2 rfl dg_cX11_misfitOf_801.2.1)
theorem dX11_misfitOf_178 : decode cX11_misfitOf 178 = .ok (.iconst 0, 1) := dk_3 (ck1_s (r := 50) dT_cX11_misfitOf_2 rfl dg_cX11_misfitOf_801.2.2.1)
theorem dX11_misfitOf_179 : decode cX11_misfitOf 179 = .ok (.istore 4, 2) := dk_54 (ck2_s (r := 51) dT_cX11_misfitOf_2 rfl dg_cX11_misfitOf_801.2.2.2.1)
theorem dX11_misfitOf_181 : decode cX11_misfitOf 181 = .ok (.iload 4, 2) := dk_21 (ck2_s (r := 53) dT_cX11_misfitOf_2 rfl dg_cX11_misfitOf_801.2.2.2.2.1)
theorem dX11_misfitOf_183 : decode cX11_misfitOf 183 = .ok (.aload_n 0, 1) := dk_42 (ck1_s (r := 55) dT_cX11_misfitOf_2 rfl dg_cX11_misfitOf_801.2.2.2.2.2.1)
theorem dX11_misfitOf_184 : decode cX11_misfitOf 184 = .ok (.getfield 323, 3) := dk_180 (ck3_s (r := 56) dT_cX11_misfitOf_2 rfl dg_cX11_misfitOf_801.2.2.2.2.2.2.1)
theorem dX11_misfitOf_187 : decode cX11_misfitOf 187 = .ok (.if_icmp .ge 150, 3) := dk_162 (ck3s_s (r := 59) dT_cX11_misfitOf_2 rfl dg_cX11_misfitOf_801.2.2.2.2.2.2.2)
theorem dg_cX11_misfitOf_802 : ck1L dS_cX11_misfitOf_2 62 42 = true ∧ ck3L dS_cX11_misfitOf_2 63 180 27 = true ∧ ck2L dS_cX11_misfitOf_3 2 21 4 = true ∧ ck1L dS_cX11_misfitOf_3 4 46 = true ∧ ck3sL dS_cX11_misfitOf_3 5 153 14 = true ∧ ck1L dS_cX11_misfitOf_3 8 42 = true ∧ ck3L dS_cX11_misfitOf_3 9 180 27 = true ∧ ck2L dS_cX11_misfitOf_3 12 21 4 = true := by decide +kernel
theorem dX11_misfitOf_190 : decode cX11_misfitOf 190 = .ok (.aload_n 0, 1) := dk_42 (ck1_s (r := 62) dT_cX11_misfitOf_2 rfl dg_cX11_misfitOf_802.1)
theorem dX11_misfitOf_191 : decode cX11_misfitOf 191 = .ok (.getfield 27, 3) := dk_180 (ck3_s (r := 63) dT_cX11_misfitOf_2 rfl dg_cX11_misfitOf_802.2.1)
theorem dX11_misfitOf_194 : decode cX11_misfitOf 194 = .ok (.iload 4, 2) := dk_21 (ck2_s (r := 2) dT_cX11_misfitOf_3 rfl dg_cX11_misfitOf_802.2.2.1)
theorem dX11_misfitOf_196 : decode cX11_misfitOf 196 = .ok (.iaload, 1) := dk_46 (ck1_s (r := 4) dT_cX11_misfitOf_3 rfl dg_cX11_misfitOf_802.2.2.2.1)
theorem dX11_misfitOf_197 : decode cX11_misfitOf 197 = .ok (.ifCond .eq 14, 3) := dk_153 (ck3s_s (r := 5) dT_cX11_misfitOf_3 rfl dg_cX11_misfitOf_802.2.2.2.2.1)
theorem dX11_misfitOf_200 : decode cX11_misfitOf 200 = .ok (.aload_n 0, 1) := dk_42 (ck1_s (r := 8) dT_cX11_misfitOf_3 rfl dg_cX11_misfitOf_802.2.2.2.2.2.1)
theorem dX11_misfitOf_201 : decode cX11_misfitOf 201 = .ok (.getfield 27, 3) := dk_180 (ck3_s (r := 9) dT_cX11_misfitOf_3 rfl dg_cX11_misfitOf_802.2.2.2.2.2.2.1)
theorem dX11_misfitOf_204 : decode cX11_misfitOf 204 = .ok (.iload 4, 2) := dk_21 (ck2_s (r := 12) dT_cX11_misfitOf_3 rfl dg_cX11_misfitOf_802.2.2.2.2.2.2.2)
theorem dg_cX11_misfitOf_803 : ck1L dS_cX11_misfitOf_3 14 46 = true ∧ ck1L dS_cX11_misfitOf_3 15 4 = true ∧ ck3sL dS_cX11_misfitOf_3 16 160 47 = true ∧ ck1L dS_cX11_misfitOf_3 19 42 = true ∧ ck3L dS_cX11_misfitOf_3 20 180 36 = true ∧ ck1L dS_cX11_misfitOf_3 23 29 = true ∧ ck1L dS_cX11_misfitOf_3 24 42 = true ∧ ck3L dS_cX11_misfitOf_3 25 180 27 = true := by decide +kernel
theorem dX11_misfitOf_206 : decode cX11_misfitOf 206 = .ok (.iaload, 1) := dk_46 (ck1_s (r := 14) dT_cX11_misfitOf_3 rfl dg_cX11_misfitOf_803.1)
theorem dX11_misfitOf_207 : decode cX11_misfitOf 207 = .ok (.iconst 1, 1) := dk_4 (ck1_s (r := 15) dT_cX11_misfitOf_3 rfl dg_cX11_misfitOf_803.2.1)
theorem dX11_misfitOf_208 : decode cX11_misfitOf 208 = .ok (.if_icmp .ne 47, 3) := dk_160 (ck3s_s (r := 16) dT_cX11_misfitOf_3 rfl dg_cX11_misfitOf_803.2.2.1)
theorem dX11_misfitOf_211 : decode cX11_misfitOf 211 = .ok (.aload_n 0, 1) := dk_42 (ck1_s (r := 19) dT_cX11_misfitOf_3 rfl dg_cX11_misfitOf_803.2.2.2.1)
theorem dX11_misfitOf_212 : decode cX11_misfitOf 212 = .ok (.getfield 36, 3) := dk_180 (ck3_s (r := 20) dT_cX11_misfitOf_3 rfl dg_cX11_misfitOf_803.2.2.2.2.1)
theorem dX11_misfitOf_215 : decode cX11_misfitOf 215 = .ok (.iload_n 3, 1) := dk_29 (ck1_s (r := 23) dT_cX11_misfitOf_3 rfl dg_cX11_misfitOf_803.2.2.2.2.2.1)
theorem dX11_misfitOf_216 : decode cX11_misfitOf 216 = .ok (.aload_n 0, 1) := dk_42 (ck1_s (r := 24) dT_cX11_misfitOf_3 rfl dg_cX11_misfitOf_803.2.2.2.2.2.2.1)
theorem dX11_misfitOf_217 : decode cX11_misfitOf 217 = .ok (.getfield 27, 3) := dk_180 (ck3_s (r := 25) dT_cX11_misfitOf_3 rfl dg_cX11_misfitOf_803.2.2.2.2.2.2.2)
theorem dg_cX11_misfitOf_804 : ck2L dS_cX11_misfitOf_3 28 21 4 = true ∧ ck1L dS_cX11_misfitOf_3 30 46 = true ∧ ck3sL dS_cX11_misfitOf_3 31 154 13 = true ∧ ck1L dS_cX11_misfitOf_3 34 42 = true ∧ ck3L dS_cX11_misfitOf_3 35 180 30 = true ∧ ck2L dS_cX11_misfitOf_3 38 21 4 = true ∧ ck1L dS_cX11_misfitOf_3 40 46 = true ∧ ck3sL dS_cX11_misfitOf_3 41 167 15 = true := by decide +kernel
theorem dX11_misfitOf_220 : decode cX11_misfitOf 220 = .ok (.iload 4, 2) := dk_21 (ck2_s (r := 28) dT_cX11_misfitOf_3 rfl dg_cX11_misfitOf_804.1)
theorem dX11_misfitOf_222 : decode cX11_misfitOf 222 = .ok (.iaload, 1) := dk_46 (ck1_s (r := 30) dT_cX11_misfitOf_3 rfl dg_cX11_misfitOf_804.2.1)
theorem dX11_misfitOf_223 : decode cX11_misfitOf 223 = .ok (.ifCond .ne 13, 3) := dk_154 (ck3s_s (r := 31) dT_cX11_misfitOf_3 rfl dg_cX11_misfitOf_804.2.2.1)
theorem dX11_misfitOf_226 : decode cX11_misfitOf 226 = .ok (.aload_n 0, 1) := dk_42 (ck1_s (r := 34) dT_cX11_misfitOf_3 rfl dg_cX11_misfitOf_804.2.2.2.1)
theorem dX11_misfitOf_227 : decode cX11_misfitOf 227 = .ok (.getfield 30, 3) := dk_180 (ck3_s (r := 35) dT_cX11_misfitOf_3 rfl dg_cX11_misfitOf_804.2.2.2.2.1)
theorem dX11_misfitOf_230 : decode cX11_misfitOf 230 = .ok (.iload 4, 2) := dk_21 (ck2_s (r := 38) dT_cX11_misfitOf_3 rfl dg_cX11_misfitOf_804.2.2.2.2.2.1)
theorem dX11_misfitOf_232 : decode cX11_misfitOf 232 = .ok (.iaload, 1) := dk_46 (ck1_s (r := 40) dT_cX11_misfitOf_3 rfl dg_cX11_misfitOf_804.2.2.2.2.2.2.1)
theorem dX11_misfitOf_233 : decode cX11_misfitOf 233 = .ok (.goto 15, 3) := dk_167 (ck3s_s (r := 41) dT_cX11_misfitOf_3 rfl dg_cX11_misfitOf_804.2.2.2.2.2.2.2)
theorem dg_cX11_misfitOf_805 : ck1L dS_cX11_misfitOf_3 44 42 = true ∧ ck3L dS_cX11_misfitOf_3 45 180 39 = true ∧ ck1L dS_cX11_misfitOf_3 48 42 = true ∧ ck3L dS_cX11_misfitOf_3 49 180 30 = true ∧ ck2L dS_cX11_misfitOf_3 52 21 4 = true ∧ ck1L dS_cX11_misfitOf_3 54 46 = true ∧ ck1L dS_cX11_misfitOf_3 55 46 = true ∧ ck1L dS_cX11_misfitOf_3 56 79 = true := by decide +kernel
theorem dX11_misfitOf_236 : decode cX11_misfitOf 236 = .ok (.aload_n 0, 1) := dk_42 (ck1_s (r := 44) dT_cX11_misfitOf_3 rfl dg_cX11_misfitOf_805.1)
theorem dX11_misfitOf_237 : decode cX11_misfitOf 237 = .ok (.getfield 39, 3) := dk_180 (ck3_s (r := 45) dT_cX11_misfitOf_3 rfl dg_cX11_misfitOf_805.2.1)
theorem dX11_misfitOf_240 : decode cX11_misfitOf 240 = .ok (.aload_n 0, 1) := dk_42 (ck1_s (r := 48) dT_cX11_misfitOf_3 rfl dg_cX11_misfitOf_805.2.2.1)
theorem dX11_misfitOf_241 : decode cX11_misfitOf 241 = .ok (.getfield 30, 3) := dk_180 (ck3_s (r := 49) dT_cX11_misfitOf_3 rfl dg_cX11_misfitOf_805.2.2.2.1)
theorem dX11_misfitOf_244 : decode cX11_misfitOf 244 = .ok (.iload 4, 2) := dk_21 (ck2_s (r := 52) dT_cX11_misfitOf_3 rfl dg_cX11_misfitOf_805.2.2.2.2.1)
theorem dX11_misfitOf_246 : decode cX11_misfitOf 246 = .ok (.iaload, 1) := dk_46 (ck1_s (r := 54) dT_cX11_misfitOf_3 rfl dg_cX11_misfitOf_805.2.2.2.2.2.1)
theorem dX11_misfitOf_247 : decode cX11_misfitOf 247 = .ok (.iaload, 1) := dk_46 (ck1_s (r := 55) dT_cX11_misfitOf_3 rfl dg_cX11_misfitOf_805.2.2.2.2.2.2.1)
theorem dX11_misfitOf_248 : decode cX11_misfitOf 248 = .ok (.iastore, 1) := dk_79 (ck1_s (r := 56) dT_cX11_misfitOf_3 rfl dg_cX11_misfitOf_805.2.2.2.2.2.2.2)
theorem dg_cX11_misfitOf_806 : ck3iL dS_cX11_misfitOf_3 57 132 3 1 = true ∧ ck3sL dS_cX11_misfitOf_3 60 167 79 = true ∧ ck1L dS_cX11_misfitOf_3 63 42 = true ∧ ck3L dS_cX11_misfitOf_4 0 180 27 = true ∧ ck2L dS_cX11_misfitOf_4 3 21 4 = true ∧ ck1L dS_cX11_misfitOf_4 5 46 = true ∧ ck1L dS_cX11_misfitOf_4 6 5 = true ∧ ck3sL dS_cX11_misfitOf_4 7 160 33 = true := by decide +kernel
theorem dX11_misfitOf_249 : decode cX11_misfitOf 249 = .ok (.iinc 3 1, 3) := dk_132 (ck3i_s (r := 57) dT_cX11_misfitOf_3 rfl dg_cX11_misfitOf_806.1)
theorem dX11_misfitOf_252 : decode cX11_misfitOf 252 = .ok (.goto 79, 3) := dk_167 (ck3s_s (r := 60) dT_cX11_misfitOf_3 rfl dg_cX11_misfitOf_806.2.1)
theorem dX11_misfitOf_255 : decode cX11_misfitOf 255 = .ok (.aload_n 0, 1) := dk_42 (ck1_s (r := 63) dT_cX11_misfitOf_3 rfl dg_cX11_misfitOf_806.2.2.1)
theorem dX11_misfitOf_256 : decode cX11_misfitOf 256 = .ok (.getfield 27, 3) := dk_180 (ck3_s (r := 0) dT_cX11_misfitOf_4 rfl dg_cX11_misfitOf_806.2.2.2.1)
theorem dX11_misfitOf_259 : decode cX11_misfitOf 259 = .ok (.iload 4, 2) := dk_21 (ck2_s (r := 3) dT_cX11_misfitOf_4 rfl dg_cX11_misfitOf_806.2.2.2.2.1)
theorem dX11_misfitOf_261 : decode cX11_misfitOf 261 = .ok (.iaload, 1) := dk_46 (ck1_s (r := 5) dT_cX11_misfitOf_4 rfl dg_cX11_misfitOf_806.2.2.2.2.2.1)
theorem dX11_misfitOf_262 : decode cX11_misfitOf 262 = .ok (.iconst 2, 1) := dk_5 (ck1_s (r := 6) dT_cX11_misfitOf_4 rfl dg_cX11_misfitOf_806.2.2.2.2.2.2.1)
theorem dX11_misfitOf_263 : decode cX11_misfitOf 263 = .ok (.if_icmp .ne 33, 3) := dk_160 (ck3s_s (r := 7) dT_cX11_misfitOf_4 rfl dg_cX11_misfitOf_806.2.2.2.2.2.2.2)
theorem dg_cX11_misfitOf_807 : ck1L dS_cX11_misfitOf_4 10 42 = true ∧ ck3L dS_cX11_misfitOf_4 11 180 36 = true ∧ ck1L dS_cX11_misfitOf_4 14 29 = true ∧ ck1L dS_cX11_misfitOf_4 15 4 = true ∧ ck1L dS_cX11_misfitOf_4 16 100 = true ∧ ck1L dS_cX11_misfitOf_4 17 42 = true ∧ ck3L dS_cX11_misfitOf_4 18 180 36 = true ∧ ck1L dS_cX11_misfitOf_4 21 29 = true := by decide +kernel
theorem dX11_misfitOf_266 : decode cX11_misfitOf 266 = .ok (.aload_n 0, 1) := dk_42 (ck1_s (r := 10) dT_cX11_misfitOf_4 rfl dg_cX11_misfitOf_807.1)
theorem dX11_misfitOf_267 : decode cX11_misfitOf 267 = .ok (.getfield 36, 3) := dk_180 (ck3_s (r := 11) dT_cX11_misfitOf_4 rfl dg_cX11_misfitOf_807.2.1)
theorem dX11_misfitOf_270 : decode cX11_misfitOf 270 = .ok (.iload_n 3, 1) := dk_29 (ck1_s (r := 14) dT_cX11_misfitOf_4 rfl dg_cX11_misfitOf_807.2.2.1)
theorem dX11_misfitOf_271 : decode cX11_misfitOf 271 = .ok (.iconst 1, 1) := dk_4 (ck1_s (r := 15) dT_cX11_misfitOf_4 rfl dg_cX11_misfitOf_807.2.2.2.1)
theorem dX11_misfitOf_272 : decode cX11_misfitOf 272 = .ok (.isub, 1) := dk_100 (ck1_s (r := 16) dT_cX11_misfitOf_4 rfl dg_cX11_misfitOf_807.2.2.2.2.1)
theorem dX11_misfitOf_273 : decode cX11_misfitOf 273 = .ok (.aload_n 0, 1) := dk_42 (ck1_s (r := 17) dT_cX11_misfitOf_4 rfl dg_cX11_misfitOf_807.2.2.2.2.2.1)
theorem dX11_misfitOf_274 : decode cX11_misfitOf 274 = .ok (.getfield 36, 3) := dk_180 (ck3_s (r := 18) dT_cX11_misfitOf_4 rfl dg_cX11_misfitOf_807.2.2.2.2.2.2.1)
theorem dX11_misfitOf_277 : decode cX11_misfitOf 277 = .ok (.iload_n 3, 1) := dk_29 (ck1_s (r := 21) dT_cX11_misfitOf_4 rfl dg_cX11_misfitOf_807.2.2.2.2.2.2.2)
theorem dg_cX11_misfitOf_808 : ck1L dS_cX11_misfitOf_4 22 4 = true ∧ ck1L dS_cX11_misfitOf_4 23 100 = true ∧ ck1L dS_cX11_misfitOf_4 24 46 = true ∧ ck3sL dS_cX11_misfitOf_4 25 154 7 = true ∧ ck1L dS_cX11_misfitOf_4 28 4 = true ∧ ck3sL dS_cX11_misfitOf_4 29 167 4 = true ∧ ck1L dS_cX11_misfitOf_4 32 3 = true ∧ ck3L dS_cX11_misfitOf_4 33 184 310 = true := by decide +kernel
theorem dX11_misfitOf_278 : decode cX11_misfitOf 278 = .ok (.iconst 1, 1) := dk_4 (ck1_s (r := 22) dT_cX11_misfitOf_4 rfl dg_cX11_misfitOf_808.1)
theorem dX11_misfitOf_279 : decode cX11_misfitOf 279 = .ok (.isub, 1) := dk_100 (ck1_s (r := 23) dT_cX11_misfitOf_4 rfl dg_cX11_misfitOf_808.2.1)
theorem dX11_misfitOf_280 : decode cX11_misfitOf 280 = .ok (.iaload, 1) := dk_46 (ck1_s (r := 24) dT_cX11_misfitOf_4 rfl dg_cX11_misfitOf_808.2.2.1)
theorem dX11_misfitOf_281 : decode cX11_misfitOf 281 = .ok (.ifCond .ne 7, 3) := dk_154 (ck3s_s (r := 25) dT_cX11_misfitOf_4 rfl dg_cX11_misfitOf_808.2.2.2.1)
theorem dX11_misfitOf_284 : decode cX11_misfitOf 284 = .ok (.iconst 1, 1) := dk_4 (ck1_s (r := 28) dT_cX11_misfitOf_4 rfl dg_cX11_misfitOf_808.2.2.2.2.1)
theorem dX11_misfitOf_285 : decode cX11_misfitOf 285 = .ok (.goto 4, 3) := dk_167 (ck3s_s (r := 29) dT_cX11_misfitOf_4 rfl dg_cX11_misfitOf_808.2.2.2.2.2.1)
theorem dX11_misfitOf_288 : decode cX11_misfitOf 288 = .ok (.iconst 0, 1) := dk_3 (ck1_s (r := 32) dT_cX11_misfitOf_4 rfl dg_cX11_misfitOf_808.2.2.2.2.2.2.1)
theorem dX11_misfitOf_289 : decode cX11_misfitOf 289 = .ok (.invokestatic 310, 3) := dk_184 (ck3_s (r := 33) dT_cX11_misfitOf_4 rfl dg_cX11_misfitOf_808.2.2.2.2.2.2.2)
theorem dg_cX11_misfitOf_809 : ck1L dS_cX11_misfitOf_4 36 79 = true ∧ ck3sL dS_cX11_misfitOf_4 37 167 38 = true ∧ ck3iL dS_cX11_misfitOf_4 40 132 3 (-1) = true ∧ ck1L dS_cX11_misfitOf_4 43 42 = true ∧ ck3L dS_cX11_misfitOf_4 44 180 36 = true ∧ ck1L dS_cX11_misfitOf_4 47 29 = true ∧ ck1L dS_cX11_misfitOf_4 48 4 = true ∧ ck1L dS_cX11_misfitOf_4 49 100 = true := by decide +kernel
theorem dX11_misfitOf_292 : decode cX11_misfitOf 292 = .ok (.iastore, 1) := dk_79 (ck1_s (r := 36) dT_cX11_misfitOf_4 rfl dg_cX11_misfitOf_809.1)
theorem dX11_misfitOf_293 : decode cX11_misfitOf 293 = .ok (.goto 38, 3) := dk_167 (ck3s_s (r := 37) dT_cX11_misfitOf_4 rfl dg_cX11_misfitOf_809.2.1)
theorem dX11_misfitOf_296 : decode cX11_misfitOf 296 = .ok (.iinc 3 (-1), 3) := dk_132 (ck3i_s (r := 40) dT_cX11_misfitOf_4 rfl dg_cX11_misfitOf_809.2.2.1)
theorem dX11_misfitOf_299 : decode cX11_misfitOf 299 = .ok (.aload_n 0, 1) := dk_42 (ck1_s (r := 43) dT_cX11_misfitOf_4 rfl dg_cX11_misfitOf_809.2.2.2.1)
theorem dX11_misfitOf_300 : decode cX11_misfitOf 300 = .ok (.getfield 36, 3) := dk_180 (ck3_s (r := 44) dT_cX11_misfitOf_4 rfl dg_cX11_misfitOf_809.2.2.2.2.1)
theorem dX11_misfitOf_303 : decode cX11_misfitOf 303 = .ok (.iload_n 3, 1) := dk_29 (ck1_s (r := 47) dT_cX11_misfitOf_4 rfl dg_cX11_misfitOf_809.2.2.2.2.2.1)
theorem dX11_misfitOf_304 : decode cX11_misfitOf 304 = .ok (.iconst 1, 1) := dk_4 (ck1_s (r := 48) dT_cX11_misfitOf_4 rfl dg_cX11_misfitOf_809.2.2.2.2.2.2.1)
theorem dX11_misfitOf_305 : decode cX11_misfitOf 305 = .ok (.isub, 1) := dk_100 (ck1_s (r := 49) dT_cX11_misfitOf_4 rfl dg_cX11_misfitOf_809.2.2.2.2.2.2.2)
theorem dg_cX11_misfitOf_810 : ck1L dS_cX11_misfitOf_4 50 42 = true ∧ ck3L dS_cX11_misfitOf_4 51 180 30 = true ∧ ck2L dS_cX11_misfitOf_4 54 21 4 = true ∧ ck1L dS_cX11_misfitOf_4 56 46 = true ∧ ck1L dS_cX11_misfitOf_4 57 42 = true ∧ ck3L dS_cX11_misfitOf_4 58 180 36 = true ∧ ck1L dS_cX11_misfitOf_4 61 29 = true ∧ ck1L dS_cX11_misfitOf_4 62 4 = true := by decide +kernel
theorem dX11_misfitOf_306 : decode cX11_misfitOf 306 = .ok (.aload_n 0, 1) := dk_42 (ck1_s (r := 50) dT_cX11_misfitOf_4 rfl dg_cX11_misfitOf_810.1)
theorem dX11_misfitOf_307 : decode cX11_misfitOf 307 = .ok (.getfield 30, 3) := dk_180 (ck3_s (r := 51) dT_cX11_misfitOf_4 rfl dg_cX11_misfitOf_810.2.1)
theorem dX11_misfitOf_310 : decode cX11_misfitOf 310 = .ok (.iload 4, 2) := dk_21 (ck2_s (r := 54) dT_cX11_misfitOf_4 rfl dg_cX11_misfitOf_810.2.2.1)
theorem dX11_misfitOf_312 : decode cX11_misfitOf 312 = .ok (.iaload, 1) := dk_46 (ck1_s (r := 56) dT_cX11_misfitOf_4 rfl dg_cX11_misfitOf_810.2.2.2.1)
theorem dX11_misfitOf_313 : decode cX11_misfitOf 313 = .ok (.aload_n 0, 1) := dk_42 (ck1_s (r := 57) dT_cX11_misfitOf_4 rfl dg_cX11_misfitOf_810.2.2.2.2.1)
theorem dX11_misfitOf_314 : decode cX11_misfitOf 314 = .ok (.getfield 36, 3) := dk_180 (ck3_s (r := 58) dT_cX11_misfitOf_4 rfl dg_cX11_misfitOf_810.2.2.2.2.2.1)
theorem dX11_misfitOf_317 : decode cX11_misfitOf 317 = .ok (.iload_n 3, 1) := dk_29 (ck1_s (r := 61) dT_cX11_misfitOf_4 rfl dg_cX11_misfitOf_810.2.2.2.2.2.2.1)
theorem dX11_misfitOf_318 : decode cX11_misfitOf 318 = .ok (.iconst 1, 1) := dk_4 (ck1_s (r := 62) dT_cX11_misfitOf_4 rfl dg_cX11_misfitOf_810.2.2.2.2.2.2.2)
theorem dg_cX11_misfitOf_811 : ck1L dS_cX11_misfitOf_4 63 100 = true ∧ ck1L dS_cX11_misfitOf_5 0 46 = true ∧ ck1L dS_cX11_misfitOf_5 1 42 = true ∧ ck3L dS_cX11_misfitOf_5 2 180 36 = true ∧ ck1L dS_cX11_misfitOf_5 5 29 = true ∧ ck1L dS_cX11_misfitOf_5 6 46 = true ∧ ck3L dS_cX11_misfitOf_5 7 184 326 = true ∧ ck1L dS_cX11_misfitOf_5 10 79 = true := by decide +kernel
theorem dX11_misfitOf_319 : decode cX11_misfitOf 319 = .ok (.isub, 1) := dk_100 (ck1_s (r := 63) dT_cX11_misfitOf_4 rfl dg_cX11_misfitOf_811.1)
theorem dX11_misfitOf_320 : decode cX11_misfitOf 320 = .ok (.iaload, 1) := dk_46 (ck1_s (r := 0) dT_cX11_misfitOf_5 rfl dg_cX11_misfitOf_811.2.1)
theorem dX11_misfitOf_321 : decode cX11_misfitOf 321 = .ok (.aload_n 0, 1) := dk_42 (ck1_s (r := 1) dT_cX11_misfitOf_5 rfl dg_cX11_misfitOf_811.2.2.1)
theorem dX11_misfitOf_322 : decode cX11_misfitOf 322 = .ok (.getfield 36, 3) := dk_180 (ck3_s (r := 2) dT_cX11_misfitOf_5 rfl dg_cX11_misfitOf_811.2.2.2.1)
theorem dX11_misfitOf_325 : decode cX11_misfitOf 325 = .ok (.iload_n 3, 1) := dk_29 (ck1_s (r := 5) dT_cX11_misfitOf_5 rfl dg_cX11_misfitOf_811.2.2.2.2.1)
theorem dX11_misfitOf_326 : decode cX11_misfitOf 326 = .ok (.iaload, 1) := dk_46 (ck1_s (r := 6) dT_cX11_misfitOf_5 rfl dg_cX11_misfitOf_811.2.2.2.2.2.1)
theorem dX11_misfitOf_327 : decode cX11_misfitOf 327 = .ok (.invokestatic 326, 3) := dk_184 (ck3_s (r := 7) dT_cX11_misfitOf_5 rfl dg_cX11_misfitOf_811.2.2.2.2.2.2.1)
theorem dX11_misfitOf_330 : decode cX11_misfitOf 330 = .ok (.iastore, 1) := dk_79 (ck1_s (r := 10) dT_cX11_misfitOf_5 rfl dg_cX11_misfitOf_811.2.2.2.2.2.2.2)
theorem dg_cX11_misfitOf_812 : ck3iL dS_cX11_misfitOf_5 11 132 4 1 = true ∧ ck3sL dS_cX11_misfitOf_5 14 167 (-153) = true ∧ ck1L dS_cX11_misfitOf_5 17 42 = true ∧ ck3L dS_cX11_misfitOf_5 18 180 36 = true ∧ ck1L dS_cX11_misfitOf_5 21 3 = true ∧ ck1L dS_cX11_misfitOf_5 22 46 = true ∧ ck3sL dS_cX11_misfitOf_5 23 17 999 = true ∧ ck3L dS_cX11_misfitOf_5 26 184 320 = true := by decide +kernel
theorem dX11_misfitOf_331 : decode cX11_misfitOf 331 = .ok (.iinc 4 1, 3) := dk_132 (ck3i_s (r := 11) dT_cX11_misfitOf_5 rfl dg_cX11_misfitOf_812.1)
theorem dX11_misfitOf_334 : decode cX11_misfitOf 334 = .ok (.goto (-153), 3) := dk_167 (ck3s_s (r := 14) dT_cX11_misfitOf_5 rfl dg_cX11_misfitOf_812.2.1)
theorem dX11_misfitOf_337 : decode cX11_misfitOf 337 = .ok (.aload_n 0, 1) := dk_42 (ck1_s (r := 17) dT_cX11_misfitOf_5 rfl dg_cX11_misfitOf_812.2.2.1)
theorem dX11_misfitOf_338 : decode cX11_misfitOf 338 = .ok (.getfield 36, 3) := dk_180 (ck3_s (r := 18) dT_cX11_misfitOf_5 rfl dg_cX11_misfitOf_812.2.2.2.1)
theorem dX11_misfitOf_341 : decode cX11_misfitOf 341 = .ok (.iconst 0, 1) := dk_3 (ck1_s (r := 21) dT_cX11_misfitOf_5 rfl dg_cX11_misfitOf_812.2.2.2.2.1)
theorem dX11_misfitOf_342 : decode cX11_misfitOf 342 = .ok (.iaload, 1) := dk_46 (ck1_s (r := 22) dT_cX11_misfitOf_5 rfl dg_cX11_misfitOf_812.2.2.2.2.2.1)
theorem dX11_misfitOf_343 : decode cX11_misfitOf 343 = .ok (.sipush 999, 3) := dk_17 (ck3s_s (r := 23) dT_cX11_misfitOf_5 rfl dg_cX11_misfitOf_812.2.2.2.2.2.2.1)
theorem dX11_misfitOf_346 : decode cX11_misfitOf 346 = .ok (.invokestatic 320, 3) := dk_184 (ck3_s (r := 26) dT_cX11_misfitOf_5 rfl dg_cX11_misfitOf_812.2.2.2.2.2.2.2)
theorem dg_cX11_misfitOf_813 : ck1L dS_cX11_misfitOf_5 29 172 = true := by decide +kernel
theorem dX11_misfitOf_349 : decode cX11_misfitOf 349 = .ok (.ireturn, 1) := dk_172 (ck1_s (r := 29) dT_cX11_misfitOf_5 rfl dg_cX11_misfitOf_813)
theorem dg_cX11_naked_814 : ck1 cX11_naked 0 42 = true ∧ ck3 cX11_naked 1 182 449 = true ∧ ck1 cX11_naked 4 3 = true ∧ ck1 cX11_naked 5 60 = true ∧ ck1 cX11_naked 6 3 = true ∧ ck1 cX11_naked 7 61 = true ∧ ck1 cX11_naked 8 28 = true ∧ ck1 cX11_naked 9 42 = true := by decide +kernel
theorem dX11_naked_0 : decode cX11_naked 0 = .ok (.aload_n 0, 1) := dk_42 dg_cX11_naked_814.1
theorem dX11_naked_1 : decode cX11_naked 1 = .ok (.invokevirtual 449, 3) := dk_182 dg_cX11_naked_814.2.1
theorem dX11_naked_4 : decode cX11_naked 4 = .ok (.iconst 0, 1) := dk_3 dg_cX11_naked_814.2.2.1
theorem dX11_naked_5 : decode cX11_naked 5 = .ok (.istore_n 1, 1) := dk_60 dg_cX11_naked_814.2.2.2.1
theorem dX11_naked_6 : decode cX11_naked 6 = .ok (.iconst 0, 1) := dk_3 dg_cX11_naked_814.2.2.2.2.1
theorem dX11_naked_7 : decode cX11_naked 7 = .ok (.istore_n 2, 1) := dk_61 dg_cX11_naked_814.2.2.2.2.2.1
theorem dX11_naked_8 : decode cX11_naked 8 = .ok (.iload_n 2, 1) := dk_28 dg_cX11_naked_814.2.2.2.2.2.2.1
theorem dX11_naked_9 : decode cX11_naked 9 = .ok (.aload_n 0, 1) := dk_42 dg_cX11_naked_814.2.2.2.2.2.2.2
theorem dg_cX11_naked_815 : ck3 cX11_naked 10 180 387 = true ∧ ck3s cX11_naked 13 162 30 = true ∧ ck1 cX11_naked 16 27 = true ∧ ck1 cX11_naked 17 42 = true ∧ ck1 cX11_naked 18 28 = true ∧ ck3 cX11_naked 19 182 452 = true ∧ ck3s cX11_naked 22 154 7 = true ∧ ck1 cX11_naked 25 4 = true := by decide +kernel
theorem dX11_naked_10 : decode cX11_naked 10 = .ok (.getfield 387, 3) := dk_180 dg_cX11_naked_815.1
theorem dX11_naked_13 : decode cX11_naked 13 = .ok (.if_icmp .ge 30, 3) := dk_162 dg_cX11_naked_815.2.1
theorem dX11_naked_16 : decode cX11_naked 16 = .ok (.iload_n 1, 1) := dk_27 dg_cX11_naked_815.2.2.1
theorem dX11_naked_17 : decode cX11_naked 17 = .ok (.aload_n 0, 1) := dk_42 dg_cX11_naked_815.2.2.2.1
theorem dX11_naked_18 : decode cX11_naked 18 = .ok (.iload_n 2, 1) := dk_28 dg_cX11_naked_815.2.2.2.2.1
theorem dX11_naked_19 : decode cX11_naked 19 = .ok (.invokevirtual 452, 3) := dk_182 dg_cX11_naked_815.2.2.2.2.2.1
theorem dX11_naked_22 : decode cX11_naked 22 = .ok (.ifCond .ne 7, 3) := dk_154 dg_cX11_naked_815.2.2.2.2.2.2.1
theorem dX11_naked_25 : decode cX11_naked 25 = .ok (.iconst 1, 1) := dk_4 dg_cX11_naked_815.2.2.2.2.2.2.2
theorem dg_cX11_naked_816 : ck3s cX11_naked 26 167 4 = true ∧ ck1 cX11_naked 29 3 = true ∧ ck3 cX11_naked 30 184 310 = true ∧ ck1 cX11_naked 33 28 = true ∧ ck1 cX11_naked 34 120 = true ∧ ck1 cX11_naked 35 128 = true ∧ ck1 cX11_naked 36 60 = true ∧ ck3i cX11_naked 37 132 2 1 = true := by decide +kernel
theorem dX11_naked_26 : decode cX11_naked 26 = .ok (.goto 4, 3) := dk_167 dg_cX11_naked_816.1
theorem dX11_naked_29 : decode cX11_naked 29 = .ok (.iconst 0, 1) := dk_3 dg_cX11_naked_816.2.1
theorem dX11_naked_30 : decode cX11_naked 30 = .ok (.invokestatic 310, 3) := dk_184 dg_cX11_naked_816.2.2.1
theorem dX11_naked_33 : decode cX11_naked 33 = .ok (.iload_n 2, 1) := dk_28 dg_cX11_naked_816.2.2.2.1
theorem dX11_naked_34 : decode cX11_naked 34 = .ok (.ishl, 1) := dk_120 dg_cX11_naked_816.2.2.2.2.1
theorem dX11_naked_35 : decode cX11_naked 35 = .ok (.ior, 1) := dk_128 dg_cX11_naked_816.2.2.2.2.2.1
theorem dX11_naked_36 : decode cX11_naked 36 = .ok (.istore_n 1, 1) := dk_60 dg_cX11_naked_816.2.2.2.2.2.2.1
theorem dX11_naked_37 : decode cX11_naked 37 = .ok (.iinc 2 1, 3) := dk_132 dg_cX11_naked_816.2.2.2.2.2.2.2
theorem dg_cX11_naked_817 : ck3s cX11_naked 40 167 (-32) = true ∧ ck1 cX11_naked 43 27 = true ∧ ck1 cX11_naked 44 172 = true := by decide +kernel
theorem dX11_naked_40 : decode cX11_naked 40 = .ok (.goto (-32), 3) := dk_167 dg_cX11_naked_817.1
theorem dX11_naked_43 : decode cX11_naked 43 = .ok (.iload_n 1, 1) := dk_27 dg_cX11_naked_817.2.1
theorem dX11_naked_44 : decode cX11_naked 44 = .ok (.ireturn, 1) := dk_172 dg_cX11_naked_817.2.2
theorem dg_cX11_newName_818 : ck1 cX11_newName 0 42 = true ∧ ck3 cX11_newName 1 182 235 = true ∧ ck1 cX11_newName 4 42 = true ∧ ck3 cX11_newName 5 182 250 = true ∧ ck3s cX11_newName 8 154 8 = true ∧ ck1 cX11_newName 11 42 = true ∧ ck1 cX11_newName 12 5 = true ∧ ck3 cX11_newName 13 182 232 = true := by decide +kernel
theorem dX11_newName_0 : decode cX11_newName 0 = .ok (.aload_n 0, 1) := dk_42 dg_cX11_newName_818.1
theorem dX11_newName_1 : decode cX11_newName 1 = .ok (.invokevirtual 235, 3) := dk_182 dg_cX11_newName_818.2.1
theorem dX11_newName_4 : decode cX11_newName 4 = .ok (.aload_n 0, 1) := dk_42 dg_cX11_newName_818.2.2.1
theorem dX11_newName_5 : decode cX11_newName 5 = .ok (.invokevirtual 250, 3) := dk_182 dg_cX11_newName_818.2.2.2.1
theorem dX11_newName_8 : decode cX11_newName 8 = .ok (.ifCond .ne 8, 3) := dk_154 dg_cX11_newName_818.2.2.2.2.1
theorem dX11_newName_11 : decode cX11_newName 11 = .ok (.aload_n 0, 1) := dk_42 dg_cX11_newName_818.2.2.2.2.2.1
theorem dX11_newName_12 : decode cX11_newName 12 = .ok (.iconst 2, 1) := dk_5 dg_cX11_newName_818.2.2.2.2.2.2.1
theorem dX11_newName_13 : decode cX11_newName 13 = .ok (.invokevirtual 232, 3) := dk_182 dg_cX11_newName_818.2.2.2.2.2.2.2
theorem dg_cX11_newName_819 : ck1 cX11_newName 16 3 = true ∧ ck1 cX11_newName 17 62 = true ∧ ck1 cX11_newName 18 29 = true ∧ ck1 cX11_newName 19 28 = true ∧ ck3s cX11_newName 20 162 37 = true ∧ ck1 cX11_newName 23 42 = true ∧ ck3 cX11_newName 24 180 179 = true ∧ ck3s cX11_newName 27 154 30 = true := by decide +kernel
theorem dX11_newName_16 : decode cX11_newName 16 = .ok (.iconst 0, 1) := dk_3 dg_cX11_newName_819.1
theorem dX11_newName_17 : decode cX11_newName 17 = .ok (.istore_n 3, 1) := dk_62 dg_cX11_newName_819.2.1
theorem dX11_newName_18 : decode cX11_newName 18 = .ok (.iload_n 3, 1) := dk_29 dg_cX11_newName_819.2.2.1
theorem dX11_newName_19 : decode cX11_newName 19 = .ok (.iload_n 2, 1) := dk_28 dg_cX11_newName_819.2.2.2.1
theorem dX11_newName_20 : decode cX11_newName 20 = .ok (.if_icmp .ge 37, 3) := dk_162 dg_cX11_newName_819.2.2.2.2.1
theorem dX11_newName_23 : decode cX11_newName 23 = .ok (.aload_n 0, 1) := dk_42 dg_cX11_newName_819.2.2.2.2.2.1
theorem dX11_newName_24 : decode cX11_newName 24 = .ok (.getfield 179, 3) := dk_180 dg_cX11_newName_819.2.2.2.2.2.2.1
theorem dX11_newName_27 : decode cX11_newName 27 = .ok (.ifCond .ne 30, 3) := dk_154 dg_cX11_newName_819.2.2.2.2.2.2.2
theorem dg_cX11_newName_820 : ck1 cX11_newName 30 42 = true ∧ ck3 cX11_newName 31 180 17 = true ∧ ck1 cX11_newName 34 27 = true ∧ ck1 cX11_newName 35 29 = true ∧ ck1 cX11_newName 36 96 = true ∧ ck1 cX11_newName 37 47 = true ∧ ck1 cX11_newName 38 42 = true ∧ ck3 cX11_newName 39 180 159 = true := by decide +kernel
theorem dX11_newName_30 : decode cX11_newName 30 = .ok (.aload_n 0, 1) := dk_42 dg_cX11_newName_820.1
theorem dX11_newName_31 : decode cX11_newName 31 = .ok (.getfield 17, 3) := dk_180 dg_cX11_newName_820.2.1
theorem dX11_newName_34 : decode cX11_newName 34 = .ok (.iload_n 1, 1) := dk_27 dg_cX11_newName_820.2.2.1
theorem dX11_newName_35 : decode cX11_newName 35 = .ok (.iload_n 3, 1) := dk_29 dg_cX11_newName_820.2.2.2.1
theorem dX11_newName_36 : decode cX11_newName 36 = .ok (.iadd, 1) := dk_96 dg_cX11_newName_820.2.2.2.2.1
theorem dX11_newName_37 : decode cX11_newName 37 = .ok (.laload, 1) := dk_47 dg_cX11_newName_820.2.2.2.2.2.1
theorem dX11_newName_38 : decode cX11_newName 38 = .ok (.aload_n 0, 1) := dk_42 dg_cX11_newName_820.2.2.2.2.2.2.1
theorem dX11_newName_39 : decode cX11_newName 39 = .ok (.getfield 159, 3) := dk_180 dg_cX11_newName_820.2.2.2.2.2.2.2
theorem dg_cX11_newName_821 : ck1 cX11_newName 42 148 = true ∧ ck3s cX11_newName 43 154 8 = true ∧ ck1 cX11_newName 46 42 = true ∧ ck1 cX11_newName 47 6 = true ∧ ck3 cX11_newName 48 182 232 = true ∧ ck3i cX11_newName 51 132 3 1 = true ∧ ck3s cX11_newName 54 167 (-36) = true ∧ ck1 cX11_newName 57 42 = true := by decide +kernel
theorem dX11_newName_42 : decode cX11_newName 42 = .ok (.lcmp, 1) := dk_148 dg_cX11_newName_821.1
theorem dX11_newName_43 : decode cX11_newName 43 = .ok (.ifCond .ne 8, 3) := dk_154 dg_cX11_newName_821.2.1
theorem dX11_newName_46 : decode cX11_newName 46 = .ok (.aload_n 0, 1) := dk_42 dg_cX11_newName_821.2.2.1
theorem dX11_newName_47 : decode cX11_newName 47 = .ok (.iconst 3, 1) := dk_6 dg_cX11_newName_821.2.2.2.1
theorem dX11_newName_48 : decode cX11_newName 48 = .ok (.invokevirtual 232, 3) := dk_182 dg_cX11_newName_821.2.2.2.2.1
theorem dX11_newName_51 : decode cX11_newName 51 = .ok (.iinc 3 1, 3) := dk_132 dg_cX11_newName_821.2.2.2.2.2.1
theorem dX11_newName_54 : decode cX11_newName 54 = .ok (.goto (-36), 3) := dk_167 dg_cX11_newName_821.2.2.2.2.2.2.1
theorem dX11_newName_57 : decode cX11_newName 57 = .ok (.aload_n 0, 1) := dk_42 dg_cX11_newName_821.2.2.2.2.2.2.2
theorem dg_cX11_newName_822 : ck3 cX11_newName 58 180 179 = true ∧ ck3s cX11_newName 61 158 4 = true := by decide +kernel
theorem dX11_newName_58 : decode cX11_newName 58 = .ok (.getfield 179, 3) := dk_180 dg_cX11_newName_822.1
theorem dX11_newName_61 : decode cX11_newName 61 = .ok (.ifCond .le 4, 3) := dk_158 dg_cX11_newName_822.2
def dS_cX11_newName_1 : List UInt8 := 177 :: 42 :: 180 :: 0 :: 17 :: 27 :: 28 :: 96 :: 42 :: 180 :: 0 :: 159 :: 80 :: 42 :: 182 :: 0 :: 235 :: 177 :: []
def dS_cX11_newName_0 : List UInt8 := 42 :: 182 :: 0 :: 235 :: 42 :: 182 :: 0 :: 250 :: 154 :: 0 :: 8 :: 42 :: 5 :: 182 :: 0 :: 232 :: 3 :: 62 :: 29 :: 28 :: 162 :: 0 :: 37 :: 42 :: 180 :: 0 :: 179 :: 154 :: 0 :: 30 :: 42 :: 180 :: 0 :: 17 :: 27 :: 29 :: 96 :: 47 :: 42 :: 180 :: 0 :: 159 :: 148 :: 154 :: 0 :: 8 :: 42 :: 6 :: 182 :: 0 :: 232 :: 132 :: 3 :: 1 :: 167 :: 255 :: 220 :: 42 :: 180 :: 0 :: 179 :: 158 :: 0 :: 4 :: dS_cX11_newName_1
theorem dT_cX11_newName_0 : cX11_newName.data.toList.drop 0 = dS_cX11_newName_0 := by decide +kernel
theorem dT_cX11_newName_1 : cX11_newName.data.toList.drop 64 = dS_cX11_newName_1 := ck_nx dT_cX11_newName_0 (by decide +kernel) rfl
theorem dg_cX11_newName_823 : ck1L dS_cX11_newName_1 0 177 = true ∧ ck1L dS_cX11_newName_1 1 42 = true ∧ ck3L dS_cX11_newName_1 2 180 17 = true ∧ ck1L dS_cX11_newName_1 5 27 = true ∧ ck1L dS_cX11_newName_1 6 28 = true ∧ ck1L dS_cX11_newName_1 7 96 = true ∧ ck1L dS_cX11_newName_1 8 42 = true ∧ ck3L dS_cX11_newName_1 9 180 159 = true := by decide +kernel
theorem dX11_newName_64 : decode cX11_newName 64 = .ok (.return_, 1) := dk_177 (ck1_s (r := 0) dT_cX11_newName_1 rfl dg_cX11_newName_823.1)
theorem dX11_newName_65 : decode cX11_newName 65 = .ok (.aload_n 0, 1) := dk_42 (ck1_s (r := 1) dT_cX11_newName_1 rfl dg_cX11_newName_823.2.1)
theorem dX11_newName_66 : decode cX11_newName 66 = .ok (.getfield 17, 3) := dk_180 (ck3_s (r := 2) dT_cX11_newName_1 rfl dg_cX11_newName_823.2.2.1)
theorem dX11_newName_69 : decode cX11_newName 69 = .ok (.iload_n 1, 1) := dk_27 (ck1_s (r := 5) dT_cX11_newName_1 rfl dg_cX11_newName_823.2.2.2.1)
theorem dX11_newName_70 : decode cX11_newName 70 = .ok (.iload_n 2, 1) := dk_28 (ck1_s (r := 6) dT_cX11_newName_1 rfl dg_cX11_newName_823.2.2.2.2.1)
theorem dX11_newName_71 : decode cX11_newName 71 = .ok (.iadd, 1) := dk_96 (ck1_s (r := 7) dT_cX11_newName_1 rfl dg_cX11_newName_823.2.2.2.2.2.1)
theorem dX11_newName_72 : decode cX11_newName 72 = .ok (.aload_n 0, 1) := dk_42 (ck1_s (r := 8) dT_cX11_newName_1 rfl dg_cX11_newName_823.2.2.2.2.2.2.1)
theorem dX11_newName_73 : decode cX11_newName 73 = .ok (.getfield 159, 3) := dk_180 (ck3_s (r := 9) dT_cX11_newName_1 rfl dg_cX11_newName_823.2.2.2.2.2.2.2)
theorem dg_cX11_newName_824 : ck1L dS_cX11_newName_1 12 80 = true ∧ ck1L dS_cX11_newName_1 13 42 = true ∧ ck3L dS_cX11_newName_1 14 182 235 = true ∧ ck1L dS_cX11_newName_1 17 177 = true := by decide +kernel
theorem dX11_newName_76 : decode cX11_newName 76 = .ok (.lastore, 1) := dk_80 (ck1_s (r := 12) dT_cX11_newName_1 rfl dg_cX11_newName_824.1)
theorem dX11_newName_77 : decode cX11_newName 77 = .ok (.aload_n 0, 1) := dk_42 (ck1_s (r := 13) dT_cX11_newName_1 rfl dg_cX11_newName_824.2.1)
theorem dX11_newName_78 : decode cX11_newName 78 = .ok (.invokevirtual 235, 3) := dk_182 (ck3_s (r := 14) dT_cX11_newName_1 rfl dg_cX11_newName_824.2.2.1)
theorem dX11_newName_81 : decode cX11_newName 81 = .ok (.return_, 1) := dk_177 (ck1_s (r := 17) dT_cX11_newName_1 rfl dg_cX11_newName_824.2.2.2)
theorem dg_cX11_odds_825 : ck1 cX11_odds 0 27 = true ∧ ck1 cX11_odds 1 3 = true ∧ ck1 cX11_odds 2 7 = true ∧ ck3 cX11_odds 3 184 417 = true ∧ ck3s cX11_odds 6 153 12 = true ∧ ck1 cX11_odds 9 28 = true ∧ ck1 cX11_odds 10 3 = true ∧ ck1 cX11_odds 11 4 = true := by decide +kernel
theorem dX11_odds_0 : decode cX11_odds 0 = .ok (.iload_n 1, 1) := dk_27 dg_cX11_odds_825.1
theorem dX11_odds_1 : decode cX11_odds 1 = .ok (.iconst 0, 1) := dk_3 dg_cX11_odds_825.2.1
theorem dX11_odds_2 : decode cX11_odds 2 = .ok (.iconst 4, 1) := dk_7 dg_cX11_odds_825.2.2.1
theorem dX11_odds_3 : decode cX11_odds 3 = .ok (.invokestatic 417, 3) := dk_184 dg_cX11_odds_825.2.2.2.1
theorem dX11_odds_6 : decode cX11_odds 6 = .ok (.ifCond .eq 12, 3) := dk_153 dg_cX11_odds_825.2.2.2.2.1
theorem dX11_odds_9 : decode cX11_odds 9 = .ok (.iload_n 2, 1) := dk_28 dg_cX11_odds_825.2.2.2.2.2.1
theorem dX11_odds_10 : decode cX11_odds 10 = .ok (.iconst 0, 1) := dk_3 dg_cX11_odds_825.2.2.2.2.2.2.1
theorem dX11_odds_11 : decode cX11_odds 11 = .ok (.iconst 1, 1) := dk_4 dg_cX11_odds_825.2.2.2.2.2.2.2
theorem dg_cX11_odds_826 : ck3 cX11_odds 12 184 417 = true ∧ ck3s cX11_odds 15 154 5 = true ∧ ck1 cX11_odds 18 2 = true ∧ ck1 cX11_odds 19 172 = true ∧ ck2s cX11_odds 20 16 100 = true ∧ ck1 cX11_odds 22 42 = true ∧ ck3 cX11_odds 23 180 393 = true ∧ ck1 cX11_odds 26 100 = true := by decide +kernel
theorem dX11_odds_12 : decode cX11_odds 12 = .ok (.invokestatic 417, 3) := dk_184 dg_cX11_odds_826.1
theorem dX11_odds_15 : decode cX11_odds 15 = .ok (.ifCond .ne 5, 3) := dk_154 dg_cX11_odds_826.2.1
theorem dX11_odds_18 : decode cX11_odds 18 = .ok (.iconst (-1), 1) := dk_2 dg_cX11_odds_826.2.2.1
theorem dX11_odds_19 : decode cX11_odds 19 = .ok (.ireturn, 1) := dk_172 dg_cX11_odds_826.2.2.2.1
theorem dX11_odds_20 : decode cX11_odds 20 = .ok (.bipush 100, 2) := dk_16 dg_cX11_odds_826.2.2.2.2.1
theorem dX11_odds_22 : decode cX11_odds 22 = .ok (.aload_n 0, 1) := dk_42 dg_cX11_odds_826.2.2.2.2.2.1
theorem dX11_odds_23 : decode cX11_odds 23 = .ok (.getfield 393, 3) := dk_180 dg_cX11_odds_826.2.2.2.2.2.2.1
theorem dX11_odds_26 : decode cX11_odds 26 = .ok (.isub, 1) := dk_100 dg_cX11_odds_826.2.2.2.2.2.2.2
theorem dg_cX11_odds_827 : ck1 cX11_odds 27 27 = true ∧ ck3 cX11_odds 28 184 473 = true ∧ ck1 cX11_odds 31 62 = true ∧ ck2s cX11_odds 32 16 100 = true ∧ ck1 cX11_odds 34 27 = true ∧ ck3 cX11_odds 35 184 473 = true ∧ ck2 cX11_odds 38 54 4 = true ∧ ck2 cX11_odds 40 21 4 = true := by decide +kernel
theorem dX11_odds_27 : decode cX11_odds 27 = .ok (.iload_n 1, 1) := dk_27 dg_cX11_odds_827.1
theorem dX11_odds_28 : decode cX11_odds 28 = .ok (.invokestatic 473, 3) := dk_184 dg_cX11_odds_827.2.1
theorem dX11_odds_31 : decode cX11_odds 31 = .ok (.istore_n 3, 1) := dk_62 dg_cX11_odds_827.2.2.1
theorem dX11_odds_32 : decode cX11_odds 32 = .ok (.bipush 100, 2) := dk_16 dg_cX11_odds_827.2.2.2.1
theorem dX11_odds_34 : decode cX11_odds 34 = .ok (.iload_n 1, 1) := dk_27 dg_cX11_odds_827.2.2.2.2.1
theorem dX11_odds_35 : decode cX11_odds 35 = .ok (.invokestatic 473, 3) := dk_184 dg_cX11_odds_827.2.2.2.2.2.1
theorem dX11_odds_38 : decode cX11_odds 38 = .ok (.istore 4, 2) := dk_54 dg_cX11_odds_827.2.2.2.2.2.2.1
theorem dX11_odds_40 : decode cX11_odds 40 = .ok (.iload 4, 2) := dk_21 dg_cX11_odds_827.2.2.2.2.2.2.2
theorem dg_cX11_odds_828 : ck1 cX11_odds 42 29 = true ∧ ck3 cX11_odds 43 184 524 = true ∧ ck2 cX11_odds 46 54 5 = true ∧ ck1 cX11_odds 48 28 = true ∧ ck3s cX11_odds 49 154 10 = true ∧ ck1 cX11_odds 52 29 = true ∧ ck2 cX11_odds 53 21 5 = true ∧ ck1 cX11_odds 55 108 = true := by decide +kernel
theorem dX11_odds_42 : decode cX11_odds 42 = .ok (.iload_n 3, 1) := dk_29 dg_cX11_odds_828.1
theorem dX11_odds_43 : decode cX11_odds 43 = .ok (.invokestatic 524, 3) := dk_184 dg_cX11_odds_828.2.1
theorem dX11_odds_46 : decode cX11_odds 46 = .ok (.istore 5, 2) := dk_54 dg_cX11_odds_828.2.2.1
theorem dX11_odds_48 : decode cX11_odds 48 = .ok (.iload_n 2, 1) := dk_28 dg_cX11_odds_828.2.2.2.1
theorem dX11_odds_49 : decode cX11_odds 49 = .ok (.ifCond .ne 10, 3) := dk_154 dg_cX11_odds_828.2.2.2.2.1
theorem dX11_odds_52 : decode cX11_odds 52 = .ok (.iload_n 3, 1) := dk_29 dg_cX11_odds_828.2.2.2.2.2.1
theorem dX11_odds_53 : decode cX11_odds 53 = .ok (.iload 5, 2) := dk_21 dg_cX11_odds_828.2.2.2.2.2.2.1
theorem dX11_odds_55 : decode cX11_odds 55 = .ok (.idiv, 1) := dk_108 dg_cX11_odds_828.2.2.2.2.2.2.2
theorem dg_cX11_odds_829 : ck3s cX11_odds 56 167 8 = true ∧ ck2 cX11_odds 59 21 4 = true ∧ ck2 cX11_odds 61 21 5 = true ∧ ck1 cX11_odds 63 108 = true := by decide +kernel
theorem dX11_odds_56 : decode cX11_odds 56 = .ok (.goto 8, 3) := dk_167 dg_cX11_odds_829.1
theorem dX11_odds_59 : decode cX11_odds 59 = .ok (.iload 4, 2) := dk_21 dg_cX11_odds_829.2.1
theorem dX11_odds_61 : decode cX11_odds 61 = .ok (.iload 5, 2) := dk_21 dg_cX11_odds_829.2.2.1
theorem dX11_odds_63 : decode cX11_odds 63 = .ok (.idiv, 1) := dk_108 dg_cX11_odds_829.2.2.2
def dS_cX11_odds_1 : List UInt8 := 172 :: []
def dS_cX11_odds_0 : List UInt8 := 27 :: 3 :: 7 :: 184 :: 1 :: 161 :: 153 :: 0 :: 12 :: 28 :: 3 :: 4 :: 184 :: 1 :: 161 :: 154 :: 0 :: 5 :: 2 :: 172 :: 16 :: 100 :: 42 :: 180 :: 1 :: 137 :: 100 :: 27 :: 184 :: 1 :: 217 :: 62 :: 16 :: 100 :: 27 :: 184 :: 1 :: 217 :: 54 :: 4 :: 21 :: 4 :: 29 :: 184 :: 2 :: 12 :: 54 :: 5 :: 28 :: 154 :: 0 :: 10 :: 29 :: 21 :: 5 :: 108 :: 167 :: 0 :: 8 :: 21 :: 4 :: 21 :: 5 :: 108 :: dS_cX11_odds_1
theorem dT_cX11_odds_0 : cX11_odds.data.toList.drop 0 = dS_cX11_odds_0 := by decide +kernel
theorem dT_cX11_odds_1 : cX11_odds.data.toList.drop 64 = dS_cX11_odds_1 := ck_nx dT_cX11_odds_0 (by decide +kernel) rfl
theorem dg_cX11_odds_830 : ck1L dS_cX11_odds_1 0 172 = true := by decide +kernel
theorem dX11_odds_64 : decode cX11_odds 64 = .ok (.ireturn, 1) := dk_172 (ck1_s (r := 0) dT_cX11_odds_1 rfl dg_cX11_odds_830)
theorem dg_cX11_openUp_831 : ck1 cX11_openUp 0 42 = true ∧ ck3 cX11_openUp 1 180 33 = true ∧ ck1 cX11_openUp 4 42 = true ∧ ck3 cX11_openUp 5 180 256 = true ∧ ck1 cX11_openUp 8 27 = true ∧ ck1 cX11_openUp 9 79 = true ∧ ck1 cX11_openUp 10 42 = true ∧ ck1 cX11_openUp 11 89 = true := by decide +kernel
theorem dX11_openUp_0 : decode cX11_openUp 0 = .ok (.aload_n 0, 1) := dk_42 dg_cX11_openUp_831.1
theorem dX11_openUp_1 : decode cX11_openUp 1 = .ok (.getfield 33, 3) := dk_180 dg_cX11_openUp_831.2.1
theorem dX11_openUp_4 : decode cX11_openUp 4 = .ok (.aload_n 0, 1) := dk_42 dg_cX11_openUp_831.2.2.1
theorem dX11_openUp_5 : decode cX11_openUp 5 = .ok (.getfield 256, 3) := dk_180 dg_cX11_openUp_831.2.2.2.1
theorem dX11_openUp_8 : decode cX11_openUp 8 = .ok (.iload_n 1, 1) := dk_27 dg_cX11_openUp_831.2.2.2.2.1
theorem dX11_openUp_9 : decode cX11_openUp 9 = .ok (.iastore, 1) := dk_79 dg_cX11_openUp_831.2.2.2.2.2.1
theorem dX11_openUp_10 : decode cX11_openUp 10 = .ok (.aload_n 0, 1) := dk_42 dg_cX11_openUp_831.2.2.2.2.2.2.1
theorem dX11_openUp_11 : decode cX11_openUp 11 = .ok (.dup, 1) := dk_89 dg_cX11_openUp_831.2.2.2.2.2.2.2
theorem dg_cX11_openUp_832 : ck3 cX11_openUp 12 180 256 = true ∧ ck1 cX11_openUp 15 4 = true ∧ ck1 cX11_openUp 16 96 = true ∧ ck3 cX11_openUp 17 181 256 = true ∧ ck1 cX11_openUp 20 42 = true ∧ ck1 cX11_openUp 21 89 = true ∧ ck3 cX11_openUp 22 180 266 = true ∧ ck1 cX11_openUp 25 4 = true := by decide +kernel
theorem dX11_openUp_12 : decode cX11_openUp 12 = .ok (.getfield 256, 3) := dk_180 dg_cX11_openUp_832.1
theorem dX11_openUp_15 : decode cX11_openUp 15 = .ok (.iconst 1, 1) := dk_4 dg_cX11_openUp_832.2.1
theorem dX11_openUp_16 : decode cX11_openUp 16 = .ok (.iadd, 1) := dk_96 dg_cX11_openUp_832.2.2.1
theorem dX11_openUp_17 : decode cX11_openUp 17 = .ok (.putfield 256, 3) := dk_181 dg_cX11_openUp_832.2.2.2.1
theorem dX11_openUp_20 : decode cX11_openUp 20 = .ok (.aload_n 0, 1) := dk_42 dg_cX11_openUp_832.2.2.2.2.1
theorem dX11_openUp_21 : decode cX11_openUp 21 = .ok (.dup, 1) := dk_89 dg_cX11_openUp_832.2.2.2.2.2.1
theorem dX11_openUp_22 : decode cX11_openUp 22 = .ok (.getfield 266, 3) := dk_180 dg_cX11_openUp_832.2.2.2.2.2.2.1
theorem dX11_openUp_25 : decode cX11_openUp 25 = .ok (.iconst 1, 1) := dk_4 dg_cX11_openUp_832.2.2.2.2.2.2.2
theorem dg_cX11_openUp_833 : ck1 cX11_openUp 26 96 = true ∧ ck3 cX11_openUp 27 181 266 = true ∧ ck1 cX11_openUp 30 42 = true ∧ ck3 cX11_openUp 31 180 179 = true ∧ ck3s cX11_openUp 34 154 7 = true ∧ ck1 cX11_openUp 37 42 = true ∧ ck3 cX11_openUp 38 182 235 = true ∧ ck1 cX11_openUp 41 177 = true := by decide +kernel
theorem dX11_openUp_26 : decode cX11_openUp 26 = .ok (.iadd, 1) := dk_96 dg_cX11_openUp_833.1
theorem dX11_openUp_27 : decode cX11_openUp 27 = .ok (.putfield 266, 3) := dk_181 dg_cX11_openUp_833.2.1
theorem dX11_openUp_30 : decode cX11_openUp 30 = .ok (.aload_n 0, 1) := dk_42 dg_cX11_openUp_833.2.2.1
theorem dX11_openUp_31 : decode cX11_openUp 31 = .ok (.getfield 179, 3) := dk_180 dg_cX11_openUp_833.2.2.2.1
theorem dX11_openUp_34 : decode cX11_openUp 34 = .ok (.ifCond .ne 7, 3) := dk_154 dg_cX11_openUp_833.2.2.2.2.1
theorem dX11_openUp_37 : decode cX11_openUp 37 = .ok (.aload_n 0, 1) := dk_42 dg_cX11_openUp_833.2.2.2.2.2.1
theorem dX11_openUp_38 : decode cX11_openUp 38 = .ok (.invokevirtual 235, 3) := dk_182 dg_cX11_openUp_833.2.2.2.2.2.2.1
theorem dX11_openUp_41 : decode cX11_openUp 41 = .ok (.return_, 1) := dk_177 dg_cX11_openUp_833.2.2.2.2.2.2.2
theorem dg_cX11_option_834 : ck1 cX11_option 0 42 = true ∧ ck3 cX11_option 1 180 179 = true ∧ ck3s cX11_option 4 154 20 = true ∧ ck1 cX11_option 7 42 = true ∧ ck1 cX11_option 8 31 = true ∧ ck3 cX11_option 9 182 228 = true ∧ ck3s cX11_option 12 153 12 = true ∧ ck1 cX11_option 15 42 = true := by decide +kernel
theorem dX11_option_0 : decode cX11_option 0 = .ok (.aload_n 0, 1) := dk_42 dg_cX11_option_834.1
theorem dX11_option_1 : decode cX11_option 1 = .ok (.getfield 179, 3) := dk_180 dg_cX11_option_834.2.1
theorem dX11_option_4 : decode cX11_option 4 = .ok (.ifCond .ne 20, 3) := dk_154 dg_cX11_option_834.2.2.1
theorem dX11_option_7 : decode cX11_option 7 = .ok (.aload_n 0, 1) := dk_42 dg_cX11_option_834.2.2.2.1
theorem dX11_option_8 : decode cX11_option 8 = .ok (.lload_n 1, 1) := dk_31 dg_cX11_option_834.2.2.2.2.1
theorem dX11_option_9 : decode cX11_option 9 = .ok (.invokevirtual 228, 3) := dk_182 dg_cX11_option_834.2.2.2.2.2.1
theorem dX11_option_12 : decode cX11_option 12 = .ok (.ifCond .eq 12, 3) := dk_153 dg_cX11_option_834.2.2.2.2.2.2.1
theorem dX11_option_15 : decode cX11_option 15 = .ok (.aload_n 0, 1) := dk_42 dg_cX11_option_834.2.2.2.2.2.2.2
theorem dg_cX11_option_835 : ck1 cX11_option 16 31 = true ∧ ck1 cX11_option 17 29 = true ∧ ck3 cX11_option 18 182 246 = true ∧ ck3s cX11_option 21 167 4 = true ∧ ck1 cX11_option 24 3 = true ∧ ck1 cX11_option 25 172 = true := by decide +kernel
theorem dX11_option_16 : decode cX11_option 16 = .ok (.lload_n 1, 1) := dk_31 dg_cX11_option_835.1
theorem dX11_option_17 : decode cX11_option 17 = .ok (.iload_n 3, 1) := dk_29 dg_cX11_option_835.2.1
theorem dX11_option_18 : decode cX11_option 18 = .ok (.invokevirtual 246, 3) := dk_182 dg_cX11_option_835.2.2.1
theorem dX11_option_21 : decode cX11_option 21 = .ok (.goto 4, 3) := dk_167 dg_cX11_option_835.2.2.2.1
theorem dX11_option_24 : decode cX11_option 24 = .ok (.iconst 0, 1) := dk_3 dg_cX11_option_835.2.2.2.2.1
theorem dX11_option_25 : decode cX11_option 25 = .ok (.ireturn, 1) := dk_172 dg_cX11_option_835.2.2.2.2.2
theorem dg_cX11_out_836 : ck1 cX11_out 0 42 = true ∧ ck1 cX11_out 1 27 = true ∧ ck3 cX11_out 2 182 446 = true ∧ ck3s cX11_out 5 154 5 = true ∧ ck1 cX11_out 8 2 = true ∧ ck1 cX11_out 9 172 = true ∧ ck1 cX11_out 10 42 = true ∧ ck3 cX11_out 11 182 449 = true := by decide +kernel
theorem dX11_out_0 : decode cX11_out 0 = .ok (.aload_n 0, 1) := dk_42 dg_cX11_out_836.1
theorem dX11_out_1 : decode cX11_out 1 = .ok (.iload_n 1, 1) := dk_27 dg_cX11_out_836.2.1
theorem dX11_out_2 : decode cX11_out 2 = .ok (.invokevirtual 446, 3) := dk_182 dg_cX11_out_836.2.2.1
theorem dX11_out_5 : decode cX11_out 5 = .ok (.ifCond .ne 5, 3) := dk_154 dg_cX11_out_836.2.2.2.1
theorem dX11_out_8 : decode cX11_out 8 = .ok (.iconst (-1), 1) := dk_2 dg_cX11_out_836.2.2.2.2.1
theorem dX11_out_9 : decode cX11_out 9 = .ok (.ireturn, 1) := dk_172 dg_cX11_out_836.2.2.2.2.2.1
theorem dX11_out_10 : decode cX11_out 10 = .ok (.aload_n 0, 1) := dk_42 dg_cX11_out_836.2.2.2.2.2.2.1
theorem dX11_out_11 : decode cX11_out 11 = .ok (.invokevirtual 449, 3) := dk_182 dg_cX11_out_836.2.2.2.2.2.2.2
theorem dg_cX11_out_837 : ck1 cX11_out 14 3 = true ∧ ck1 cX11_out 15 61 = true ∧ ck1 cX11_out 16 28 = true ∧ ck2s cX11_out 17 16 60 = true ∧ ck3s cX11_out 19 163 29 = true ∧ ck1 cX11_out 22 42 = true ∧ ck3 cX11_out 23 180 96 = true ∧ ck2s cX11_out 26 16 6 = true := by decide +kernel
theorem dX11_out_14 : decode cX11_out 14 = .ok (.iconst 0, 1) := dk_3 dg_cX11_out_837.1
theorem dX11_out_15 : decode cX11_out 15 = .ok (.istore_n 2, 1) := dk_61 dg_cX11_out_837.2.1
theorem dX11_out_16 : decode cX11_out 16 = .ok (.iload_n 2, 1) := dk_28 dg_cX11_out_837.2.2.1
theorem dX11_out_17 : decode cX11_out 17 = .ok (.bipush 60, 2) := dk_16 dg_cX11_out_837.2.2.2.1
theorem dX11_out_19 : decode cX11_out 19 = .ok (.if_icmp .gt 29, 3) := dk_163 dg_cX11_out_837.2.2.2.2.1
theorem dX11_out_22 : decode cX11_out 22 = .ok (.aload_n 0, 1) := dk_42 dg_cX11_out_837.2.2.2.2.2.1
theorem dX11_out_23 : decode cX11_out 23 = .ok (.getfield 96, 3) := dk_180 dg_cX11_out_837.2.2.2.2.2.2.1
theorem dX11_out_26 : decode cX11_out 26 = .ok (.bipush 6, 2) := dk_16 dg_cX11_out_837.2.2.2.2.2.2.2
theorem dg_cX11_out_838 : ck1 cX11_out 28 27 = true ∧ ck1 cX11_out 29 96 = true ∧ ck1 cX11_out 30 46 = true ∧ ck3s cX11_out 31 156 5 = true ∧ ck1 cX11_out 34 28 = true ∧ ck1 cX11_out 35 172 = true ∧ ck1 cX11_out 36 42 = true ∧ ck1 cX11_out 37 3 = true := by decide +kernel
theorem dX11_out_28 : decode cX11_out 28 = .ok (.iload_n 1, 1) := dk_27 dg_cX11_out_838.1
theorem dX11_out_29 : decode cX11_out 29 = .ok (.iadd, 1) := dk_96 dg_cX11_out_838.2.1
theorem dX11_out_30 : decode cX11_out 30 = .ok (.iaload, 1) := dk_46 dg_cX11_out_838.2.2.1
theorem dX11_out_31 : decode cX11_out 31 = .ok (.ifCond .ge 5, 3) := dk_156 dg_cX11_out_838.2.2.2.1
theorem dX11_out_34 : decode cX11_out 34 = .ok (.iload_n 2, 1) := dk_28 dg_cX11_out_838.2.2.2.2.1
theorem dX11_out_35 : decode cX11_out 35 = .ok (.ireturn, 1) := dk_172 dg_cX11_out_838.2.2.2.2.2.1
theorem dX11_out_36 : decode cX11_out 36 = .ok (.aload_n 0, 1) := dk_42 dg_cX11_out_838.2.2.2.2.2.2.1
theorem dX11_out_37 : decode cX11_out 37 = .ok (.iconst 0, 1) := dk_3 dg_cX11_out_838.2.2.2.2.2.2.2
theorem dg_cX11_out_839 : ck3 cX11_out 38 182 464 = true ∧ ck1 cX11_out 41 87 = true ∧ ck3i cX11_out 42 132 2 1 = true ∧ ck3s cX11_out 45 167 (-29) = true ∧ ck1 cX11_out 48 2 = true ∧ ck1 cX11_out 49 172 = true := by decide +kernel
theorem dX11_out_38 : decode cX11_out 38 = .ok (.invokevirtual 464, 3) := dk_182 dg_cX11_out_839.1
theorem dX11_out_41 : decode cX11_out 41 = .ok (.pop, 1) := dk_87 dg_cX11_out_839.2.1
theorem dX11_out_42 : decode cX11_out 42 = .ok (.iinc 2 1, 3) := dk_132 dg_cX11_out_839.2.2.1
theorem dX11_out_45 : decode cX11_out 45 = .ok (.goto (-29), 3) := dk_167 dg_cX11_out_839.2.2.2.1
theorem dX11_out_48 : decode cX11_out 48 = .ok (.iconst (-1), 1) := dk_2 dg_cX11_out_839.2.2.2.2.1
theorem dX11_out_49 : decode cX11_out 49 = .ok (.ireturn, 1) := dk_172 dg_cX11_out_839.2.2.2.2.2
theorem dg_cX11_over_840 : ck1 cX11_over 0 26 = true ∧ ck1 cX11_over 1 27 = true ∧ ck3s cX11_over 2 164 9 = true ∧ ck1 cX11_over 5 26 = true ∧ ck1 cX11_over 6 27 = true ∧ ck1 cX11_over 7 100 = true ∧ ck3s cX11_over 8 167 4 = true ∧ ck1 cX11_over 11 3 = true := by decide +kernel
theorem dX11_over_0 : decode cX11_over 0 = .ok (.iload_n 0, 1) := dk_26 dg_cX11_over_840.1
theorem dX11_over_1 : decode cX11_over 1 = .ok (.iload_n 1, 1) := dk_27 dg_cX11_over_840.2.1
theorem dX11_over_2 : decode cX11_over 2 = .ok (.if_icmp .le 9, 3) := dk_164 dg_cX11_over_840.2.2.1
theorem dX11_over_5 : decode cX11_over 5 = .ok (.iload_n 0, 1) := dk_26 dg_cX11_over_840.2.2.2.1
theorem dX11_over_6 : decode cX11_over 6 = .ok (.iload_n 1, 1) := dk_27 dg_cX11_over_840.2.2.2.2.1
theorem dX11_over_7 : decode cX11_over 7 = .ok (.isub, 1) := dk_100 dg_cX11_over_840.2.2.2.2.2.1
theorem dX11_over_8 : decode cX11_over 8 = .ok (.goto 4, 3) := dk_167 dg_cX11_over_840.2.2.2.2.2.2.1
theorem dX11_over_11 : decode cX11_over 11 = .ok (.iconst 0, 1) := dk_3 dg_cX11_over_840.2.2.2.2.2.2.2
theorem dg_cX11_over_841 : ck1 cX11_over 12 172 = true := by decide +kernel
theorem dX11_over_12 : decode cX11_over 12 = .ok (.ireturn, 1) := dk_172 dg_cX11_over_841
theorem dg_cX11_ownIll_842 : ck1 cX11_ownIll 0 42 = true ∧ ck3 cX11_ownIll 1 180 96 = true ∧ ck2s cX11_ownIll 4 16 6 = true ∧ ck1 cX11_ownIll 6 27 = true ∧ ck1 cX11_ownIll 7 96 = true ∧ ck1 cX11_ownIll 8 46 = true ∧ ck3s cX11_ownIll 9 156 7 = true ∧ ck1 cX11_ownIll 12 2 = true := by decide +kernel
theorem dX11_ownIll_0 : decode cX11_ownIll 0 = .ok (.aload_n 0, 1) := dk_42 dg_cX11_ownIll_842.1
theorem dX11_ownIll_1 : decode cX11_ownIll 1 = .ok (.getfield 96, 3) := dk_180 dg_cX11_ownIll_842.2.1
theorem dX11_ownIll_4 : decode cX11_ownIll 4 = .ok (.bipush 6, 2) := dk_16 dg_cX11_ownIll_842.2.2.1
theorem dX11_ownIll_6 : decode cX11_ownIll 6 = .ok (.iload_n 1, 1) := dk_27 dg_cX11_ownIll_842.2.2.2.1
theorem dX11_ownIll_7 : decode cX11_ownIll 7 = .ok (.iadd, 1) := dk_96 dg_cX11_ownIll_842.2.2.2.2.1
theorem dX11_ownIll_8 : decode cX11_ownIll 8 = .ok (.iaload, 1) := dk_46 dg_cX11_ownIll_842.2.2.2.2.2.1
theorem dX11_ownIll_9 : decode cX11_ownIll 9 = .ok (.ifCond .ge 7, 3) := dk_156 dg_cX11_ownIll_842.2.2.2.2.2.2.1
theorem dX11_ownIll_12 : decode cX11_ownIll 12 = .ok (.iconst (-1), 1) := dk_2 dg_cX11_ownIll_842.2.2.2.2.2.2.2
theorem dg_cX11_ownIll_843 : ck3s cX11_ownIll 13 167 17 = true ∧ ck1 cX11_ownIll 16 42 = true ∧ ck1 cX11_ownIll 17 27 = true ∧ ck1 cX11_ownIll 18 42 = true ∧ ck3 cX11_ownIll 19 180 96 = true ∧ ck2s cX11_ownIll 22 16 6 = true ∧ ck1 cX11_ownIll 24 27 = true ∧ ck1 cX11_ownIll 25 96 = true := by decide +kernel
theorem dX11_ownIll_13 : decode cX11_ownIll 13 = .ok (.goto 17, 3) := dk_167 dg_cX11_ownIll_843.1
theorem dX11_ownIll_16 : decode cX11_ownIll 16 = .ok (.aload_n 0, 1) := dk_42 dg_cX11_ownIll_843.2.1
theorem dX11_ownIll_17 : decode cX11_ownIll 17 = .ok (.iload_n 1, 1) := dk_27 dg_cX11_ownIll_843.2.2.1
theorem dX11_ownIll_18 : decode cX11_ownIll 18 = .ok (.aload_n 0, 1) := dk_42 dg_cX11_ownIll_843.2.2.2.1
theorem dX11_ownIll_19 : decode cX11_ownIll 19 = .ok (.getfield 96, 3) := dk_180 dg_cX11_ownIll_843.2.2.2.2.1
theorem dX11_ownIll_22 : decode cX11_ownIll 22 = .ok (.bipush 6, 2) := dk_16 dg_cX11_ownIll_843.2.2.2.2.2.1
theorem dX11_ownIll_24 : decode cX11_ownIll 24 = .ok (.iload_n 1, 1) := dk_27 dg_cX11_ownIll_843.2.2.2.2.2.2.1
theorem dX11_ownIll_25 : decode cX11_ownIll 25 = .ok (.iadd, 1) := dk_96 dg_cX11_ownIll_843.2.2.2.2.2.2.2
theorem dg_cX11_ownIll_844 : ck1 cX11_ownIll 26 46 = true ∧ ck3 cX11_ownIll 27 182 421 = true ∧ ck1 cX11_ownIll 30 172 = true := by decide +kernel
theorem dX11_ownIll_26 : decode cX11_ownIll 26 = .ok (.iaload, 1) := dk_46 dg_cX11_ownIll_844.1
theorem dX11_ownIll_27 : decode cX11_ownIll 27 = .ok (.invokevirtual 421, 3) := dk_182 dg_cX11_ownIll_844.2.1
theorem dX11_ownIll_30 : decode cX11_ownIll 30 = .ok (.ireturn, 1) := dk_172 dg_cX11_ownIll_844.2.2
theorem dg_cX11_plain_845 : ck1 cX11_plain 0 26 = true ∧ ck3s cX11_plain 1 156 8 = true ∧ ck1 cX11_plain 4 26 = true ∧ ck1 cX11_plain 5 116 = true ∧ ck3s cX11_plain 6 167 4 = true ∧ ck1 cX11_plain 9 26 = true ∧ ck1 cX11_plain 10 172 = true := by decide +kernel
theorem dX11_plain_0 : decode cX11_plain 0 = .ok (.iload_n 0, 1) := dk_26 dg_cX11_plain_845.1
theorem dX11_plain_1 : decode cX11_plain 1 = .ok (.ifCond .ge 8, 3) := dk_156 dg_cX11_plain_845.2.1
theorem dX11_plain_4 : decode cX11_plain 4 = .ok (.iload_n 0, 1) := dk_26 dg_cX11_plain_845.2.2.1
theorem dX11_plain_5 : decode cX11_plain 5 = .ok (.ineg, 1) := dk_116 dg_cX11_plain_845.2.2.2.1
theorem dX11_plain_6 : decode cX11_plain 6 = .ok (.goto 4, 3) := dk_167 dg_cX11_plain_845.2.2.2.2.1
theorem dX11_plain_9 : decode cX11_plain 9 = .ok (.iload_n 0, 1) := dk_26 dg_cX11_plain_845.2.2.2.2.2.1
theorem dX11_plain_10 : decode cX11_plain 10 = .ok (.ireturn, 1) := dk_172 dg_cX11_plain_845.2.2.2.2.2.2
theorem dg_cX11_popular_846 : ck1 cX11_popular 0 42 = true ∧ ck3 cX11_popular 1 182 449 = true ∧ ck1 cX11_popular 4 42 = true ∧ ck1 cX11_popular 5 27 = true ∧ ck3 cX11_popular 6 182 455 = true ∧ ck3s cX11_popular 9 153 11 = true ∧ ck1 cX11_popular 12 42 = true ∧ ck1 cX11_popular 13 27 = true := by decide +kernel
theorem dX11_popular_0 : decode cX11_popular 0 = .ok (.aload_n 0, 1) := dk_42 dg_cX11_popular_846.1
theorem dX11_popular_1 : decode cX11_popular 1 = .ok (.invokevirtual 449, 3) := dk_182 dg_cX11_popular_846.2.1
theorem dX11_popular_4 : decode cX11_popular 4 = .ok (.aload_n 0, 1) := dk_42 dg_cX11_popular_846.2.2.1
theorem dX11_popular_5 : decode cX11_popular 5 = .ok (.iload_n 1, 1) := dk_27 dg_cX11_popular_846.2.2.2.1
theorem dX11_popular_6 : decode cX11_popular 6 = .ok (.invokevirtual 455, 3) := dk_182 dg_cX11_popular_846.2.2.2.2.1
theorem dX11_popular_9 : decode cX11_popular 9 = .ok (.ifCond .eq 11, 3) := dk_153 dg_cX11_popular_846.2.2.2.2.2.1
theorem dX11_popular_12 : decode cX11_popular 12 = .ok (.aload_n 0, 1) := dk_42 dg_cX11_popular_846.2.2.2.2.2.2.1
theorem dX11_popular_13 : decode cX11_popular 13 = .ok (.iload_n 1, 1) := dk_27 dg_cX11_popular_846.2.2.2.2.2.2.2
theorem dg_cX11_popular_847 : ck3 cX11_popular 14 182 518 = true ∧ ck3s cX11_popular 17 167 4 = true ∧ ck1 cX11_popular 20 2 = true ∧ ck1 cX11_popular 21 172 = true := by decide +kernel
theorem dX11_popular_14 : decode cX11_popular 14 = .ok (.invokevirtual 518, 3) := dk_182 dg_cX11_popular_847.1
theorem dX11_popular_17 : decode cX11_popular 17 = .ok (.goto 4, 3) := dk_167 dg_cX11_popular_847.2.1
theorem dX11_popular_20 : decode cX11_popular 20 = .ok (.iconst (-1), 1) := dk_2 dg_cX11_popular_847.2.2.1
theorem dX11_popular_21 : decode cX11_popular 21 = .ok (.ireturn, 1) := dk_172 dg_cX11_popular_847.2.2.2
theorem dg_cX11_power_848 : ck1 cX11_power 0 4 = true ∧ ck1 cX11_power 1 61 = true ∧ ck1 cX11_power 2 3 = true ∧ ck1 cX11_power 3 62 = true ∧ ck1 cX11_power 4 29 = true ∧ ck1 cX11_power 5 27 = true ∧ ck3s cX11_power 6 162 13 = true ∧ ck1 cX11_power 9 28 = true := by decide +kernel
theorem dX11_power_0 : decode cX11_power 0 = .ok (.iconst 1, 1) := dk_4 dg_cX11_power_848.1
theorem dX11_power_1 : decode cX11_power 1 = .ok (.istore_n 2, 1) := dk_61 dg_cX11_power_848.2.1
theorem dX11_power_2 : decode cX11_power 2 = .ok (.iconst 0, 1) := dk_3 dg_cX11_power_848.2.2.1
theorem dX11_power_3 : decode cX11_power 3 = .ok (.istore_n 3, 1) := dk_62 dg_cX11_power_848.2.2.2.1
theorem dX11_power_4 : decode cX11_power 4 = .ok (.iload_n 3, 1) := dk_29 dg_cX11_power_848.2.2.2.2.1
theorem dX11_power_5 : decode cX11_power 5 = .ok (.iload_n 1, 1) := dk_27 dg_cX11_power_848.2.2.2.2.2.1
theorem dX11_power_6 : decode cX11_power 6 = .ok (.if_icmp .ge 13, 3) := dk_162 dg_cX11_power_848.2.2.2.2.2.2.1
theorem dX11_power_9 : decode cX11_power 9 = .ok (.iload_n 2, 1) := dk_28 dg_cX11_power_848.2.2.2.2.2.2.2
theorem dg_cX11_power_849 : ck1 cX11_power 10 26 = true ∧ ck1 cX11_power 11 104 = true ∧ ck1 cX11_power 12 61 = true ∧ ck3i cX11_power 13 132 3 1 = true ∧ ck3s cX11_power 16 167 (-12) = true ∧ ck1 cX11_power 19 28 = true ∧ ck1 cX11_power 20 172 = true := by decide +kernel
theorem dX11_power_10 : decode cX11_power 10 = .ok (.iload_n 0, 1) := dk_26 dg_cX11_power_849.1
theorem dX11_power_11 : decode cX11_power 11 = .ok (.imul, 1) := dk_104 dg_cX11_power_849.2.1
theorem dX11_power_12 : decode cX11_power 12 = .ok (.istore_n 2, 1) := dk_61 dg_cX11_power_849.2.2.1
theorem dX11_power_13 : decode cX11_power 13 = .ok (.iinc 3 1, 3) := dk_132 dg_cX11_power_849.2.2.2.1
theorem dX11_power_16 : decode cX11_power 16 = .ok (.goto (-12), 3) := dk_167 dg_cX11_power_849.2.2.2.2.1
theorem dX11_power_19 : decode cX11_power 19 = .ok (.iload_n 2, 1) := dk_28 dg_cX11_power_849.2.2.2.2.2.1
theorem dX11_power_20 : decode cX11_power 20 = .ok (.ireturn, 1) := dk_172 dg_cX11_power_849.2.2.2.2.2.2
theorem dg_cX11_rags_850 : ck1 cX11_rags 0 42 = true ∧ ck3 cX11_rags 1 182 449 = true ∧ ck1 cX11_rags 4 3 = true ∧ ck1 cX11_rags 5 60 = true ∧ ck1 cX11_rags 6 3 = true ∧ ck1 cX11_rags 7 61 = true ∧ ck1 cX11_rags 8 28 = true ∧ ck1 cX11_rags 9 42 = true := by decide +kernel
theorem dX11_rags_0 : decode cX11_rags 0 = .ok (.aload_n 0, 1) := dk_42 dg_cX11_rags_850.1
theorem dX11_rags_1 : decode cX11_rags 1 = .ok (.invokevirtual 449, 3) := dk_182 dg_cX11_rags_850.2.1
theorem dX11_rags_4 : decode cX11_rags 4 = .ok (.iconst 0, 1) := dk_3 dg_cX11_rags_850.2.2.1
theorem dX11_rags_5 : decode cX11_rags 5 = .ok (.istore_n 1, 1) := dk_60 dg_cX11_rags_850.2.2.2.1
theorem dX11_rags_6 : decode cX11_rags 6 = .ok (.iconst 0, 1) := dk_3 dg_cX11_rags_850.2.2.2.2.1
theorem dX11_rags_7 : decode cX11_rags 7 = .ok (.istore_n 2, 1) := dk_61 dg_cX11_rags_850.2.2.2.2.2.1
theorem dX11_rags_8 : decode cX11_rags 8 = .ok (.iload_n 2, 1) := dk_28 dg_cX11_rags_850.2.2.2.2.2.2.1
theorem dX11_rags_9 : decode cX11_rags 9 = .ok (.aload_n 0, 1) := dk_42 dg_cX11_rags_850.2.2.2.2.2.2.2
theorem dg_cX11_rags_851 : ck3 cX11_rags 10 180 390 = true ∧ ck3s cX11_rags 13 162 30 = true ∧ ck1 cX11_rags 16 27 = true ∧ ck1 cX11_rags 17 42 = true ∧ ck1 cX11_rags 18 28 = true ∧ ck3 cX11_rags 19 182 518 = true ∧ ck3s cX11_rags 22 154 7 = true ∧ ck1 cX11_rags 25 4 = true := by decide +kernel
theorem dX11_rags_10 : decode cX11_rags 10 = .ok (.getfield 390, 3) := dk_180 dg_cX11_rags_851.1
theorem dX11_rags_13 : decode cX11_rags 13 = .ok (.if_icmp .ge 30, 3) := dk_162 dg_cX11_rags_851.2.1
theorem dX11_rags_16 : decode cX11_rags 16 = .ok (.iload_n 1, 1) := dk_27 dg_cX11_rags_851.2.2.1
theorem dX11_rags_17 : decode cX11_rags 17 = .ok (.aload_n 0, 1) := dk_42 dg_cX11_rags_851.2.2.2.1
theorem dX11_rags_18 : decode cX11_rags 18 = .ok (.iload_n 2, 1) := dk_28 dg_cX11_rags_851.2.2.2.2.1
theorem dX11_rags_19 : decode cX11_rags 19 = .ok (.invokevirtual 518, 3) := dk_182 dg_cX11_rags_851.2.2.2.2.2.1
theorem dX11_rags_22 : decode cX11_rags 22 = .ok (.ifCond .ne 7, 3) := dk_154 dg_cX11_rags_851.2.2.2.2.2.2.1
theorem dX11_rags_25 : decode cX11_rags 25 = .ok (.iconst 1, 1) := dk_4 dg_cX11_rags_851.2.2.2.2.2.2.2
theorem dg_cX11_rags_852 : ck3s cX11_rags 26 167 4 = true ∧ ck1 cX11_rags 29 3 = true ∧ ck3 cX11_rags 30 184 310 = true ∧ ck1 cX11_rags 33 28 = true ∧ ck1 cX11_rags 34 120 = true ∧ ck1 cX11_rags 35 128 = true ∧ ck1 cX11_rags 36 60 = true ∧ ck3i cX11_rags 37 132 2 1 = true := by decide +kernel
theorem dX11_rags_26 : decode cX11_rags 26 = .ok (.goto 4, 3) := dk_167 dg_cX11_rags_852.1
theorem dX11_rags_29 : decode cX11_rags 29 = .ok (.iconst 0, 1) := dk_3 dg_cX11_rags_852.2.1
theorem dX11_rags_30 : decode cX11_rags 30 = .ok (.invokestatic 310, 3) := dk_184 dg_cX11_rags_852.2.2.1
theorem dX11_rags_33 : decode cX11_rags 33 = .ok (.iload_n 2, 1) := dk_28 dg_cX11_rags_852.2.2.2.1
theorem dX11_rags_34 : decode cX11_rags 34 = .ok (.ishl, 1) := dk_120 dg_cX11_rags_852.2.2.2.2.1
theorem dX11_rags_35 : decode cX11_rags 35 = .ok (.ior, 1) := dk_128 dg_cX11_rags_852.2.2.2.2.2.1
theorem dX11_rags_36 : decode cX11_rags 36 = .ok (.istore_n 1, 1) := dk_60 dg_cX11_rags_852.2.2.2.2.2.2.1
theorem dX11_rags_37 : decode cX11_rags 37 = .ok (.iinc 2 1, 3) := dk_132 dg_cX11_rags_852.2.2.2.2.2.2.2
theorem dg_cX11_rags_853 : ck3s cX11_rags 40 167 (-32) = true ∧ ck1 cX11_rags 43 27 = true ∧ ck1 cX11_rags 44 172 = true := by decide +kernel
theorem dX11_rags_40 : decode cX11_rags 40 = .ok (.goto (-32), 3) := dk_167 dg_cX11_rags_853.1
theorem dX11_rags_43 : decode cX11_rags 43 = .ok (.iload_n 1, 1) := dk_27 dg_cX11_rags_853.2.1
theorem dX11_rags_44 : decode cX11_rags 44 = .ok (.ireturn, 1) := dk_172 dg_cX11_rags_853.2.2
theorem dg_cX11_reach_854 : ck1 cX11_reach 0 42 = true ∧ ck1 cX11_reach 1 3 = true ∧ ck3 cX11_reach 2 181 414 = true ∧ ck1 cX11_reach 5 42 = true ∧ ck3 cX11_reach 6 182 470 = true ∧ ck1 cX11_reach 9 42 = true ∧ ck3 cX11_reach 10 182 511 = true ∧ ck1 cX11_reach 13 62 = true := by decide +kernel
theorem dX11_reach_0 : decode cX11_reach 0 = .ok (.aload_n 0, 1) := dk_42 dg_cX11_reach_854.1
theorem dX11_reach_1 : decode cX11_reach 1 = .ok (.iconst 0, 1) := dk_3 dg_cX11_reach_854.2.1
theorem dX11_reach_2 : decode cX11_reach 2 = .ok (.putfield 414, 3) := dk_181 dg_cX11_reach_854.2.2.1
theorem dX11_reach_5 : decode cX11_reach 5 = .ok (.aload_n 0, 1) := dk_42 dg_cX11_reach_854.2.2.2.1
theorem dX11_reach_6 : decode cX11_reach 6 = .ok (.invokevirtual 470, 3) := dk_182 dg_cX11_reach_854.2.2.2.2.1
theorem dX11_reach_9 : decode cX11_reach 9 = .ok (.aload_n 0, 1) := dk_42 dg_cX11_reach_854.2.2.2.2.2.1
theorem dX11_reach_10 : decode cX11_reach 10 = .ok (.invokevirtual 511, 3) := dk_182 dg_cX11_reach_854.2.2.2.2.2.2.1
theorem dX11_reach_13 : decode cX11_reach 13 = .ok (.istore_n 3, 1) := dk_62 dg_cX11_reach_854.2.2.2.2.2.2.2
theorem dg_cX11_reach_855 : ck1 cX11_reach 14 42 = true ∧ ck1 cX11_reach 15 27 = true ∧ ck3 cX11_reach 16 182 446 = true ∧ ck3s cX11_reach 19 153 20 = true ∧ ck1 cX11_reach 22 42 = true ∧ ck1 cX11_reach 23 28 = true ∧ ck3 cX11_reach 24 182 446 = true ∧ ck3s cX11_reach 27 153 12 = true := by decide +kernel
theorem dX11_reach_14 : decode cX11_reach 14 = .ok (.aload_n 0, 1) := dk_42 dg_cX11_reach_855.1
theorem dX11_reach_15 : decode cX11_reach 15 = .ok (.iload_n 1, 1) := dk_27 dg_cX11_reach_855.2.1
theorem dX11_reach_16 : decode cX11_reach 16 = .ok (.invokevirtual 446, 3) := dk_182 dg_cX11_reach_855.2.2.1
theorem dX11_reach_19 : decode cX11_reach 19 = .ok (.ifCond .eq 20, 3) := dk_153 dg_cX11_reach_855.2.2.2.1
theorem dX11_reach_22 : decode cX11_reach 22 = .ok (.aload_n 0, 1) := dk_42 dg_cX11_reach_855.2.2.2.2.1
theorem dX11_reach_23 : decode cX11_reach 23 = .ok (.iload_n 2, 1) := dk_28 dg_cX11_reach_855.2.2.2.2.2.1
theorem dX11_reach_24 : decode cX11_reach 24 = .ok (.invokevirtual 446, 3) := dk_182 dg_cX11_reach_855.2.2.2.2.2.2.1
theorem dX11_reach_27 : decode cX11_reach 27 = .ok (.ifCond .eq 12, 3) := dk_153 dg_cX11_reach_855.2.2.2.2.2.2.2
theorem dg_cX11_reach_856 : ck1 cX11_reach 30 27 = true ∧ ck1 cX11_reach 31 28 = true ∧ ck3s cX11_reach 32 159 7 = true ∧ ck1 cX11_reach 35 29 = true ∧ ck3s cX11_reach 36 154 5 = true ∧ ck1 cX11_reach 39 2 = true ∧ ck1 cX11_reach 40 172 = true ∧ ck1 cX11_reach 41 3 = true := by decide +kernel
theorem dX11_reach_30 : decode cX11_reach 30 = .ok (.iload_n 1, 1) := dk_27 dg_cX11_reach_856.1
theorem dX11_reach_31 : decode cX11_reach 31 = .ok (.iload_n 2, 1) := dk_28 dg_cX11_reach_856.2.1
theorem dX11_reach_32 : decode cX11_reach 32 = .ok (.if_icmp .eq 7, 3) := dk_159 dg_cX11_reach_856.2.2.1
theorem dX11_reach_35 : decode cX11_reach 35 = .ok (.iload_n 3, 1) := dk_29 dg_cX11_reach_856.2.2.2.1
theorem dX11_reach_36 : decode cX11_reach 36 = .ok (.ifCond .ne 5, 3) := dk_154 dg_cX11_reach_856.2.2.2.2.1
theorem dX11_reach_39 : decode cX11_reach 39 = .ok (.iconst (-1), 1) := dk_2 dg_cX11_reach_856.2.2.2.2.2.1
theorem dX11_reach_40 : decode cX11_reach 40 = .ok (.ireturn, 1) := dk_172 dg_cX11_reach_856.2.2.2.2.2.2.1
theorem dX11_reach_41 : decode cX11_reach 41 = .ok (.iconst 0, 1) := dk_3 dg_cX11_reach_856.2.2.2.2.2.2.2
theorem dg_cX11_reach_857 : ck2 cX11_reach 42 54 4 = true ∧ ck1 cX11_reach 44 3 = true ∧ ck2 cX11_reach 45 54 5 = true ∧ ck2 cX11_reach 47 21 5 = true ∧ ck1 cX11_reach 49 42 = true ∧ ck3 cX11_reach 50 180 390 = true ∧ ck3s cX11_reach 53 162 91 = true ∧ ck1 cX11_reach 56 3 = true := by decide +kernel
theorem dX11_reach_42 : decode cX11_reach 42 = .ok (.istore 4, 2) := dk_54 dg_cX11_reach_857.1
theorem dX11_reach_44 : decode cX11_reach 44 = .ok (.iconst 0, 1) := dk_3 dg_cX11_reach_857.2.1
theorem dX11_reach_45 : decode cX11_reach 45 = .ok (.istore 5, 2) := dk_54 dg_cX11_reach_857.2.2.1
theorem dX11_reach_47 : decode cX11_reach 47 = .ok (.iload 5, 2) := dk_21 dg_cX11_reach_857.2.2.2.1
theorem dX11_reach_49 : decode cX11_reach 49 = .ok (.aload_n 0, 1) := dk_42 dg_cX11_reach_857.2.2.2.2.1
theorem dX11_reach_50 : decode cX11_reach 50 = .ok (.getfield 390, 3) := dk_180 dg_cX11_reach_857.2.2.2.2.2.1
theorem dX11_reach_53 : decode cX11_reach 53 = .ok (.if_icmp .ge 91, 3) := dk_162 dg_cX11_reach_857.2.2.2.2.2.2.1
theorem dX11_reach_56 : decode cX11_reach 56 = .ok (.iconst 0, 1) := dk_3 dg_cX11_reach_857.2.2.2.2.2.2.2
theorem dg_cX11_reach_858 : ck2 cX11_reach 57 54 6 = true ∧ ck2 cX11_reach 59 21 6 = true ∧ ck1 cX11_reach 61 42 = true ∧ ck3 cX11_reach 62 180 390 = true := by decide +kernel
theorem dX11_reach_57 : decode cX11_reach 57 = .ok (.istore 6, 2) := dk_54 dg_cX11_reach_858.1
theorem dX11_reach_59 : decode cX11_reach 59 = .ok (.iload 6, 2) := dk_21 dg_cX11_reach_858.2.1
theorem dX11_reach_61 : decode cX11_reach 61 = .ok (.aload_n 0, 1) := dk_42 dg_cX11_reach_858.2.2.1
theorem dX11_reach_62 : decode cX11_reach 62 = .ok (.getfield 390, 3) := dk_180 dg_cX11_reach_858.2.2.2
def dS_cX11_reach_2 : List UInt8 := 158 :: 132 :: 4 :: 1 :: 132 :: 6 :: 1 :: 167 :: 255 :: 180 :: 132 :: 5 :: 1 :: 167 :: 255 :: 162 :: 21 :: 4 :: 172 :: []
def dS_cX11_reach_1 : List UInt8 := 134 :: 162 :: 0 :: 73 :: 29 :: 21 :: 5 :: 122 :: 4 :: 126 :: 153 :: 0 :: 58 :: 29 :: 21 :: 6 :: 122 :: 4 :: 126 :: 153 :: 0 :: 49 :: 42 :: 27 :: 28 :: 21 :: 5 :: 21 :: 6 :: 29 :: 182 :: 2 :: 2 :: 154 :: 0 :: 6 :: 167 :: 0 :: 32 :: 21 :: 4 :: 154 :: 0 :: 24 :: 42 :: 180 :: 0 :: 102 :: 3 :: 21 :: 5 :: 79 :: 42 :: 180 :: 0 :: 102 :: 4 :: 21 :: 6 :: 79 :: 42 :: 5 :: 181 :: 1 :: dS_cX11_reach_2
def dS_cX11_reach_0 : List UInt8 := 42 :: 3 :: 181 :: 1 :: 158 :: 42 :: 182 :: 1 :: 214 :: 42 :: 182 :: 1 :: 255 :: 62 :: 42 :: 27 :: 182 :: 1 :: 190 :: 153 :: 0 :: 20 :: 42 :: 28 :: 182 :: 1 :: 190 :: 153 :: 0 :: 12 :: 27 :: 28 :: 159 :: 0 :: 7 :: 29 :: 154 :: 0 :: 5 :: 2 :: 172 :: 3 :: 54 :: 4 :: 3 :: 54 :: 5 :: 21 :: 5 :: 42 :: 180 :: 1 :: 134 :: 162 :: 0 :: 91 :: 3 :: 54 :: 6 :: 21 :: 6 :: 42 :: 180 :: 1 :: dS_cX11_reach_1
theorem dT_cX11_reach_0 : cX11_reach.data.toList.drop 0 = dS_cX11_reach_0 := by decide +kernel
theorem dT_cX11_reach_1 : cX11_reach.data.toList.drop 64 = dS_cX11_reach_1 := ck_nx dT_cX11_reach_0 (by decide +kernel) rfl
theorem dT_cX11_reach_2 : cX11_reach.data.toList.drop 128 = dS_cX11_reach_2 := ck_nx dT_cX11_reach_1 (by decide +kernel) rfl
theorem dg_cX11_reach_859 : ck3sL dS_cX11_reach_1 1 162 73 = true ∧ ck1L dS_cX11_reach_1 4 29 = true ∧ ck2L dS_cX11_reach_1 5 21 5 = true ∧ ck1L dS_cX11_reach_1 7 122 = true ∧ ck1L dS_cX11_reach_1 8 4 = true ∧ ck1L dS_cX11_reach_1 9 126 = true ∧ ck3sL dS_cX11_reach_1 10 153 58 = true ∧ ck1L dS_cX11_reach_1 13 29 = true := by decide +kernel
theorem dX11_reach_65 : decode cX11_reach 65 = .ok (.if_icmp .ge 73, 3) := dk_162 (ck3s_s (r := 1) dT_cX11_reach_1 rfl dg_cX11_reach_859.1)
theorem dX11_reach_68 : decode cX11_reach 68 = .ok (.iload_n 3, 1) := dk_29 (ck1_s (r := 4) dT_cX11_reach_1 rfl dg_cX11_reach_859.2.1)
theorem dX11_reach_69 : decode cX11_reach 69 = .ok (.iload 5, 2) := dk_21 (ck2_s (r := 5) dT_cX11_reach_1 rfl dg_cX11_reach_859.2.2.1)
theorem dX11_reach_71 : decode cX11_reach 71 = .ok (.ishr, 1) := dk_122 (ck1_s (r := 7) dT_cX11_reach_1 rfl dg_cX11_reach_859.2.2.2.1)
theorem dX11_reach_72 : decode cX11_reach 72 = .ok (.iconst 1, 1) := dk_4 (ck1_s (r := 8) dT_cX11_reach_1 rfl dg_cX11_reach_859.2.2.2.2.1)
theorem dX11_reach_73 : decode cX11_reach 73 = .ok (.iand, 1) := dk_126 (ck1_s (r := 9) dT_cX11_reach_1 rfl dg_cX11_reach_859.2.2.2.2.2.1)
theorem dX11_reach_74 : decode cX11_reach 74 = .ok (.ifCond .eq 58, 3) := dk_153 (ck3s_s (r := 10) dT_cX11_reach_1 rfl dg_cX11_reach_859.2.2.2.2.2.2.1)
theorem dX11_reach_77 : decode cX11_reach 77 = .ok (.iload_n 3, 1) := dk_29 (ck1_s (r := 13) dT_cX11_reach_1 rfl dg_cX11_reach_859.2.2.2.2.2.2.2)
theorem dg_cX11_reach_860 : ck2L dS_cX11_reach_1 14 21 6 = true ∧ ck1L dS_cX11_reach_1 16 122 = true ∧ ck1L dS_cX11_reach_1 17 4 = true ∧ ck1L dS_cX11_reach_1 18 126 = true ∧ ck3sL dS_cX11_reach_1 19 153 49 = true ∧ ck1L dS_cX11_reach_1 22 42 = true ∧ ck1L dS_cX11_reach_1 23 27 = true ∧ ck1L dS_cX11_reach_1 24 28 = true := by decide +kernel
theorem dX11_reach_78 : decode cX11_reach 78 = .ok (.iload 6, 2) := dk_21 (ck2_s (r := 14) dT_cX11_reach_1 rfl dg_cX11_reach_860.1)
theorem dX11_reach_80 : decode cX11_reach 80 = .ok (.ishr, 1) := dk_122 (ck1_s (r := 16) dT_cX11_reach_1 rfl dg_cX11_reach_860.2.1)
theorem dX11_reach_81 : decode cX11_reach 81 = .ok (.iconst 1, 1) := dk_4 (ck1_s (r := 17) dT_cX11_reach_1 rfl dg_cX11_reach_860.2.2.1)
theorem dX11_reach_82 : decode cX11_reach 82 = .ok (.iand, 1) := dk_126 (ck1_s (r := 18) dT_cX11_reach_1 rfl dg_cX11_reach_860.2.2.2.1)
theorem dX11_reach_83 : decode cX11_reach 83 = .ok (.ifCond .eq 49, 3) := dk_153 (ck3s_s (r := 19) dT_cX11_reach_1 rfl dg_cX11_reach_860.2.2.2.2.1)
theorem dX11_reach_86 : decode cX11_reach 86 = .ok (.aload_n 0, 1) := dk_42 (ck1_s (r := 22) dT_cX11_reach_1 rfl dg_cX11_reach_860.2.2.2.2.2.1)
theorem dX11_reach_87 : decode cX11_reach 87 = .ok (.iload_n 1, 1) := dk_27 (ck1_s (r := 23) dT_cX11_reach_1 rfl dg_cX11_reach_860.2.2.2.2.2.2.1)
theorem dX11_reach_88 : decode cX11_reach 88 = .ok (.iload_n 2, 1) := dk_28 (ck1_s (r := 24) dT_cX11_reach_1 rfl dg_cX11_reach_860.2.2.2.2.2.2.2)
theorem dg_cX11_reach_861 : ck2L dS_cX11_reach_1 25 21 5 = true ∧ ck2L dS_cX11_reach_1 27 21 6 = true ∧ ck1L dS_cX11_reach_1 29 29 = true ∧ ck3L dS_cX11_reach_1 30 182 514 = true ∧ ck3sL dS_cX11_reach_1 33 154 6 = true ∧ ck3sL dS_cX11_reach_1 36 167 32 = true ∧ ck2L dS_cX11_reach_1 39 21 4 = true ∧ ck3sL dS_cX11_reach_1 41 154 24 = true := by decide +kernel
theorem dX11_reach_89 : decode cX11_reach 89 = .ok (.iload 5, 2) := dk_21 (ck2_s (r := 25) dT_cX11_reach_1 rfl dg_cX11_reach_861.1)
theorem dX11_reach_91 : decode cX11_reach 91 = .ok (.iload 6, 2) := dk_21 (ck2_s (r := 27) dT_cX11_reach_1 rfl dg_cX11_reach_861.2.1)
theorem dX11_reach_93 : decode cX11_reach 93 = .ok (.iload_n 3, 1) := dk_29 (ck1_s (r := 29) dT_cX11_reach_1 rfl dg_cX11_reach_861.2.2.1)
theorem dX11_reach_94 : decode cX11_reach 94 = .ok (.invokevirtual 514, 3) := dk_182 (ck3_s (r := 30) dT_cX11_reach_1 rfl dg_cX11_reach_861.2.2.2.1)
theorem dX11_reach_97 : decode cX11_reach 97 = .ok (.ifCond .ne 6, 3) := dk_154 (ck3s_s (r := 33) dT_cX11_reach_1 rfl dg_cX11_reach_861.2.2.2.2.1)
theorem dX11_reach_100 : decode cX11_reach 100 = .ok (.goto 32, 3) := dk_167 (ck3s_s (r := 36) dT_cX11_reach_1 rfl dg_cX11_reach_861.2.2.2.2.2.1)
theorem dX11_reach_103 : decode cX11_reach 103 = .ok (.iload 4, 2) := dk_21 (ck2_s (r := 39) dT_cX11_reach_1 rfl dg_cX11_reach_861.2.2.2.2.2.2.1)
theorem dX11_reach_105 : decode cX11_reach 105 = .ok (.ifCond .ne 24, 3) := dk_154 (ck3s_s (r := 41) dT_cX11_reach_1 rfl dg_cX11_reach_861.2.2.2.2.2.2.2)
theorem dg_cX11_reach_862 : ck1L dS_cX11_reach_1 44 42 = true ∧ ck3L dS_cX11_reach_1 45 180 102 = true ∧ ck1L dS_cX11_reach_1 48 3 = true ∧ ck2L dS_cX11_reach_1 49 21 5 = true ∧ ck1L dS_cX11_reach_1 51 79 = true ∧ ck1L dS_cX11_reach_1 52 42 = true ∧ ck3L dS_cX11_reach_1 53 180 102 = true ∧ ck1L dS_cX11_reach_1 56 4 = true := by decide +kernel
theorem dX11_reach_108 : decode cX11_reach 108 = .ok (.aload_n 0, 1) := dk_42 (ck1_s (r := 44) dT_cX11_reach_1 rfl dg_cX11_reach_862.1)
theorem dX11_reach_109 : decode cX11_reach 109 = .ok (.getfield 102, 3) := dk_180 (ck3_s (r := 45) dT_cX11_reach_1 rfl dg_cX11_reach_862.2.1)
theorem dX11_reach_112 : decode cX11_reach 112 = .ok (.iconst 0, 1) := dk_3 (ck1_s (r := 48) dT_cX11_reach_1 rfl dg_cX11_reach_862.2.2.1)
theorem dX11_reach_113 : decode cX11_reach 113 = .ok (.iload 5, 2) := dk_21 (ck2_s (r := 49) dT_cX11_reach_1 rfl dg_cX11_reach_862.2.2.2.1)
theorem dX11_reach_115 : decode cX11_reach 115 = .ok (.iastore, 1) := dk_79 (ck1_s (r := 51) dT_cX11_reach_1 rfl dg_cX11_reach_862.2.2.2.2.1)
theorem dX11_reach_116 : decode cX11_reach 116 = .ok (.aload_n 0, 1) := dk_42 (ck1_s (r := 52) dT_cX11_reach_1 rfl dg_cX11_reach_862.2.2.2.2.2.1)
theorem dX11_reach_117 : decode cX11_reach 117 = .ok (.getfield 102, 3) := dk_180 (ck3_s (r := 53) dT_cX11_reach_1 rfl dg_cX11_reach_862.2.2.2.2.2.2.1)
theorem dX11_reach_120 : decode cX11_reach 120 = .ok (.iconst 1, 1) := dk_4 (ck1_s (r := 56) dT_cX11_reach_1 rfl dg_cX11_reach_862.2.2.2.2.2.2.2)
theorem dg_cX11_reach_863 : ck2L dS_cX11_reach_1 57 21 6 = true ∧ ck1L dS_cX11_reach_1 59 79 = true ∧ ck1L dS_cX11_reach_1 60 42 = true ∧ ck1L dS_cX11_reach_1 61 5 = true ∧ ck3L dS_cX11_reach_1 62 181 414 = true ∧ ck3iL dS_cX11_reach_2 1 132 4 1 = true ∧ ck3iL dS_cX11_reach_2 4 132 6 1 = true ∧ ck3sL dS_cX11_reach_2 7 167 (-76) = true := by decide +kernel
theorem dX11_reach_121 : decode cX11_reach 121 = .ok (.iload 6, 2) := dk_21 (ck2_s (r := 57) dT_cX11_reach_1 rfl dg_cX11_reach_863.1)
theorem dX11_reach_123 : decode cX11_reach 123 = .ok (.iastore, 1) := dk_79 (ck1_s (r := 59) dT_cX11_reach_1 rfl dg_cX11_reach_863.2.1)
theorem dX11_reach_124 : decode cX11_reach 124 = .ok (.aload_n 0, 1) := dk_42 (ck1_s (r := 60) dT_cX11_reach_1 rfl dg_cX11_reach_863.2.2.1)
theorem dX11_reach_125 : decode cX11_reach 125 = .ok (.iconst 2, 1) := dk_5 (ck1_s (r := 61) dT_cX11_reach_1 rfl dg_cX11_reach_863.2.2.2.1)
theorem dX11_reach_126 : decode cX11_reach 126 = .ok (.putfield 414, 3) := dk_181 (ck3_s (r := 62) dT_cX11_reach_1 rfl dg_cX11_reach_863.2.2.2.2.1)
theorem dX11_reach_129 : decode cX11_reach 129 = .ok (.iinc 4 1, 3) := dk_132 (ck3i_s (r := 1) dT_cX11_reach_2 rfl dg_cX11_reach_863.2.2.2.2.2.1)
theorem dX11_reach_132 : decode cX11_reach 132 = .ok (.iinc 6 1, 3) := dk_132 (ck3i_s (r := 4) dT_cX11_reach_2 rfl dg_cX11_reach_863.2.2.2.2.2.2.1)
theorem dX11_reach_135 : decode cX11_reach 135 = .ok (.goto (-76), 3) := dk_167 (ck3s_s (r := 7) dT_cX11_reach_2 rfl dg_cX11_reach_863.2.2.2.2.2.2.2)
theorem dg_cX11_reach_864 : ck3iL dS_cX11_reach_2 10 132 5 1 = true ∧ ck3sL dS_cX11_reach_2 13 167 (-94) = true ∧ ck2L dS_cX11_reach_2 16 21 4 = true ∧ ck1L dS_cX11_reach_2 18 172 = true := by decide +kernel
theorem dX11_reach_138 : decode cX11_reach 138 = .ok (.iinc 5 1, 3) := dk_132 (ck3i_s (r := 10) dT_cX11_reach_2 rfl dg_cX11_reach_864.1)
theorem dX11_reach_141 : decode cX11_reach 141 = .ok (.goto (-94), 3) := dk_167 (ck3s_s (r := 13) dT_cX11_reach_2 rfl dg_cX11_reach_864.2.1)
theorem dX11_reach_144 : decode cX11_reach 144 = .ok (.iload 4, 2) := dk_21 (ck2_s (r := 16) dT_cX11_reach_2 rfl dg_cX11_reach_864.2.2.1)
theorem dX11_reach_146 : decode cX11_reach 146 = .ok (.ireturn, 1) := dk_172 (ck1_s (r := 18) dT_cX11_reach_2 rfl dg_cX11_reach_864.2.2.2)
theorem dg_cX11_reached_865 : ck1 cX11_reached 0 28 = true ∧ ck1 cX11_reached 1 29 = true ∧ ck3s cX11_reached 2 160 9 = true ∧ ck3s cX11_reached 5 17 1000 = true ∧ ck3s cX11_reached 8 167 14 = true ∧ ck1 cX11_reached 11 42 = true ∧ ck3 cX11_reached 12 180 108 = true ∧ ck2s cX11_reached 15 16 6 = true := by decide +kernel
theorem dX11_reached_0 : decode cX11_reached 0 = .ok (.iload_n 2, 1) := dk_28 dg_cX11_reached_865.1
theorem dX11_reached_1 : decode cX11_reached 1 = .ok (.iload_n 3, 1) := dk_29 dg_cX11_reached_865.2.1
theorem dX11_reached_2 : decode cX11_reached 2 = .ok (.if_icmp .ne 9, 3) := dk_160 dg_cX11_reached_865.2.2.1
theorem dX11_reached_5 : decode cX11_reached 5 = .ok (.sipush 1000, 3) := dk_17 dg_cX11_reached_865.2.2.2.1
theorem dX11_reached_8 : decode cX11_reached 8 = .ok (.goto 14, 3) := dk_167 dg_cX11_reached_865.2.2.2.2.1
theorem dX11_reached_11 : decode cX11_reached 11 = .ok (.aload_n 0, 1) := dk_42 dg_cX11_reached_865.2.2.2.2.2.1
theorem dX11_reached_12 : decode cX11_reached 12 = .ok (.getfield 108, 3) := dk_180 dg_cX11_reached_865.2.2.2.2.2.2.1
theorem dX11_reached_15 : decode cX11_reached 15 = .ok (.bipush 6, 2) := dk_16 dg_cX11_reached_865.2.2.2.2.2.2.2
theorem dg_cX11_reached_866 : ck1 cX11_reached 17 27 = true ∧ ck1 cX11_reached 18 104 = true ∧ ck1 cX11_reached 19 28 = true ∧ ck1 cX11_reached 20 96 = true ∧ ck1 cX11_reached 21 46 = true ∧ ck1 cX11_reached 22 172 = true := by decide +kernel
theorem dX11_reached_17 : decode cX11_reached 17 = .ok (.iload_n 1, 1) := dk_27 dg_cX11_reached_866.1
theorem dX11_reached_18 : decode cX11_reached 18 = .ok (.imul, 1) := dk_104 dg_cX11_reached_866.2.1
theorem dX11_reached_19 : decode cX11_reached 19 = .ok (.iload_n 2, 1) := dk_28 dg_cX11_reached_866.2.2.1
theorem dX11_reached_20 : decode cX11_reached 20 = .ok (.iadd, 1) := dk_96 dg_cX11_reached_866.2.2.2.1
theorem dX11_reached_21 : decode cX11_reached 21 = .ok (.iaload, 1) := dk_46 dg_cX11_reached_866.2.2.2.2.1
theorem dX11_reached_22 : decode cX11_reached 22 = .ok (.ireturn, 1) := dk_172 dg_cX11_reached_866.2.2.2.2.2
theorem dg_cX11_readAll_867 : ck1 cX11_readAll 0 42 = true ∧ ck1 cX11_readAll 1 42 = true ∧ ck3 cX11_readAll 2 180 139 = true ∧ ck3 cX11_readAll 5 181 149 = true ∧ ck1 cX11_readAll 8 42 = true ∧ ck1 cX11_readAll 9 3 = true ∧ ck3 cX11_readAll 10 181 139 = true ∧ ck1 cX11_readAll 13 42 = true := by decide +kernel
theorem dX11_readAll_0 : decode cX11_readAll 0 = .ok (.aload_n 0, 1) := dk_42 dg_cX11_readAll_867.1
theorem dX11_readAll_1 : decode cX11_readAll 1 = .ok (.aload_n 0, 1) := dk_42 dg_cX11_readAll_867.2.1
theorem dX11_readAll_2 : decode cX11_readAll 2 = .ok (.getfield 139, 3) := dk_180 dg_cX11_readAll_867.2.2.1
theorem dX11_readAll_5 : decode cX11_readAll 5 = .ok (.putfield 149, 3) := dk_181 dg_cX11_readAll_867.2.2.2.1
theorem dX11_readAll_8 : decode cX11_readAll 8 = .ok (.aload_n 0, 1) := dk_42 dg_cX11_readAll_867.2.2.2.2.1
theorem dX11_readAll_9 : decode cX11_readAll 9 = .ok (.iconst 0, 1) := dk_3 dg_cX11_readAll_867.2.2.2.2.2.1
theorem dX11_readAll_10 : decode cX11_readAll 10 = .ok (.putfield 139, 3) := dk_181 dg_cX11_readAll_867.2.2.2.2.2.2.1
theorem dX11_readAll_13 : decode cX11_readAll 13 = .ok (.aload_n 0, 1) := dk_42 dg_cX11_readAll_867.2.2.2.2.2.2.2
theorem dg_cX11_readAll_868 : ck1 cX11_readAll 14 3 = true ∧ ck3 cX11_readAll 15 181 146 = true ∧ ck1 cX11_readAll 18 42 = true ∧ ck1 cX11_readAll 19 3 = true ∧ ck3 cX11_readAll 20 181 179 = true ∧ ck1 cX11_readAll 23 42 = true ∧ ck1 cX11_readAll 24 2 = true ∧ ck3 cX11_readAll 25 181 13 = true := by decide +kernel
theorem dX11_readAll_14 : decode cX11_readAll 14 = .ok (.iconst 0, 1) := dk_3 dg_cX11_readAll_868.1
theorem dX11_readAll_15 : decode cX11_readAll 15 = .ok (.putfield 146, 3) := dk_181 dg_cX11_readAll_868.2.1
theorem dX11_readAll_18 : decode cX11_readAll 18 = .ok (.aload_n 0, 1) := dk_42 dg_cX11_readAll_868.2.2.1
theorem dX11_readAll_19 : decode cX11_readAll 19 = .ok (.iconst 0, 1) := dk_3 dg_cX11_readAll_868.2.2.2.1
theorem dX11_readAll_20 : decode cX11_readAll 20 = .ok (.putfield 179, 3) := dk_181 dg_cX11_readAll_868.2.2.2.2.1
theorem dX11_readAll_23 : decode cX11_readAll 23 = .ok (.aload_n 0, 1) := dk_42 dg_cX11_readAll_868.2.2.2.2.2.1
theorem dX11_readAll_24 : decode cX11_readAll 24 = .ok (.iconst (-1), 1) := dk_2 dg_cX11_readAll_868.2.2.2.2.2.2.1
theorem dX11_readAll_25 : decode cX11_readAll 25 = .ok (.putfield 13, 3) := dk_181 dg_cX11_readAll_868.2.2.2.2.2.2.2
theorem dg_cX11_readAll_869 : ck1 cX11_readAll 28 42 = true ∧ ck1 cX11_readAll 29 3 = true ∧ ck3 cX11_readAll 30 181 330 = true ∧ ck1 cX11_readAll 33 42 = true ∧ ck1 cX11_readAll 34 3 = true ∧ ck3 cX11_readAll 35 181 339 = true ∧ ck1 cX11_readAll 38 42 = true ∧ ck2s cX11_readAll 39 16 10 = true := by decide +kernel
theorem dX11_readAll_28 : decode cX11_readAll 28 = .ok (.aload_n 0, 1) := dk_42 dg_cX11_readAll_869.1
theorem dX11_readAll_29 : decode cX11_readAll 29 = .ok (.iconst 0, 1) := dk_3 dg_cX11_readAll_869.2.1
theorem dX11_readAll_30 : decode cX11_readAll 30 = .ok (.putfield 330, 3) := dk_181 dg_cX11_readAll_869.2.2.1
theorem dX11_readAll_33 : decode cX11_readAll 33 = .ok (.aload_n 0, 1) := dk_42 dg_cX11_readAll_869.2.2.2.1
theorem dX11_readAll_34 : decode cX11_readAll 34 = .ok (.iconst 0, 1) := dk_3 dg_cX11_readAll_869.2.2.2.2.1
theorem dX11_readAll_35 : decode cX11_readAll 35 = .ok (.putfield 339, 3) := dk_181 dg_cX11_readAll_869.2.2.2.2.2.1
theorem dX11_readAll_38 : decode cX11_readAll 38 = .ok (.aload_n 0, 1) := dk_42 dg_cX11_readAll_869.2.2.2.2.2.2.1
theorem dX11_readAll_39 : decode cX11_readAll 39 = .ok (.bipush 10, 2) := dk_16 dg_cX11_readAll_869.2.2.2.2.2.2.2
theorem dg_cX11_readAll_870 : ck3 cX11_readAll 41 181 354 = true ∧ ck1 cX11_readAll 44 42 = true ∧ ck3s cX11_readAll 45 17 150 = true ∧ ck3 cX11_readAll 48 181 360 = true ∧ ck1 cX11_readAll 51 42 = true ∧ ck1 cX11_readAll 52 5 = true ∧ ck3 cX11_readAll 53 181 366 = true ∧ ck1 cX11_readAll 56 42 = true := by decide +kernel
theorem dX11_readAll_41 : decode cX11_readAll 41 = .ok (.putfield 354, 3) := dk_181 dg_cX11_readAll_870.1
theorem dX11_readAll_44 : decode cX11_readAll 44 = .ok (.aload_n 0, 1) := dk_42 dg_cX11_readAll_870.2.1
theorem dX11_readAll_45 : decode cX11_readAll 45 = .ok (.sipush 150, 3) := dk_17 dg_cX11_readAll_870.2.2.1
theorem dX11_readAll_48 : decode cX11_readAll 48 = .ok (.putfield 360, 3) := dk_181 dg_cX11_readAll_870.2.2.2.1
theorem dX11_readAll_51 : decode cX11_readAll 51 = .ok (.aload_n 0, 1) := dk_42 dg_cX11_readAll_870.2.2.2.2.1
theorem dX11_readAll_52 : decode cX11_readAll 52 = .ok (.iconst 2, 1) := dk_5 dg_cX11_readAll_870.2.2.2.2.2.1
theorem dX11_readAll_53 : decode cX11_readAll 53 = .ok (.putfield 366, 3) := dk_181 dg_cX11_readAll_870.2.2.2.2.2.2.1
theorem dX11_readAll_56 : decode cX11_readAll 56 = .ok (.aload_n 0, 1) := dk_42 dg_cX11_readAll_870.2.2.2.2.2.2.2
theorem dg_cX11_readAll_871 : ck1 cX11_readAll 57 3 = true ∧ ck3 cX11_readAll 58 181 372 = true ∧ ck1 cX11_readAll 61 42 = true ∧ ck1 cX11_readAll 62 3 = true ∧ ck3 cX11_readAll 63 181 378 = true := by decide +kernel
theorem dX11_readAll_57 : decode cX11_readAll 57 = .ok (.iconst 0, 1) := dk_3 dg_cX11_readAll_871.1
theorem dX11_readAll_58 : decode cX11_readAll 58 = .ok (.putfield 372, 3) := dk_181 dg_cX11_readAll_871.2.1
theorem dX11_readAll_61 : decode cX11_readAll 61 = .ok (.aload_n 0, 1) := dk_42 dg_cX11_readAll_871.2.2.1
theorem dX11_readAll_62 : decode cX11_readAll 62 = .ok (.iconst 0, 1) := dk_3 dg_cX11_readAll_871.2.2.2.1
theorem dX11_readAll_63 : decode cX11_readAll 63 = .ok (.putfield 378, 3) := dk_181 dg_cX11_readAll_871.2.2.2.2
def dS_cX11_readAll_1 : List UInt8 := 1 :: 122 :: 42 :: 3 :: 181 :: 1 :: 95 :: 42 :: 3 :: 181 :: 1 :: 101 :: 42 :: 3 :: 181 :: 1 :: 107 :: 42 :: 3 :: 181 :: 1 :: 113 :: 42 :: 3 :: 181 :: 1 :: 119 :: 42 :: 3 :: 181 :: 1 :: 35 :: 42 :: 3 :: 181 :: 1 :: 13 :: 42 :: 182 :: 0 :: 235 :: 42 :: 180 :: 0 :: 179 :: 154 :: 0 :: 17 :: 42 :: 180 :: 0 :: 166 :: 153 :: 0 :: 10 :: 42 :: 182 :: 1 :: 125 :: 167 :: 255 :: 238 :: 177 :: []
def dS_cX11_readAll_0 : List UInt8 := 42 :: 42 :: 180 :: 0 :: 139 :: 181 :: 0 :: 149 :: 42 :: 3 :: 181 :: 0 :: 139 :: 42 :: 3 :: 181 :: 0 :: 146 :: 42 :: 3 :: 181 :: 0 :: 179 :: 42 :: 2 :: 181 :: 0 :: 13 :: 42 :: 3 :: 181 :: 1 :: 74 :: 42 :: 3 :: 181 :: 1 :: 83 :: 42 :: 16 :: 10 :: 181 :: 1 :: 98 :: 42 :: 17 :: 0 :: 150 :: 181 :: 1 :: 104 :: 42 :: 5 :: 181 :: 1 :: 110 :: 42 :: 3 :: 181 :: 1 :: 116 :: 42 :: 3 :: 181 :: dS_cX11_readAll_1
theorem dT_cX11_readAll_0 : cX11_readAll.data.toList.drop 0 = dS_cX11_readAll_0 := by decide +kernel
theorem dT_cX11_readAll_1 : cX11_readAll.data.toList.drop 64 = dS_cX11_readAll_1 := ck_nx dT_cX11_readAll_0 (by decide +kernel) rfl
theorem dg_cX11_readAll_872 : ck1L dS_cX11_readAll_1 2 42 = true ∧ ck1L dS_cX11_readAll_1 3 3 = true ∧ ck3L dS_cX11_readAll_1 4 181 351 = true ∧ ck1L dS_cX11_readAll_1 7 42 = true ∧ ck1L dS_cX11_readAll_1 8 3 = true ∧ ck3L dS_cX11_readAll_1 9 181 357 = true ∧ ck1L dS_cX11_readAll_1 12 42 = true ∧ ck1L dS_cX11_readAll_1 13 3 = true := by decide +kernel
theorem dX11_readAll_66 : decode cX11_readAll 66 = .ok (.aload_n 0, 1) := dk_42 (ck1_s (r := 2) dT_cX11_readAll_1 rfl dg_cX11_readAll_872.1)
theorem dX11_readAll_67 : decode cX11_readAll 67 = .ok (.iconst 0, 1) := dk_3 (ck1_s (r := 3) dT_cX11_readAll_1 rfl dg_cX11_readAll_872.2.1)
theorem dX11_readAll_68 : decode cX11_readAll 68 = .ok (.putfield 351, 3) := dk_181 (ck3_s (r := 4) dT_cX11_readAll_1 rfl dg_cX11_readAll_872.2.2.1)
theorem dX11_readAll_71 : decode cX11_readAll 71 = .ok (.aload_n 0, 1) := dk_42 (ck1_s (r := 7) dT_cX11_readAll_1 rfl dg_cX11_readAll_872.2.2.2.1)
theorem dX11_readAll_72 : decode cX11_readAll 72 = .ok (.iconst 0, 1) := dk_3 (ck1_s (r := 8) dT_cX11_readAll_1 rfl dg_cX11_readAll_872.2.2.2.2.1)
theorem dX11_readAll_73 : decode cX11_readAll 73 = .ok (.putfield 357, 3) := dk_181 (ck3_s (r := 9) dT_cX11_readAll_1 rfl dg_cX11_readAll_872.2.2.2.2.2.1)
theorem dX11_readAll_76 : decode cX11_readAll 76 = .ok (.aload_n 0, 1) := dk_42 (ck1_s (r := 12) dT_cX11_readAll_1 rfl dg_cX11_readAll_872.2.2.2.2.2.2.1)
theorem dX11_readAll_77 : decode cX11_readAll 77 = .ok (.iconst 0, 1) := dk_3 (ck1_s (r := 13) dT_cX11_readAll_1 rfl dg_cX11_readAll_872.2.2.2.2.2.2.2)
theorem dg_cX11_readAll_873 : ck3L dS_cX11_readAll_1 14 181 363 = true ∧ ck1L dS_cX11_readAll_1 17 42 = true ∧ ck1L dS_cX11_readAll_1 18 3 = true ∧ ck3L dS_cX11_readAll_1 19 181 369 = true ∧ ck1L dS_cX11_readAll_1 22 42 = true ∧ ck1L dS_cX11_readAll_1 23 3 = true ∧ ck3L dS_cX11_readAll_1 24 181 375 = true ∧ ck1L dS_cX11_readAll_1 27 42 = true := by decide +kernel
theorem dX11_readAll_78 : decode cX11_readAll 78 = .ok (.putfield 363, 3) := dk_181 (ck3_s (r := 14) dT_cX11_readAll_1 rfl dg_cX11_readAll_873.1)
theorem dX11_readAll_81 : decode cX11_readAll 81 = .ok (.aload_n 0, 1) := dk_42 (ck1_s (r := 17) dT_cX11_readAll_1 rfl dg_cX11_readAll_873.2.1)
theorem dX11_readAll_82 : decode cX11_readAll 82 = .ok (.iconst 0, 1) := dk_3 (ck1_s (r := 18) dT_cX11_readAll_1 rfl dg_cX11_readAll_873.2.2.1)
theorem dX11_readAll_83 : decode cX11_readAll 83 = .ok (.putfield 369, 3) := dk_181 (ck3_s (r := 19) dT_cX11_readAll_1 rfl dg_cX11_readAll_873.2.2.2.1)
theorem dX11_readAll_86 : decode cX11_readAll 86 = .ok (.aload_n 0, 1) := dk_42 (ck1_s (r := 22) dT_cX11_readAll_1 rfl dg_cX11_readAll_873.2.2.2.2.1)
theorem dX11_readAll_87 : decode cX11_readAll 87 = .ok (.iconst 0, 1) := dk_3 (ck1_s (r := 23) dT_cX11_readAll_1 rfl dg_cX11_readAll_873.2.2.2.2.2.1)
theorem dX11_readAll_88 : decode cX11_readAll 88 = .ok (.putfield 375, 3) := dk_181 (ck3_s (r := 24) dT_cX11_readAll_1 rfl dg_cX11_readAll_873.2.2.2.2.2.2.1)
theorem dX11_readAll_91 : decode cX11_readAll 91 = .ok (.aload_n 0, 1) := dk_42 (ck1_s (r := 27) dT_cX11_readAll_1 rfl dg_cX11_readAll_873.2.2.2.2.2.2.2)
theorem dg_cX11_readAll_874 : ck1L dS_cX11_readAll_1 28 3 = true ∧ ck3L dS_cX11_readAll_1 29 181 291 = true ∧ ck1L dS_cX11_readAll_1 32 42 = true ∧ ck1L dS_cX11_readAll_1 33 3 = true ∧ ck3L dS_cX11_readAll_1 34 181 269 = true ∧ ck1L dS_cX11_readAll_1 37 42 = true ∧ ck3L dS_cX11_readAll_1 38 182 235 = true ∧ ck1L dS_cX11_readAll_1 41 42 = true := by decide +kernel
theorem dX11_readAll_92 : decode cX11_readAll 92 = .ok (.iconst 0, 1) := dk_3 (ck1_s (r := 28) dT_cX11_readAll_1 rfl dg_cX11_readAll_874.1)
theorem dX11_readAll_93 : decode cX11_readAll 93 = .ok (.putfield 291, 3) := dk_181 (ck3_s (r := 29) dT_cX11_readAll_1 rfl dg_cX11_readAll_874.2.1)
theorem dX11_readAll_96 : decode cX11_readAll 96 = .ok (.aload_n 0, 1) := dk_42 (ck1_s (r := 32) dT_cX11_readAll_1 rfl dg_cX11_readAll_874.2.2.1)
theorem dX11_readAll_97 : decode cX11_readAll 97 = .ok (.iconst 0, 1) := dk_3 (ck1_s (r := 33) dT_cX11_readAll_1 rfl dg_cX11_readAll_874.2.2.2.1)
theorem dX11_readAll_98 : decode cX11_readAll 98 = .ok (.putfield 269, 3) := dk_181 (ck3_s (r := 34) dT_cX11_readAll_1 rfl dg_cX11_readAll_874.2.2.2.2.1)
theorem dX11_readAll_101 : decode cX11_readAll 101 = .ok (.aload_n 0, 1) := dk_42 (ck1_s (r := 37) dT_cX11_readAll_1 rfl dg_cX11_readAll_874.2.2.2.2.2.1)
theorem dX11_readAll_102 : decode cX11_readAll 102 = .ok (.invokevirtual 235, 3) := dk_182 (ck3_s (r := 38) dT_cX11_readAll_1 rfl dg_cX11_readAll_874.2.2.2.2.2.2.1)
theorem dX11_readAll_105 : decode cX11_readAll 105 = .ok (.aload_n 0, 1) := dk_42 (ck1_s (r := 41) dT_cX11_readAll_1 rfl dg_cX11_readAll_874.2.2.2.2.2.2.2)
theorem dg_cX11_readAll_875 : ck3L dS_cX11_readAll_1 42 180 179 = true ∧ ck3sL dS_cX11_readAll_1 45 154 17 = true ∧ ck1L dS_cX11_readAll_1 48 42 = true ∧ ck3L dS_cX11_readAll_1 49 180 166 = true ∧ ck3sL dS_cX11_readAll_1 52 153 10 = true ∧ ck1L dS_cX11_readAll_1 55 42 = true ∧ ck3L dS_cX11_readAll_1 56 182 381 = true ∧ ck3sL dS_cX11_readAll_1 59 167 (-18) = true := by decide +kernel
theorem dX11_readAll_106 : decode cX11_readAll 106 = .ok (.getfield 179, 3) := dk_180 (ck3_s (r := 42) dT_cX11_readAll_1 rfl dg_cX11_readAll_875.1)
theorem dX11_readAll_109 : decode cX11_readAll 109 = .ok (.ifCond .ne 17, 3) := dk_154 (ck3s_s (r := 45) dT_cX11_readAll_1 rfl dg_cX11_readAll_875.2.1)
theorem dX11_readAll_112 : decode cX11_readAll 112 = .ok (.aload_n 0, 1) := dk_42 (ck1_s (r := 48) dT_cX11_readAll_1 rfl dg_cX11_readAll_875.2.2.1)
theorem dX11_readAll_113 : decode cX11_readAll 113 = .ok (.getfield 166, 3) := dk_180 (ck3_s (r := 49) dT_cX11_readAll_1 rfl dg_cX11_readAll_875.2.2.2.1)
theorem dX11_readAll_116 : decode cX11_readAll 116 = .ok (.ifCond .eq 10, 3) := dk_153 (ck3s_s (r := 52) dT_cX11_readAll_1 rfl dg_cX11_readAll_875.2.2.2.2.1)
theorem dX11_readAll_119 : decode cX11_readAll 119 = .ok (.aload_n 0, 1) := dk_42 (ck1_s (r := 55) dT_cX11_readAll_1 rfl dg_cX11_readAll_875.2.2.2.2.2.1)
theorem dX11_readAll_120 : decode cX11_readAll 120 = .ok (.invokevirtual 381, 3) := dk_182 (ck3_s (r := 56) dT_cX11_readAll_1 rfl dg_cX11_readAll_875.2.2.2.2.2.2.1)
theorem dX11_readAll_123 : decode cX11_readAll 123 = .ok (.goto (-18), 3) := dk_167 (ck3s_s (r := 59) dT_cX11_readAll_1 rfl dg_cX11_readAll_875.2.2.2.2.2.2.2)
theorem dg_cX11_readAll_876 : ck1L dS_cX11_readAll_1 62 177 = true := by decide +kernel
theorem dX11_readAll_126 : decode cX11_readAll 126 = .ok (.return_, 1) := dk_177 (ck1_s (r := 62) dT_cX11_readAll_1 rfl dg_cX11_readAll_876)
theorem dg_cX11_readCoat_877 : ck1 cX11_readCoat 0 42 = true ∧ ck2s cX11_readCoat 1 16 6 = true ∧ ck1 cX11_readCoat 3 42 = true ∧ ck3 cX11_readCoat 4 180 339 = true ∧ ck3 cX11_readCoat 7 182 333 = true ∧ ck1 cX11_readCoat 10 42 = true ∧ ck3 cX11_readCoat 11 180 51 = true ∧ ck1 cX11_readCoat 14 42 = true := by decide +kernel
theorem dX11_readCoat_0 : decode cX11_readCoat 0 = .ok (.aload_n 0, 1) := dk_42 dg_cX11_readCoat_877.1
theorem dX11_readCoat_1 : decode cX11_readCoat 1 = .ok (.bipush 6, 2) := dk_16 dg_cX11_readCoat_877.2.1
theorem dX11_readCoat_3 : decode cX11_readCoat 3 = .ok (.aload_n 0, 1) := dk_42 dg_cX11_readCoat_877.2.2.1
theorem dX11_readCoat_4 : decode cX11_readCoat 4 = .ok (.getfield 339, 3) := dk_180 dg_cX11_readCoat_877.2.2.2.1
theorem dX11_readCoat_7 : decode cX11_readCoat 7 = .ok (.invokevirtual 333, 3) := dk_182 dg_cX11_readCoat_877.2.2.2.2.1
theorem dX11_readCoat_10 : decode cX11_readCoat 10 = .ok (.aload_n 0, 1) := dk_42 dg_cX11_readCoat_877.2.2.2.2.2.1
theorem dX11_readCoat_11 : decode cX11_readCoat 11 = .ok (.getfield 51, 3) := dk_180 dg_cX11_readCoat_877.2.2.2.2.2.2.1
theorem dX11_readCoat_14 : decode cX11_readCoat 14 = .ok (.aload_n 0, 1) := dk_42 dg_cX11_readCoat_877.2.2.2.2.2.2.2
theorem dg_cX11_readCoat_878 : ck3 cX11_readCoat 15 180 339 = true ∧ ck1 cX11_readCoat 18 42 = true ∧ ck3 cX11_readCoat 19 20 184 = true ∧ ck2s cX11_readCoat 22 16 99 = true ∧ ck3 cX11_readCoat 24 182 246 = true ∧ ck1 cX11_readCoat 27 79 = true ∧ ck1 cX11_readCoat 28 42 = true ∧ ck3 cX11_readCoat 29 180 54 = true := by decide +kernel
theorem dX11_readCoat_15 : decode cX11_readCoat 15 = .ok (.getfield 339, 3) := dk_180 dg_cX11_readCoat_878.1
theorem dX11_readCoat_18 : decode cX11_readCoat 18 = .ok (.aload_n 0, 1) := dk_42 dg_cX11_readCoat_878.2.1
theorem dX11_readCoat_19 : decode cX11_readCoat 19 = .ok (.ldc2_w 184, 3) := dk_20 dg_cX11_readCoat_878.2.2.1
theorem dX11_readCoat_22 : decode cX11_readCoat 22 = .ok (.bipush 99, 2) := dk_16 dg_cX11_readCoat_878.2.2.2.1
theorem dX11_readCoat_24 : decode cX11_readCoat 24 = .ok (.invokevirtual 246, 3) := dk_182 dg_cX11_readCoat_878.2.2.2.2.1
theorem dX11_readCoat_27 : decode cX11_readCoat 27 = .ok (.iastore, 1) := dk_79 dg_cX11_readCoat_878.2.2.2.2.2.1
theorem dX11_readCoat_28 : decode cX11_readCoat 28 = .ok (.aload_n 0, 1) := dk_42 dg_cX11_readCoat_878.2.2.2.2.2.2.1
theorem dX11_readCoat_29 : decode cX11_readCoat 29 = .ok (.getfield 54, 3) := dk_180 dg_cX11_readCoat_878.2.2.2.2.2.2.2
theorem dg_cX11_readCoat_879 : ck1 cX11_readCoat 32 42 = true ∧ ck3 cX11_readCoat 33 180 339 = true ∧ ck1 cX11_readCoat 36 42 = true ∧ ck3 cX11_readCoat 37 20 186 = true ∧ ck2s cX11_readCoat 40 16 99 = true ∧ ck3 cX11_readCoat 42 182 246 = true ∧ ck1 cX11_readCoat 45 79 = true ∧ ck1 cX11_readCoat 46 42 = true := by decide +kernel
theorem dX11_readCoat_32 : decode cX11_readCoat 32 = .ok (.aload_n 0, 1) := dk_42 dg_cX11_readCoat_879.1
theorem dX11_readCoat_33 : decode cX11_readCoat 33 = .ok (.getfield 339, 3) := dk_180 dg_cX11_readCoat_879.2.1
theorem dX11_readCoat_36 : decode cX11_readCoat 36 = .ok (.aload_n 0, 1) := dk_42 dg_cX11_readCoat_879.2.2.1
theorem dX11_readCoat_37 : decode cX11_readCoat 37 = .ok (.ldc2_w 186, 3) := dk_20 dg_cX11_readCoat_879.2.2.2.1
theorem dX11_readCoat_40 : decode cX11_readCoat 40 = .ok (.bipush 99, 2) := dk_16 dg_cX11_readCoat_879.2.2.2.2.1
theorem dX11_readCoat_42 : decode cX11_readCoat 42 = .ok (.invokevirtual 246, 3) := dk_182 dg_cX11_readCoat_879.2.2.2.2.2.1
theorem dX11_readCoat_45 : decode cX11_readCoat 45 = .ok (.iastore, 1) := dk_79 dg_cX11_readCoat_879.2.2.2.2.2.2.1
theorem dX11_readCoat_46 : decode cX11_readCoat 46 = .ok (.aload_n 0, 1) := dk_42 dg_cX11_readCoat_879.2.2.2.2.2.2.2
theorem dg_cX11_readCoat_880 : ck3 cX11_readCoat 47 180 57 = true ∧ ck1 cX11_readCoat 50 42 = true ∧ ck3 cX11_readCoat 51 180 339 = true ∧ ck1 cX11_readCoat 54 42 = true ∧ ck3 cX11_readCoat 55 20 192 = true ∧ ck2s cX11_readCoat 58 16 20 = true ∧ ck3 cX11_readCoat 60 182 336 = true ∧ ck1 cX11_readCoat 63 79 = true := by decide +kernel
theorem dX11_readCoat_47 : decode cX11_readCoat 47 = .ok (.getfield 57, 3) := dk_180 dg_cX11_readCoat_880.1
theorem dX11_readCoat_50 : decode cX11_readCoat 50 = .ok (.aload_n 0, 1) := dk_42 dg_cX11_readCoat_880.2.1
theorem dX11_readCoat_51 : decode cX11_readCoat 51 = .ok (.getfield 339, 3) := dk_180 dg_cX11_readCoat_880.2.2.1
theorem dX11_readCoat_54 : decode cX11_readCoat 54 = .ok (.aload_n 0, 1) := dk_42 dg_cX11_readCoat_880.2.2.2.1
theorem dX11_readCoat_55 : decode cX11_readCoat 55 = .ok (.ldc2_w 192, 3) := dk_20 dg_cX11_readCoat_880.2.2.2.2.1
theorem dX11_readCoat_58 : decode cX11_readCoat 58 = .ok (.bipush 20, 2) := dk_16 dg_cX11_readCoat_880.2.2.2.2.2.1
theorem dX11_readCoat_60 : decode cX11_readCoat 60 = .ok (.invokevirtual 336, 3) := dk_182 dg_cX11_readCoat_880.2.2.2.2.2.2.1
theorem dX11_readCoat_63 : decode cX11_readCoat 63 = .ok (.iastore, 1) := dk_79 dg_cX11_readCoat_880.2.2.2.2.2.2.2
def dS_cX11_readCoat_1 : List UInt8 := 42 :: 180 :: 0 :: 60 :: 42 :: 180 :: 1 :: 83 :: 42 :: 20 :: 0 :: 194 :: 16 :: 99 :: 182 :: 1 :: 80 :: 79 :: 42 :: 180 :: 0 :: 179 :: 154 :: 0 :: 13 :: 42 :: 89 :: 180 :: 1 :: 83 :: 4 :: 96 :: 181 :: 1 :: 83 :: 177 :: []
def dS_cX11_readCoat_0 : List UInt8 := 42 :: 16 :: 6 :: 42 :: 180 :: 1 :: 83 :: 182 :: 1 :: 77 :: 42 :: 180 :: 0 :: 51 :: 42 :: 180 :: 1 :: 83 :: 42 :: 20 :: 0 :: 184 :: 16 :: 99 :: 182 :: 0 :: 246 :: 79 :: 42 :: 180 :: 0 :: 54 :: 42 :: 180 :: 1 :: 83 :: 42 :: 20 :: 0 :: 186 :: 16 :: 99 :: 182 :: 0 :: 246 :: 79 :: 42 :: 180 :: 0 :: 57 :: 42 :: 180 :: 1 :: 83 :: 42 :: 20 :: 0 :: 192 :: 16 :: 20 :: 182 :: 1 :: 80 :: 79 :: dS_cX11_readCoat_1
theorem dT_cX11_readCoat_0 : cX11_readCoat.data.toList.drop 0 = dS_cX11_readCoat_0 := by decide +kernel
theorem dT_cX11_readCoat_1 : cX11_readCoat.data.toList.drop 64 = dS_cX11_readCoat_1 := ck_nx dT_cX11_readCoat_0 (by decide +kernel) rfl
theorem dg_cX11_readCoat_881 : ck1L dS_cX11_readCoat_1 0 42 = true ∧ ck3L dS_cX11_readCoat_1 1 180 60 = true ∧ ck1L dS_cX11_readCoat_1 4 42 = true ∧ ck3L dS_cX11_readCoat_1 5 180 339 = true ∧ ck1L dS_cX11_readCoat_1 8 42 = true ∧ ck3L dS_cX11_readCoat_1 9 20 194 = true ∧ ck2sL dS_cX11_readCoat_1 12 16 99 = true ∧ ck3L dS_cX11_readCoat_1 14 182 336 = true := by decide +kernel
theorem dX11_readCoat_64 : decode cX11_readCoat 64 = .ok (.aload_n 0, 1) := dk_42 (ck1_s (r := 0) dT_cX11_readCoat_1 rfl dg_cX11_readCoat_881.1)
theorem dX11_readCoat_65 : decode cX11_readCoat 65 = .ok (.getfield 60, 3) := dk_180 (ck3_s (r := 1) dT_cX11_readCoat_1 rfl dg_cX11_readCoat_881.2.1)
theorem dX11_readCoat_68 : decode cX11_readCoat 68 = .ok (.aload_n 0, 1) := dk_42 (ck1_s (r := 4) dT_cX11_readCoat_1 rfl dg_cX11_readCoat_881.2.2.1)
theorem dX11_readCoat_69 : decode cX11_readCoat 69 = .ok (.getfield 339, 3) := dk_180 (ck3_s (r := 5) dT_cX11_readCoat_1 rfl dg_cX11_readCoat_881.2.2.2.1)
theorem dX11_readCoat_72 : decode cX11_readCoat 72 = .ok (.aload_n 0, 1) := dk_42 (ck1_s (r := 8) dT_cX11_readCoat_1 rfl dg_cX11_readCoat_881.2.2.2.2.1)
theorem dX11_readCoat_73 : decode cX11_readCoat 73 = .ok (.ldc2_w 194, 3) := dk_20 (ck3_s (r := 9) dT_cX11_readCoat_1 rfl dg_cX11_readCoat_881.2.2.2.2.2.1)
theorem dX11_readCoat_76 : decode cX11_readCoat 76 = .ok (.bipush 99, 2) := dk_16 (ck2s_s (r := 12) dT_cX11_readCoat_1 rfl dg_cX11_readCoat_881.2.2.2.2.2.2.1)
theorem dX11_readCoat_78 : decode cX11_readCoat 78 = .ok (.invokevirtual 336, 3) := dk_182 (ck3_s (r := 14) dT_cX11_readCoat_1 rfl dg_cX11_readCoat_881.2.2.2.2.2.2.2)
theorem dg_cX11_readCoat_882 : ck1L dS_cX11_readCoat_1 17 79 = true ∧ ck1L dS_cX11_readCoat_1 18 42 = true ∧ ck3L dS_cX11_readCoat_1 19 180 179 = true ∧ ck3sL dS_cX11_readCoat_1 22 154 13 = true ∧ ck1L dS_cX11_readCoat_1 25 42 = true ∧ ck1L dS_cX11_readCoat_1 26 89 = true ∧ ck3L dS_cX11_readCoat_1 27 180 339 = true ∧ ck1L dS_cX11_readCoat_1 30 4 = true := by decide +kernel
theorem dX11_readCoat_81 : decode cX11_readCoat 81 = .ok (.iastore, 1) := dk_79 (ck1_s (r := 17) dT_cX11_readCoat_1 rfl dg_cX11_readCoat_882.1)
theorem dX11_readCoat_82 : decode cX11_readCoat 82 = .ok (.aload_n 0, 1) := dk_42 (ck1_s (r := 18) dT_cX11_readCoat_1 rfl dg_cX11_readCoat_882.2.1)
theorem dX11_readCoat_83 : decode cX11_readCoat 83 = .ok (.getfield 179, 3) := dk_180 (ck3_s (r := 19) dT_cX11_readCoat_1 rfl dg_cX11_readCoat_882.2.2.1)
theorem dX11_readCoat_86 : decode cX11_readCoat 86 = .ok (.ifCond .ne 13, 3) := dk_154 (ck3s_s (r := 22) dT_cX11_readCoat_1 rfl dg_cX11_readCoat_882.2.2.2.1)
theorem dX11_readCoat_89 : decode cX11_readCoat 89 = .ok (.aload_n 0, 1) := dk_42 (ck1_s (r := 25) dT_cX11_readCoat_1 rfl dg_cX11_readCoat_882.2.2.2.2.1)
theorem dX11_readCoat_90 : decode cX11_readCoat 90 = .ok (.dup, 1) := dk_89 (ck1_s (r := 26) dT_cX11_readCoat_1 rfl dg_cX11_readCoat_882.2.2.2.2.2.1)
theorem dX11_readCoat_91 : decode cX11_readCoat 91 = .ok (.getfield 339, 3) := dk_180 (ck3_s (r := 27) dT_cX11_readCoat_1 rfl dg_cX11_readCoat_882.2.2.2.2.2.2.1)
theorem dX11_readCoat_94 : decode cX11_readCoat 94 = .ok (.iconst 1, 1) := dk_4 (ck1_s (r := 30) dT_cX11_readCoat_1 rfl dg_cX11_readCoat_882.2.2.2.2.2.2.2)
theorem dg_cX11_readCoat_883 : ck1L dS_cX11_readCoat_1 31 96 = true ∧ ck3L dS_cX11_readCoat_1 32 181 339 = true ∧ ck1L dS_cX11_readCoat_1 35 177 = true := by decide +kernel
theorem dX11_readCoat_95 : decode cX11_readCoat 95 = .ok (.iadd, 1) := dk_96 (ck1_s (r := 31) dT_cX11_readCoat_1 rfl dg_cX11_readCoat_883.1)
theorem dX11_readCoat_96 : decode cX11_readCoat 96 = .ok (.putfield 339, 3) := dk_181 (ck3_s (r := 32) dT_cX11_readCoat_1 rfl dg_cX11_readCoat_883.2.1)
theorem dX11_readCoat_99 : decode cX11_readCoat 99 = .ok (.return_, 1) := dk_177 (ck1_s (r := 35) dT_cX11_readCoat_1 rfl dg_cX11_readCoat_883.2.2)
theorem dg_cX11_readLine_884 : ck1 cX11_readLine 0 42 = true ∧ ck3 cX11_readLine 1 20 182 = true ∧ ck3 cX11_readLine 4 182 228 = true ∧ ck3s cX11_readLine 7 153 19 = true ∧ ck1 cX11_readLine 10 42 = true ∧ ck3 cX11_readLine 11 180 330 = true ∧ ck2s cX11_readLine 14 16 6 = true ∧ ck3s cX11_readLine 16 162 10 = true := by decide +kernel
theorem dX11_readLine_0 : decode cX11_readLine 0 = .ok (.aload_n 0, 1) := dk_42 dg_cX11_readLine_884.1
theorem dX11_readLine_1 : decode cX11_readLine 1 = .ok (.ldc2_w 182, 3) := dk_20 dg_cX11_readLine_884.2.1
theorem dX11_readLine_4 : decode cX11_readLine 4 = .ok (.invokevirtual 228, 3) := dk_182 dg_cX11_readLine_884.2.2.1
theorem dX11_readLine_7 : decode cX11_readLine 7 = .ok (.ifCond .eq 19, 3) := dk_153 dg_cX11_readLine_884.2.2.2.1
theorem dX11_readLine_10 : decode cX11_readLine 10 = .ok (.aload_n 0, 1) := dk_42 dg_cX11_readLine_884.2.2.2.2.1
theorem dX11_readLine_11 : decode cX11_readLine 11 = .ok (.getfield 330, 3) := dk_180 dg_cX11_readLine_884.2.2.2.2.2.1
theorem dX11_readLine_14 : decode cX11_readLine 14 = .ok (.bipush 6, 2) := dk_16 dg_cX11_readLine_884.2.2.2.2.2.2.1
theorem dX11_readLine_16 : decode cX11_readLine 16 = .ok (.if_icmp .ge 10, 3) := dk_162 dg_cX11_readLine_884.2.2.2.2.2.2.2
theorem dg_cX11_readLine_885 : ck1 cX11_readLine 19 42 = true ∧ ck3 cX11_readLine 20 182 342 = true ∧ ck3s cX11_readLine 23 167 251 = true ∧ ck1 cX11_readLine 26 42 = true ∧ ck3 cX11_readLine 27 20 190 = true ∧ ck3 cX11_readLine 30 182 228 = true ∧ ck3s cX11_readLine 33 153 19 = true ∧ ck1 cX11_readLine 36 42 = true := by decide +kernel
theorem dX11_readLine_19 : decode cX11_readLine 19 = .ok (.aload_n 0, 1) := dk_42 dg_cX11_readLine_885.1
theorem dX11_readLine_20 : decode cX11_readLine 20 = .ok (.invokevirtual 342, 3) := dk_182 dg_cX11_readLine_885.2.1
theorem dX11_readLine_23 : decode cX11_readLine 23 = .ok (.goto 251, 3) := dk_167 dg_cX11_readLine_885.2.2.1
theorem dX11_readLine_26 : decode cX11_readLine 26 = .ok (.aload_n 0, 1) := dk_42 dg_cX11_readLine_885.2.2.2.1
theorem dX11_readLine_27 : decode cX11_readLine 27 = .ok (.ldc2_w 190, 3) := dk_20 dg_cX11_readLine_885.2.2.2.2.1
theorem dX11_readLine_30 : decode cX11_readLine 30 = .ok (.invokevirtual 228, 3) := dk_182 dg_cX11_readLine_885.2.2.2.2.2.1
theorem dX11_readLine_33 : decode cX11_readLine 33 = .ok (.ifCond .eq 19, 3) := dk_153 dg_cX11_readLine_885.2.2.2.2.2.2.1
theorem dX11_readLine_36 : decode cX11_readLine 36 = .ok (.aload_n 0, 1) := dk_42 dg_cX11_readLine_885.2.2.2.2.2.2.2
theorem dg_cX11_readLine_886 : ck3 cX11_readLine 37 180 339 = true ∧ ck2s cX11_readLine 40 16 6 = true ∧ ck3s cX11_readLine 42 162 10 = true ∧ ck1 cX11_readLine 45 42 = true ∧ ck3 cX11_readLine 46 182 345 = true ∧ ck3s cX11_readLine 49 167 225 = true ∧ ck1 cX11_readLine 52 42 = true ∧ ck3 cX11_readLine 53 20 196 = true := by decide +kernel
theorem dX11_readLine_37 : decode cX11_readLine 37 = .ok (.getfield 339, 3) := dk_180 dg_cX11_readLine_886.1
theorem dX11_readLine_40 : decode cX11_readLine 40 = .ok (.bipush 6, 2) := dk_16 dg_cX11_readLine_886.2.1
theorem dX11_readLine_42 : decode cX11_readLine 42 = .ok (.if_icmp .ge 10, 3) := dk_162 dg_cX11_readLine_886.2.2.1
theorem dX11_readLine_45 : decode cX11_readLine 45 = .ok (.aload_n 0, 1) := dk_42 dg_cX11_readLine_886.2.2.2.1
theorem dX11_readLine_46 : decode cX11_readLine 46 = .ok (.invokevirtual 345, 3) := dk_182 dg_cX11_readLine_886.2.2.2.2.1
theorem dX11_readLine_49 : decode cX11_readLine 49 = .ok (.goto 225, 3) := dk_167 dg_cX11_readLine_886.2.2.2.2.2.1
theorem dX11_readLine_52 : decode cX11_readLine 52 = .ok (.aload_n 0, 1) := dk_42 dg_cX11_readLine_886.2.2.2.2.2.2.1
theorem dX11_readLine_53 : decode cX11_readLine 53 = .ok (.ldc2_w 196, 3) := dk_20 dg_cX11_readLine_886.2.2.2.2.2.2.2
theorem dg_cX11_readLine_887 : ck3 cX11_readLine 56 182 228 = true ∧ ck3s cX11_readLine 59 153 17 = true ∧ ck1 cX11_readLine 62 42 = true ∧ ck3 cX11_readLine 63 180 291 = true := by decide +kernel
theorem dX11_readLine_56 : decode cX11_readLine 56 = .ok (.invokevirtual 228, 3) := dk_182 dg_cX11_readLine_887.1
theorem dX11_readLine_59 : decode cX11_readLine 59 = .ok (.ifCond .eq 17, 3) := dk_153 dg_cX11_readLine_887.2.1
theorem dX11_readLine_62 : decode cX11_readLine 62 = .ok (.aload_n 0, 1) := dk_42 dg_cX11_readLine_887.2.2.1
theorem dX11_readLine_63 : decode cX11_readLine 63 = .ok (.getfield 291, 3) := dk_180 dg_cX11_readLine_887.2.2.2
def dS_cX11_readLine_4 : List UInt8 := 206 :: 17 :: 3 :: 231 :: 182 :: 0 :: 246 :: 181 :: 1 :: 122 :: 167 :: 0 :: 8 :: 42 :: 5 :: 182 :: 0 :: 232 :: 42 :: 180 :: 0 :: 179 :: 154 :: 0 :: 17 :: 42 :: 180 :: 0 :: 166 :: 16 :: 59 :: 159 :: 0 :: 8 :: 42 :: 5 :: 182 :: 0 :: 232 :: 42 :: 180 :: 0 :: 179 :: 154 :: 0 :: 7 :: 42 :: 182 :: 0 :: 235 :: 177 :: []
def dS_cX11_readLine_3 : List UInt8 := 42 :: 20 :: 0 :: 204 :: 182 :: 0 :: 228 :: 153 :: 0 :: 31 :: 42 :: 180 :: 1 :: 113 :: 154 :: 0 :: 24 :: 42 :: 4 :: 181 :: 1 :: 113 :: 42 :: 42 :: 20 :: 0 :: 204 :: 16 :: 100 :: 182 :: 0 :: 246 :: 181 :: 1 :: 116 :: 167 :: 0 :: 47 :: 42 :: 20 :: 0 :: 206 :: 182 :: 0 :: 228 :: 153 :: 0 :: 32 :: 42 :: 180 :: 1 :: 119 :: 154 :: 0 :: 25 :: 42 :: 4 :: 181 :: 1 :: 119 :: 42 :: 42 :: 20 :: 0 :: dS_cX11_readLine_4
def dS_cX11_readLine_2 : List UInt8 := 101 :: 154 :: 0 :: 25 :: 42 :: 4 :: 181 :: 1 :: 101 :: 42 :: 42 :: 20 :: 0 :: 200 :: 17 :: 3 :: 231 :: 182 :: 0 :: 246 :: 181 :: 1 :: 104 :: 167 :: 0 :: 123 :: 42 :: 20 :: 0 :: 202 :: 182 :: 0 :: 228 :: 153 :: 0 :: 31 :: 42 :: 180 :: 1 :: 107 :: 154 :: 0 :: 24 :: 42 :: 4 :: 181 :: 1 :: 107 :: 42 :: 42 :: 20 :: 0 :: 202 :: 16 :: 99 :: 182 :: 0 :: 246 :: 181 :: 1 :: 110 :: 167 :: 0 :: 85 :: dS_cX11_readLine_3
def dS_cX11_readLine_1 : List UInt8 := 1 :: 35 :: 154 :: 0 :: 10 :: 42 :: 182 :: 1 :: 92 :: 167 :: 0 :: 201 :: 42 :: 20 :: 0 :: 198 :: 182 :: 0 :: 228 :: 153 :: 0 :: 32 :: 42 :: 180 :: 1 :: 95 :: 154 :: 0 :: 25 :: 42 :: 4 :: 181 :: 1 :: 95 :: 42 :: 42 :: 20 :: 0 :: 198 :: 17 :: 3 :: 231 :: 182 :: 0 :: 246 :: 181 :: 1 :: 98 :: 167 :: 0 :: 162 :: 42 :: 20 :: 0 :: 200 :: 182 :: 0 :: 228 :: 153 :: 0 :: 32 :: 42 :: 180 :: 1 :: dS_cX11_readLine_2
def dS_cX11_readLine_0 : List UInt8 := 42 :: 20 :: 0 :: 182 :: 182 :: 0 :: 228 :: 153 :: 0 :: 19 :: 42 :: 180 :: 1 :: 74 :: 16 :: 6 :: 162 :: 0 :: 10 :: 42 :: 182 :: 1 :: 86 :: 167 :: 0 :: 251 :: 42 :: 20 :: 0 :: 190 :: 182 :: 0 :: 228 :: 153 :: 0 :: 19 :: 42 :: 180 :: 1 :: 83 :: 16 :: 6 :: 162 :: 0 :: 10 :: 42 :: 182 :: 1 :: 89 :: 167 :: 0 :: 225 :: 42 :: 20 :: 0 :: 196 :: 182 :: 0 :: 228 :: 153 :: 0 :: 17 :: 42 :: 180 :: dS_cX11_readLine_1
theorem dT_cX11_readLine_0 : cX11_readLine.data.toList.drop 0 = dS_cX11_readLine_0 := by decide +kernel
theorem dT_cX11_readLine_1 : cX11_readLine.data.toList.drop 64 = dS_cX11_readLine_1 := ck_nx dT_cX11_readLine_0 (by decide +kernel) rfl
theorem dT_cX11_readLine_2 : cX11_readLine.data.toList.drop 128 = dS_cX11_readLine_2 := ck_nx dT_cX11_readLine_1 (by decide +kernel) rfl
theorem dT_cX11_readLine_3 : cX11_readLine.data.toList.drop 192 = dS_cX11_readLine_3 := ck_nx dT_cX11_readLine_2 (by decide +kernel) rfl
theorem dT_cX11_readLine_4 : cX11_readLine.data.toList.drop 256 = dS_cX11_readLine_4 := ck_nx dT_cX11_readLine_3 (by decide +kernel) rfl
theorem dg_cX11_readLine_888 : ck3sL dS_cX11_readLine_1 2 154 10 = true ∧ ck1L dS_cX11_readLine_1 5 42 = true ∧ ck3L dS_cX11_readLine_1 6 182 348 = true ∧ ck3sL dS_cX11_readLine_1 9 167 201 = true ∧ ck1L dS_cX11_readLine_1 12 42 = true ∧ ck3L dS_cX11_readLine_1 13 20 198 = true ∧ ck3L dS_cX11_readLine_1 16 182 228 = true ∧ ck3sL dS_cX11_readLine_1 19 153 32 = true := by decide +kernel
theorem dX11_readLine_66 : decode cX11_readLine 66 = .ok (.ifCond .ne 10, 3) := dk_154 (ck3s_s (r := 2) dT_cX11_readLine_1 rfl dg_cX11_readLine_888.1)
theorem dX11_readLine_69 : decode cX11_readLine 69 = .ok (.aload_n 0, 1) := dk_42 (ck1_s (r := 5) dT_cX11_readLine_1 rfl dg_cX11_readLine_888.2.1)
theorem dX11_readLine_70 : decode cX11_readLine 70 = .ok (.invokevirtual 348, 3) := dk_182 (ck3_s (r := 6) dT_cX11_readLine_1 rfl dg_cX11_readLine_888.2.2.1)
theorem dX11_readLine_73 : decode cX11_readLine 73 = .ok (.goto 201, 3) := dk_167 (ck3s_s (r := 9) dT_cX11_readLine_1 rfl dg_cX11_readLine_888.2.2.2.1)
theorem dX11_readLine_76 : decode cX11_readLine 76 = .ok (.aload_n 0, 1) := dk_42 (ck1_s (r := 12) dT_cX11_readLine_1 rfl dg_cX11_readLine_888.2.2.2.2.1)
theorem dX11_readLine_77 : decode cX11_readLine 77 = .ok (.ldc2_w 198, 3) := dk_20 (ck3_s (r := 13) dT_cX11_readLine_1 rfl dg_cX11_readLine_888.2.2.2.2.2.1)
theorem dX11_readLine_80 : decode cX11_readLine 80 = .ok (.invokevirtual 228, 3) := dk_182 (ck3_s (r := 16) dT_cX11_readLine_1 rfl dg_cX11_readLine_888.2.2.2.2.2.2.1)
theorem dX11_readLine_83 : decode cX11_readLine 83 = .ok (.ifCond .eq 32, 3) := dk_153 (ck3s_s (r := 19) dT_cX11_readLine_1 rfl dg_cX11_readLine_888.2.2.2.2.2.2.2)
theorem dg_cX11_readLine_889 : ck1L dS_cX11_readLine_1 22 42 = true ∧ ck3L dS_cX11_readLine_1 23 180 351 = true ∧ ck3sL dS_cX11_readLine_1 26 154 25 = true ∧ ck1L dS_cX11_readLine_1 29 42 = true ∧ ck1L dS_cX11_readLine_1 30 4 = true ∧ ck3L dS_cX11_readLine_1 31 181 351 = true ∧ ck1L dS_cX11_readLine_1 34 42 = true ∧ ck1L dS_cX11_readLine_1 35 42 = true := by decide +kernel
theorem dX11_readLine_86 : decode cX11_readLine 86 = .ok (.aload_n 0, 1) := dk_42 (ck1_s (r := 22) dT_cX11_readLine_1 rfl dg_cX11_readLine_889.1)
theorem dX11_readLine_87 : decode cX11_readLine 87 = .ok (.getfield 351, 3) := dk_180 (ck3_s (r := 23) dT_cX11_readLine_1 rfl dg_cX11_readLine_889.2.1)
theorem dX11_readLine_90 : decode cX11_readLine 90 = .ok (.ifCond .ne 25, 3) := dk_154 (ck3s_s (r := 26) dT_cX11_readLine_1 rfl dg_cX11_readLine_889.2.2.1)
theorem dX11_readLine_93 : decode cX11_readLine 93 = .ok (.aload_n 0, 1) := dk_42 (ck1_s (r := 29) dT_cX11_readLine_1 rfl dg_cX11_readLine_889.2.2.2.1)
theorem dX11_readLine_94 : decode cX11_readLine 94 = .ok (.iconst 1, 1) := dk_4 (ck1_s (r := 30) dT_cX11_readLine_1 rfl dg_cX11_readLine_889.2.2.2.2.1)
theorem dX11_readLine_95 : decode cX11_readLine 95 = .ok (.putfield 351, 3) := dk_181 (ck3_s (r := 31) dT_cX11_readLine_1 rfl dg_cX11_readLine_889.2.2.2.2.2.1)
theorem dX11_readLine_98 : decode cX11_readLine 98 = .ok (.aload_n 0, 1) := dk_42 (ck1_s (r := 34) dT_cX11_readLine_1 rfl dg_cX11_readLine_889.2.2.2.2.2.2.1)
theorem dX11_readLine_99 : decode cX11_readLine 99 = .ok (.aload_n 0, 1) := dk_42 (ck1_s (r := 35) dT_cX11_readLine_1 rfl dg_cX11_readLine_889.2.2.2.2.2.2.2)
theorem dg_cX11_readLine_890 : ck3L dS_cX11_readLine_1 36 20 198 = true ∧ ck3sL dS_cX11_readLine_1 39 17 999 = true ∧ ck3L dS_cX11_readLine_1 42 182 246 = true ∧ ck3L dS_cX11_readLine_1 45 181 354 = true ∧ ck3sL dS_cX11_readLine_1 48 167 162 = true ∧ ck1L dS_cX11_readLine_1 51 42 = true ∧ ck3L dS_cX11_readLine_1 52 20 200 = true ∧ ck3L dS_cX11_readLine_1 55 182 228 = true := by decide +kernel
theorem dX11_readLine_100 : decode cX11_readLine 100 = .ok (.ldc2_w 198, 3) := dk_20 (ck3_s (r := 36) dT_cX11_readLine_1 rfl dg_cX11_readLine_890.1)
theorem dX11_readLine_103 : decode cX11_readLine 103 = .ok (.sipush 999, 3) := dk_17 (ck3s_s (r := 39) dT_cX11_readLine_1 rfl dg_cX11_readLine_890.2.1)
theorem dX11_readLine_106 : decode cX11_readLine 106 = .ok (.invokevirtual 246, 3) := dk_182 (ck3_s (r := 42) dT_cX11_readLine_1 rfl dg_cX11_readLine_890.2.2.1)
theorem dX11_readLine_109 : decode cX11_readLine 109 = .ok (.putfield 354, 3) := dk_181 (ck3_s (r := 45) dT_cX11_readLine_1 rfl dg_cX11_readLine_890.2.2.2.1)
theorem dX11_readLine_112 : decode cX11_readLine 112 = .ok (.goto 162, 3) := dk_167 (ck3s_s (r := 48) dT_cX11_readLine_1 rfl dg_cX11_readLine_890.2.2.2.2.1)
theorem dX11_readLine_115 : decode cX11_readLine 115 = .ok (.aload_n 0, 1) := dk_42 (ck1_s (r := 51) dT_cX11_readLine_1 rfl dg_cX11_readLine_890.2.2.2.2.2.1)
theorem dX11_readLine_116 : decode cX11_readLine 116 = .ok (.ldc2_w 200, 3) := dk_20 (ck3_s (r := 52) dT_cX11_readLine_1 rfl dg_cX11_readLine_890.2.2.2.2.2.2.1)
theorem dX11_readLine_119 : decode cX11_readLine 119 = .ok (.invokevirtual 228, 3) := dk_182 (ck3_s (r := 55) dT_cX11_readLine_1 rfl dg_cX11_readLine_890.2.2.2.2.2.2.2)
theorem dg_cX11_readLine_891 : ck3sL dS_cX11_readLine_1 58 153 32 = true ∧ ck1L dS_cX11_readLine_1 61 42 = true ∧ ck3L dS_cX11_readLine_1 62 180 357 = true ∧ ck3sL dS_cX11_readLine_2 1 154 25 = true ∧ ck1L dS_cX11_readLine_2 4 42 = true ∧ ck1L dS_cX11_readLine_2 5 4 = true ∧ ck3L dS_cX11_readLine_2 6 181 357 = true ∧ ck1L dS_cX11_readLine_2 9 42 = true := by decide +kernel
theorem dX11_readLine_122 : decode cX11_readLine 122 = .ok (.ifCond .eq 32, 3) := dk_153 (ck3s_s (r := 58) dT_cX11_readLine_1 rfl dg_cX11_readLine_891.1)
theorem dX11_readLine_125 : decode cX11_readLine 125 = .ok (.aload_n 0, 1) := dk_42 (ck1_s (r := 61) dT_cX11_readLine_1 rfl dg_cX11_readLine_891.2.1)
theorem dX11_readLine_126 : decode cX11_readLine 126 = .ok (.getfield 357, 3) := dk_180 (ck3_s (r := 62) dT_cX11_readLine_1 rfl dg_cX11_readLine_891.2.2.1)
theorem dX11_readLine_129 : decode cX11_readLine 129 = .ok (.ifCond .ne 25, 3) := dk_154 (ck3s_s (r := 1) dT_cX11_readLine_2 rfl dg_cX11_readLine_891.2.2.2.1)
theorem dX11_readLine_132 : decode cX11_readLine 132 = .ok (.aload_n 0, 1) := dk_42 (ck1_s (r := 4) dT_cX11_readLine_2 rfl dg_cX11_readLine_891.2.2.2.2.1)
theorem dX11_readLine_133 : decode cX11_readLine 133 = .ok (.iconst 1, 1) := dk_4 (ck1_s (r := 5) dT_cX11_readLine_2 rfl dg_cX11_readLine_891.2.2.2.2.2.1)
theorem dX11_readLine_134 : decode cX11_readLine 134 = .ok (.putfield 357, 3) := dk_181 (ck3_s (r := 6) dT_cX11_readLine_2 rfl dg_cX11_readLine_891.2.2.2.2.2.2.1)
theorem dX11_readLine_137 : decode cX11_readLine 137 = .ok (.aload_n 0, 1) := dk_42 (ck1_s (r := 9) dT_cX11_readLine_2 rfl dg_cX11_readLine_891.2.2.2.2.2.2.2)
theorem dg_cX11_readLine_892 : ck1L dS_cX11_readLine_2 10 42 = true ∧ ck3L dS_cX11_readLine_2 11 20 200 = true ∧ ck3sL dS_cX11_readLine_2 14 17 999 = true ∧ ck3L dS_cX11_readLine_2 17 182 246 = true ∧ ck3L dS_cX11_readLine_2 20 181 360 = true ∧ ck3sL dS_cX11_readLine_2 23 167 123 = true ∧ ck1L dS_cX11_readLine_2 26 42 = true ∧ ck3L dS_cX11_readLine_2 27 20 202 = true := by decide +kernel
theorem dX11_readLine_138 : decode cX11_readLine 138 = .ok (.aload_n 0, 1) := dk_42 (ck1_s (r := 10) dT_cX11_readLine_2 rfl dg_cX11_readLine_892.1)
theorem dX11_readLine_139 : decode cX11_readLine 139 = .ok (.ldc2_w 200, 3) := dk_20 (ck3_s (r := 11) dT_cX11_readLine_2 rfl dg_cX11_readLine_892.2.1)
theorem dX11_readLine_142 : decode cX11_readLine 142 = .ok (.sipush 999, 3) := dk_17 (ck3s_s (r := 14) dT_cX11_readLine_2 rfl dg_cX11_readLine_892.2.2.1)
theorem dX11_readLine_145 : decode cX11_readLine 145 = .ok (.invokevirtual 246, 3) := dk_182 (ck3_s (r := 17) dT_cX11_readLine_2 rfl dg_cX11_readLine_892.2.2.2.1)
theorem dX11_readLine_148 : decode cX11_readLine 148 = .ok (.putfield 360, 3) := dk_181 (ck3_s (r := 20) dT_cX11_readLine_2 rfl dg_cX11_readLine_892.2.2.2.2.1)
theorem dX11_readLine_151 : decode cX11_readLine 151 = .ok (.goto 123, 3) := dk_167 (ck3s_s (r := 23) dT_cX11_readLine_2 rfl dg_cX11_readLine_892.2.2.2.2.2.1)
theorem dX11_readLine_154 : decode cX11_readLine 154 = .ok (.aload_n 0, 1) := dk_42 (ck1_s (r := 26) dT_cX11_readLine_2 rfl dg_cX11_readLine_892.2.2.2.2.2.2.1)
theorem dX11_readLine_155 : decode cX11_readLine 155 = .ok (.ldc2_w 202, 3) := dk_20 (ck3_s (r := 27) dT_cX11_readLine_2 rfl dg_cX11_readLine_892.2.2.2.2.2.2.2)
theorem dg_cX11_readLine_893 : ck3L dS_cX11_readLine_2 30 182 228 = true ∧ ck3sL dS_cX11_readLine_2 33 153 31 = true ∧ ck1L dS_cX11_readLine_2 36 42 = true ∧ ck3L dS_cX11_readLine_2 37 180 363 = true ∧ ck3sL dS_cX11_readLine_2 40 154 24 = true ∧ ck1L dS_cX11_readLine_2 43 42 = true ∧ ck1L dS_cX11_readLine_2 44 4 = true ∧ ck3L dS_cX11_readLine_2 45 181 363 = true := by decide +kernel
theorem dX11_readLine_158 : decode cX11_readLine 158 = .ok (.invokevirtual 228, 3) := dk_182 (ck3_s (r := 30) dT_cX11_readLine_2 rfl dg_cX11_readLine_893.1)
theorem dX11_readLine_161 : decode cX11_readLine 161 = .ok (.ifCond .eq 31, 3) := dk_153 (ck3s_s (r := 33) dT_cX11_readLine_2 rfl dg_cX11_readLine_893.2.1)
theorem dX11_readLine_164 : decode cX11_readLine 164 = .ok (.aload_n 0, 1) := dk_42 (ck1_s (r := 36) dT_cX11_readLine_2 rfl dg_cX11_readLine_893.2.2.1)
theorem dX11_readLine_165 : decode cX11_readLine 165 = .ok (.getfield 363, 3) := dk_180 (ck3_s (r := 37) dT_cX11_readLine_2 rfl dg_cX11_readLine_893.2.2.2.1)
theorem dX11_readLine_168 : decode cX11_readLine 168 = .ok (.ifCond .ne 24, 3) := dk_154 (ck3s_s (r := 40) dT_cX11_readLine_2 rfl dg_cX11_readLine_893.2.2.2.2.1)
theorem dX11_readLine_171 : decode cX11_readLine 171 = .ok (.aload_n 0, 1) := dk_42 (ck1_s (r := 43) dT_cX11_readLine_2 rfl dg_cX11_readLine_893.2.2.2.2.2.1)
theorem dX11_readLine_172 : decode cX11_readLine 172 = .ok (.iconst 1, 1) := dk_4 (ck1_s (r := 44) dT_cX11_readLine_2 rfl dg_cX11_readLine_893.2.2.2.2.2.2.1)
theorem dX11_readLine_173 : decode cX11_readLine 173 = .ok (.putfield 363, 3) := dk_181 (ck3_s (r := 45) dT_cX11_readLine_2 rfl dg_cX11_readLine_893.2.2.2.2.2.2.2)
theorem dg_cX11_readLine_894 : ck1L dS_cX11_readLine_2 48 42 = true ∧ ck1L dS_cX11_readLine_2 49 42 = true ∧ ck3L dS_cX11_readLine_2 50 20 202 = true ∧ ck2sL dS_cX11_readLine_2 53 16 99 = true ∧ ck3L dS_cX11_readLine_2 55 182 246 = true ∧ ck3L dS_cX11_readLine_2 58 181 366 = true ∧ ck3sL dS_cX11_readLine_2 61 167 85 = true ∧ ck1L dS_cX11_readLine_3 0 42 = true := by decide +kernel
theorem dX11_readLine_176 : decode cX11_readLine 176 = .ok (.aload_n 0, 1) := dk_42 (ck1_s (r := 48) dT_cX11_readLine_2 rfl dg_cX11_readLine_894.1)
theorem dX11_readLine_177 : decode cX11_readLine 177 = .ok (.aload_n 0, 1) := dk_42 (ck1_s (r := 49) dT_cX11_readLine_2 rfl dg_cX11_readLine_894.2.1)
theorem dX11_readLine_178 : decode cX11_readLine 178 = .ok (.ldc2_w 202, 3) := dk_20 (ck3_s (r := 50) dT_cX11_readLine_2 rfl dg_cX11_readLine_894.2.2.1)
theorem dX11_readLine_181 : decode cX11_readLine 181 = .ok (.bipush 99, 2) := dk_16 (ck2s_s (r := 53) dT_cX11_readLine_2 rfl dg_cX11_readLine_894.2.2.2.1)
theorem dX11_readLine_183 : decode cX11_readLine 183 = .ok (.invokevirtual 246, 3) := dk_182 (ck3_s (r := 55) dT_cX11_readLine_2 rfl dg_cX11_readLine_894.2.2.2.2.1)
theorem dX11_readLine_186 : decode cX11_readLine 186 = .ok (.putfield 366, 3) := dk_181 (ck3_s (r := 58) dT_cX11_readLine_2 rfl dg_cX11_readLine_894.2.2.2.2.2.1)
theorem dX11_readLine_189 : decode cX11_readLine 189 = .ok (.goto 85, 3) := dk_167 (ck3s_s (r := 61) dT_cX11_readLine_2 rfl dg_cX11_readLine_894.2.2.2.2.2.2.1)
theorem dX11_readLine_192 : decode cX11_readLine 192 = .ok (.aload_n 0, 1) := dk_42 (ck1_s (r := 0) dT_cX11_readLine_3 rfl dg_cX11_readLine_894.2.2.2.2.2.2.2)
theorem dg_cX11_readLine_895 : ck3L dS_cX11_readLine_3 1 20 204 = true ∧ ck3L dS_cX11_readLine_3 4 182 228 = true ∧ ck3sL dS_cX11_readLine_3 7 153 31 = true ∧ ck1L dS_cX11_readLine_3 10 42 = true ∧ ck3L dS_cX11_readLine_3 11 180 369 = true ∧ ck3sL dS_cX11_readLine_3 14 154 24 = true ∧ ck1L dS_cX11_readLine_3 17 42 = true ∧ ck1L dS_cX11_readLine_3 18 4 = true := by decide +kernel
theorem dX11_readLine_193 : decode cX11_readLine 193 = .ok (.ldc2_w 204, 3) := dk_20 (ck3_s (r := 1) dT_cX11_readLine_3 rfl dg_cX11_readLine_895.1)
theorem dX11_readLine_196 : decode cX11_readLine 196 = .ok (.invokevirtual 228, 3) := dk_182 (ck3_s (r := 4) dT_cX11_readLine_3 rfl dg_cX11_readLine_895.2.1)
theorem dX11_readLine_199 : decode cX11_readLine 199 = .ok (.ifCond .eq 31, 3) := dk_153 (ck3s_s (r := 7) dT_cX11_readLine_3 rfl dg_cX11_readLine_895.2.2.1)
theorem dX11_readLine_202 : decode cX11_readLine 202 = .ok (.aload_n 0, 1) := dk_42 (ck1_s (r := 10) dT_cX11_readLine_3 rfl dg_cX11_readLine_895.2.2.2.1)
theorem dX11_readLine_203 : decode cX11_readLine 203 = .ok (.getfield 369, 3) := dk_180 (ck3_s (r := 11) dT_cX11_readLine_3 rfl dg_cX11_readLine_895.2.2.2.2.1)
theorem dX11_readLine_206 : decode cX11_readLine 206 = .ok (.ifCond .ne 24, 3) := dk_154 (ck3s_s (r := 14) dT_cX11_readLine_3 rfl dg_cX11_readLine_895.2.2.2.2.2.1)
theorem dX11_readLine_209 : decode cX11_readLine 209 = .ok (.aload_n 0, 1) := dk_42 (ck1_s (r := 17) dT_cX11_readLine_3 rfl dg_cX11_readLine_895.2.2.2.2.2.2.1)
theorem dX11_readLine_210 : decode cX11_readLine 210 = .ok (.iconst 1, 1) := dk_4 (ck1_s (r := 18) dT_cX11_readLine_3 rfl dg_cX11_readLine_895.2.2.2.2.2.2.2)
theorem dg_cX11_readLine_896 : ck3L dS_cX11_readLine_3 19 181 369 = true ∧ ck1L dS_cX11_readLine_3 22 42 = true ∧ ck1L dS_cX11_readLine_3 23 42 = true ∧ ck3L dS_cX11_readLine_3 24 20 204 = true ∧ ck2sL dS_cX11_readLine_3 27 16 100 = true ∧ ck3L dS_cX11_readLine_3 29 182 246 = true ∧ ck3L dS_cX11_readLine_3 32 181 372 = true ∧ ck3sL dS_cX11_readLine_3 35 167 47 = true := by decide +kernel
theorem dX11_readLine_211 : decode cX11_readLine 211 = .ok (.putfield 369, 3) := dk_181 (ck3_s (r := 19) dT_cX11_readLine_3 rfl dg_cX11_readLine_896.1)
theorem dX11_readLine_214 : decode cX11_readLine 214 = .ok (.aload_n 0, 1) := dk_42 (ck1_s (r := 22) dT_cX11_readLine_3 rfl dg_cX11_readLine_896.2.1)
theorem dX11_readLine_215 : decode cX11_readLine 215 = .ok (.aload_n 0, 1) := dk_42 (ck1_s (r := 23) dT_cX11_readLine_3 rfl dg_cX11_readLine_896.2.2.1)
theorem dX11_readLine_216 : decode cX11_readLine 216 = .ok (.ldc2_w 204, 3) := dk_20 (ck3_s (r := 24) dT_cX11_readLine_3 rfl dg_cX11_readLine_896.2.2.2.1)
theorem dX11_readLine_219 : decode cX11_readLine 219 = .ok (.bipush 100, 2) := dk_16 (ck2s_s (r := 27) dT_cX11_readLine_3 rfl dg_cX11_readLine_896.2.2.2.2.1)
theorem dX11_readLine_221 : decode cX11_readLine 221 = .ok (.invokevirtual 246, 3) := dk_182 (ck3_s (r := 29) dT_cX11_readLine_3 rfl dg_cX11_readLine_896.2.2.2.2.2.1)
theorem dX11_readLine_224 : decode cX11_readLine 224 = .ok (.putfield 372, 3) := dk_181 (ck3_s (r := 32) dT_cX11_readLine_3 rfl dg_cX11_readLine_896.2.2.2.2.2.2.1)
theorem dX11_readLine_227 : decode cX11_readLine 227 = .ok (.goto 47, 3) := dk_167 (ck3s_s (r := 35) dT_cX11_readLine_3 rfl dg_cX11_readLine_896.2.2.2.2.2.2.2)
theorem dg_cX11_readLine_897 : ck1L dS_cX11_readLine_3 38 42 = true ∧ ck3L dS_cX11_readLine_3 39 20 206 = true ∧ ck3L dS_cX11_readLine_3 42 182 228 = true ∧ ck3sL dS_cX11_readLine_3 45 153 32 = true ∧ ck1L dS_cX11_readLine_3 48 42 = true ∧ ck3L dS_cX11_readLine_3 49 180 375 = true ∧ ck3sL dS_cX11_readLine_3 52 154 25 = true ∧ ck1L dS_cX11_readLine_3 55 42 = true := by decide +kernel
theorem dX11_readLine_230 : decode cX11_readLine 230 = .ok (.aload_n 0, 1) := dk_42 (ck1_s (r := 38) dT_cX11_readLine_3 rfl dg_cX11_readLine_897.1)
theorem dX11_readLine_231 : decode cX11_readLine 231 = .ok (.ldc2_w 206, 3) := dk_20 (ck3_s (r := 39) dT_cX11_readLine_3 rfl dg_cX11_readLine_897.2.1)
theorem dX11_readLine_234 : decode cX11_readLine 234 = .ok (.invokevirtual 228, 3) := dk_182 (ck3_s (r := 42) dT_cX11_readLine_3 rfl dg_cX11_readLine_897.2.2.1)
theorem dX11_readLine_237 : decode cX11_readLine 237 = .ok (.ifCond .eq 32, 3) := dk_153 (ck3s_s (r := 45) dT_cX11_readLine_3 rfl dg_cX11_readLine_897.2.2.2.1)
theorem dX11_readLine_240 : decode cX11_readLine 240 = .ok (.aload_n 0, 1) := dk_42 (ck1_s (r := 48) dT_cX11_readLine_3 rfl dg_cX11_readLine_897.2.2.2.2.1)
theorem dX11_readLine_241 : decode cX11_readLine 241 = .ok (.getfield 375, 3) := dk_180 (ck3_s (r := 49) dT_cX11_readLine_3 rfl dg_cX11_readLine_897.2.2.2.2.2.1)
theorem dX11_readLine_244 : decode cX11_readLine 244 = .ok (.ifCond .ne 25, 3) := dk_154 (ck3s_s (r := 52) dT_cX11_readLine_3 rfl dg_cX11_readLine_897.2.2.2.2.2.2.1)
theorem dX11_readLine_247 : decode cX11_readLine 247 = .ok (.aload_n 0, 1) := dk_42 (ck1_s (r := 55) dT_cX11_readLine_3 rfl dg_cX11_readLine_897.2.2.2.2.2.2.2)
theorem dg_cX11_readLine_898 : ck1L dS_cX11_readLine_3 56 4 = true ∧ ck3L dS_cX11_readLine_3 57 181 375 = true ∧ ck1L dS_cX11_readLine_3 60 42 = true ∧ ck1L dS_cX11_readLine_3 61 42 = true ∧ ck3L dS_cX11_readLine_3 62 20 206 = true ∧ ck3sL dS_cX11_readLine_4 1 17 999 = true ∧ ck3L dS_cX11_readLine_4 4 182 246 = true ∧ ck3L dS_cX11_readLine_4 7 181 378 = true := by decide +kernel
theorem dX11_readLine_248 : decode cX11_readLine 248 = .ok (.iconst 1, 1) := dk_4 (ck1_s (r := 56) dT_cX11_readLine_3 rfl dg_cX11_readLine_898.1)
theorem dX11_readLine_249 : decode cX11_readLine 249 = .ok (.putfield 375, 3) := dk_181 (ck3_s (r := 57) dT_cX11_readLine_3 rfl dg_cX11_readLine_898.2.1)
theorem dX11_readLine_252 : decode cX11_readLine 252 = .ok (.aload_n 0, 1) := dk_42 (ck1_s (r := 60) dT_cX11_readLine_3 rfl dg_cX11_readLine_898.2.2.1)
theorem dX11_readLine_253 : decode cX11_readLine 253 = .ok (.aload_n 0, 1) := dk_42 (ck1_s (r := 61) dT_cX11_readLine_3 rfl dg_cX11_readLine_898.2.2.2.1)
theorem dX11_readLine_254 : decode cX11_readLine 254 = .ok (.ldc2_w 206, 3) := dk_20 (ck3_s (r := 62) dT_cX11_readLine_3 rfl dg_cX11_readLine_898.2.2.2.2.1)
theorem dX11_readLine_257 : decode cX11_readLine 257 = .ok (.sipush 999, 3) := dk_17 (ck3s_s (r := 1) dT_cX11_readLine_4 rfl dg_cX11_readLine_898.2.2.2.2.2.1)
theorem dX11_readLine_260 : decode cX11_readLine 260 = .ok (.invokevirtual 246, 3) := dk_182 (ck3_s (r := 4) dT_cX11_readLine_4 rfl dg_cX11_readLine_898.2.2.2.2.2.2.1)
theorem dX11_readLine_263 : decode cX11_readLine 263 = .ok (.putfield 378, 3) := dk_181 (ck3_s (r := 7) dT_cX11_readLine_4 rfl dg_cX11_readLine_898.2.2.2.2.2.2.2)
theorem dg_cX11_readLine_899 : ck3sL dS_cX11_readLine_4 10 167 8 = true ∧ ck1L dS_cX11_readLine_4 13 42 = true ∧ ck1L dS_cX11_readLine_4 14 5 = true ∧ ck3L dS_cX11_readLine_4 15 182 232 = true ∧ ck1L dS_cX11_readLine_4 18 42 = true ∧ ck3L dS_cX11_readLine_4 19 180 179 = true ∧ ck3sL dS_cX11_readLine_4 22 154 17 = true ∧ ck1L dS_cX11_readLine_4 25 42 = true := by decide +kernel
theorem dX11_readLine_266 : decode cX11_readLine 266 = .ok (.goto 8, 3) := dk_167 (ck3s_s (r := 10) dT_cX11_readLine_4 rfl dg_cX11_readLine_899.1)
theorem dX11_readLine_269 : decode cX11_readLine 269 = .ok (.aload_n 0, 1) := dk_42 (ck1_s (r := 13) dT_cX11_readLine_4 rfl dg_cX11_readLine_899.2.1)
theorem dX11_readLine_270 : decode cX11_readLine 270 = .ok (.iconst 2, 1) := dk_5 (ck1_s (r := 14) dT_cX11_readLine_4 rfl dg_cX11_readLine_899.2.2.1)
theorem dX11_readLine_271 : decode cX11_readLine 271 = .ok (.invokevirtual 232, 3) := dk_182 (ck3_s (r := 15) dT_cX11_readLine_4 rfl dg_cX11_readLine_899.2.2.2.1)
theorem dX11_readLine_274 : decode cX11_readLine 274 = .ok (.aload_n 0, 1) := dk_42 (ck1_s (r := 18) dT_cX11_readLine_4 rfl dg_cX11_readLine_899.2.2.2.2.1)
theorem dX11_readLine_275 : decode cX11_readLine 275 = .ok (.getfield 179, 3) := dk_180 (ck3_s (r := 19) dT_cX11_readLine_4 rfl dg_cX11_readLine_899.2.2.2.2.2.1)
theorem dX11_readLine_278 : decode cX11_readLine 278 = .ok (.ifCond .ne 17, 3) := dk_154 (ck3s_s (r := 22) dT_cX11_readLine_4 rfl dg_cX11_readLine_899.2.2.2.2.2.2.1)
theorem dX11_readLine_281 : decode cX11_readLine 281 = .ok (.aload_n 0, 1) := dk_42 (ck1_s (r := 25) dT_cX11_readLine_4 rfl dg_cX11_readLine_899.2.2.2.2.2.2.2)
theorem dg_cX11_readLine_900 : ck3L dS_cX11_readLine_4 26 180 166 = true ∧ ck2sL dS_cX11_readLine_4 29 16 59 = true ∧ ck3sL dS_cX11_readLine_4 31 159 8 = true ∧ ck1L dS_cX11_readLine_4 34 42 = true ∧ ck1L dS_cX11_readLine_4 35 5 = true ∧ ck3L dS_cX11_readLine_4 36 182 232 = true ∧ ck1L dS_cX11_readLine_4 39 42 = true ∧ ck3L dS_cX11_readLine_4 40 180 179 = true := by decide +kernel
theorem dX11_readLine_282 : decode cX11_readLine 282 = .ok (.getfield 166, 3) := dk_180 (ck3_s (r := 26) dT_cX11_readLine_4 rfl dg_cX11_readLine_900.1)
theorem dX11_readLine_285 : decode cX11_readLine 285 = .ok (.bipush 59, 2) := dk_16 (ck2s_s (r := 29) dT_cX11_readLine_4 rfl dg_cX11_readLine_900.2.1)
theorem dX11_readLine_287 : decode cX11_readLine 287 = .ok (.if_icmp .eq 8, 3) := dk_159 (ck3s_s (r := 31) dT_cX11_readLine_4 rfl dg_cX11_readLine_900.2.2.1)
theorem dX11_readLine_290 : decode cX11_readLine 290 = .ok (.aload_n 0, 1) := dk_42 (ck1_s (r := 34) dT_cX11_readLine_4 rfl dg_cX11_readLine_900.2.2.2.1)
theorem dX11_readLine_291 : decode cX11_readLine 291 = .ok (.iconst 2, 1) := dk_5 (ck1_s (r := 35) dT_cX11_readLine_4 rfl dg_cX11_readLine_900.2.2.2.2.1)
theorem dX11_readLine_292 : decode cX11_readLine 292 = .ok (.invokevirtual 232, 3) := dk_182 (ck3_s (r := 36) dT_cX11_readLine_4 rfl dg_cX11_readLine_900.2.2.2.2.2.1)
theorem dX11_readLine_295 : decode cX11_readLine 295 = .ok (.aload_n 0, 1) := dk_42 (ck1_s (r := 39) dT_cX11_readLine_4 rfl dg_cX11_readLine_900.2.2.2.2.2.2.1)
theorem dX11_readLine_296 : decode cX11_readLine 296 = .ok (.getfield 179, 3) := dk_180 (ck3_s (r := 40) dT_cX11_readLine_4 rfl dg_cX11_readLine_900.2.2.2.2.2.2.2)
theorem dg_cX11_readLine_901 : ck3sL dS_cX11_readLine_4 43 154 7 = true ∧ ck1L dS_cX11_readLine_4 46 42 = true ∧ ck3L dS_cX11_readLine_4 47 182 235 = true ∧ ck1L dS_cX11_readLine_4 50 177 = true := by decide +kernel
theorem dX11_readLine_299 : decode cX11_readLine 299 = .ok (.ifCond .ne 7, 3) := dk_154 (ck3s_s (r := 43) dT_cX11_readLine_4 rfl dg_cX11_readLine_901.1)
theorem dX11_readLine_302 : decode cX11_readLine 302 = .ok (.aload_n 0, 1) := dk_42 (ck1_s (r := 46) dT_cX11_readLine_4 rfl dg_cX11_readLine_901.2.1)
theorem dX11_readLine_303 : decode cX11_readLine 303 = .ok (.invokevirtual 235, 3) := dk_182 (ck3_s (r := 47) dT_cX11_readLine_4 rfl dg_cX11_readLine_901.2.2.1)
theorem dX11_readLine_306 : decode cX11_readLine 306 = .ok (.return_, 1) := dk_177 (ck1_s (r := 50) dT_cX11_readLine_4 rfl dg_cX11_readLine_901.2.2.2)
theorem dg_cX11_readMan_902 : ck1 cX11_readMan 0 42 = true ∧ ck1 cX11_readMan 1 3 = true ∧ ck1 cX11_readMan 2 42 = true ∧ ck3 cX11_readMan 3 180 330 = true ∧ ck3 cX11_readMan 6 182 333 = true ∧ ck1 cX11_readMan 9 42 = true ∧ ck3 cX11_readMan 10 180 42 = true ∧ ck1 cX11_readMan 13 42 = true := by decide +kernel
theorem dX11_readMan_0 : decode cX11_readMan 0 = .ok (.aload_n 0, 1) := dk_42 dg_cX11_readMan_902.1
theorem dX11_readMan_1 : decode cX11_readMan 1 = .ok (.iconst 0, 1) := dk_3 dg_cX11_readMan_902.2.1
theorem dX11_readMan_2 : decode cX11_readMan 2 = .ok (.aload_n 0, 1) := dk_42 dg_cX11_readMan_902.2.2.1
theorem dX11_readMan_3 : decode cX11_readMan 3 = .ok (.getfield 330, 3) := dk_180 dg_cX11_readMan_902.2.2.2.1
theorem dX11_readMan_6 : decode cX11_readMan 6 = .ok (.invokevirtual 333, 3) := dk_182 dg_cX11_readMan_902.2.2.2.2.1
theorem dX11_readMan_9 : decode cX11_readMan 9 = .ok (.aload_n 0, 1) := dk_42 dg_cX11_readMan_902.2.2.2.2.2.1
theorem dX11_readMan_10 : decode cX11_readMan 10 = .ok (.getfield 42, 3) := dk_180 dg_cX11_readMan_902.2.2.2.2.2.2.1
theorem dX11_readMan_13 : decode cX11_readMan 13 = .ok (.aload_n 0, 1) := dk_42 dg_cX11_readMan_902.2.2.2.2.2.2.2
theorem dg_cX11_readMan_903 : ck3 cX11_readMan 14 180 330 = true ∧ ck1 cX11_readMan 17 42 = true ∧ ck3 cX11_readMan 18 20 184 = true ∧ ck2s cX11_readMan 21 16 99 = true ∧ ck3 cX11_readMan 23 182 246 = true ∧ ck1 cX11_readMan 26 79 = true ∧ ck1 cX11_readMan 27 42 = true ∧ ck3 cX11_readMan 28 180 45 = true := by decide +kernel
theorem dX11_readMan_14 : decode cX11_readMan 14 = .ok (.getfield 330, 3) := dk_180 dg_cX11_readMan_903.1
theorem dX11_readMan_17 : decode cX11_readMan 17 = .ok (.aload_n 0, 1) := dk_42 dg_cX11_readMan_903.2.1
theorem dX11_readMan_18 : decode cX11_readMan 18 = .ok (.ldc2_w 184, 3) := dk_20 dg_cX11_readMan_903.2.2.1
theorem dX11_readMan_21 : decode cX11_readMan 21 = .ok (.bipush 99, 2) := dk_16 dg_cX11_readMan_903.2.2.2.1
theorem dX11_readMan_23 : decode cX11_readMan 23 = .ok (.invokevirtual 246, 3) := dk_182 dg_cX11_readMan_903.2.2.2.2.1
theorem dX11_readMan_26 : decode cX11_readMan 26 = .ok (.iastore, 1) := dk_79 dg_cX11_readMan_903.2.2.2.2.2.1
theorem dX11_readMan_27 : decode cX11_readMan 27 = .ok (.aload_n 0, 1) := dk_42 dg_cX11_readMan_903.2.2.2.2.2.2.1
theorem dX11_readMan_28 : decode cX11_readMan 28 = .ok (.getfield 45, 3) := dk_180 dg_cX11_readMan_903.2.2.2.2.2.2.2
theorem dg_cX11_readMan_904 : ck1 cX11_readMan 31 42 = true ∧ ck3 cX11_readMan 32 180 330 = true ∧ ck1 cX11_readMan 35 42 = true ∧ ck3 cX11_readMan 36 20 186 = true ∧ ck2s cX11_readMan 39 16 99 = true ∧ ck3 cX11_readMan 41 182 246 = true ∧ ck1 cX11_readMan 44 79 = true ∧ ck1 cX11_readMan 45 42 = true := by decide +kernel
theorem dX11_readMan_31 : decode cX11_readMan 31 = .ok (.aload_n 0, 1) := dk_42 dg_cX11_readMan_904.1
theorem dX11_readMan_32 : decode cX11_readMan 32 = .ok (.getfield 330, 3) := dk_180 dg_cX11_readMan_904.2.1
theorem dX11_readMan_35 : decode cX11_readMan 35 = .ok (.aload_n 0, 1) := dk_42 dg_cX11_readMan_904.2.2.1
theorem dX11_readMan_36 : decode cX11_readMan 36 = .ok (.ldc2_w 186, 3) := dk_20 dg_cX11_readMan_904.2.2.2.1
theorem dX11_readMan_39 : decode cX11_readMan 39 = .ok (.bipush 99, 2) := dk_16 dg_cX11_readMan_904.2.2.2.2.1
theorem dX11_readMan_41 : decode cX11_readMan 41 = .ok (.invokevirtual 246, 3) := dk_182 dg_cX11_readMan_904.2.2.2.2.2.1
theorem dX11_readMan_44 : decode cX11_readMan 44 = .ok (.iastore, 1) := dk_79 dg_cX11_readMan_904.2.2.2.2.2.2.1
theorem dX11_readMan_45 : decode cX11_readMan 45 = .ok (.aload_n 0, 1) := dk_42 dg_cX11_readMan_904.2.2.2.2.2.2.2
theorem dg_cX11_readMan_905 : ck3 cX11_readMan 46 180 48 = true ∧ ck1 cX11_readMan 49 42 = true ∧ ck3 cX11_readMan 50 180 330 = true ∧ ck1 cX11_readMan 53 42 = true ∧ ck3 cX11_readMan 54 20 188 = true ∧ ck2s cX11_readMan 57 16 9 = true ∧ ck3 cX11_readMan 59 182 336 = true ∧ ck1 cX11_readMan 62 79 = true := by decide +kernel
theorem dX11_readMan_46 : decode cX11_readMan 46 = .ok (.getfield 48, 3) := dk_180 dg_cX11_readMan_905.1
theorem dX11_readMan_49 : decode cX11_readMan 49 = .ok (.aload_n 0, 1) := dk_42 dg_cX11_readMan_905.2.1
theorem dX11_readMan_50 : decode cX11_readMan 50 = .ok (.getfield 330, 3) := dk_180 dg_cX11_readMan_905.2.2.1
theorem dX11_readMan_53 : decode cX11_readMan 53 = .ok (.aload_n 0, 1) := dk_42 dg_cX11_readMan_905.2.2.2.1
theorem dX11_readMan_54 : decode cX11_readMan 54 = .ok (.ldc2_w 188, 3) := dk_20 dg_cX11_readMan_905.2.2.2.2.1
theorem dX11_readMan_57 : decode cX11_readMan 57 = .ok (.bipush 9, 2) := dk_16 dg_cX11_readMan_905.2.2.2.2.2.1
theorem dX11_readMan_59 : decode cX11_readMan 59 = .ok (.invokevirtual 336, 3) := dk_182 dg_cX11_readMan_905.2.2.2.2.2.2.1
theorem dX11_readMan_62 : decode cX11_readMan 62 = .ok (.iastore, 1) := dk_79 dg_cX11_readMan_905.2.2.2.2.2.2.2
theorem dg_cX11_readMan_906 : ck1 cX11_readMan 63 42 = true := by decide +kernel
theorem dX11_readMan_63 : decode cX11_readMan 63 = .ok (.aload_n 0, 1) := dk_42 dg_cX11_readMan_906
def dS_cX11_readMan_1 : List UInt8 := 180 :: 0 :: 179 :: 154 :: 0 :: 13 :: 42 :: 89 :: 180 :: 1 :: 74 :: 4 :: 96 :: 181 :: 1 :: 74 :: 177 :: []
def dS_cX11_readMan_0 : List UInt8 := 42 :: 3 :: 42 :: 180 :: 1 :: 74 :: 182 :: 1 :: 77 :: 42 :: 180 :: 0 :: 42 :: 42 :: 180 :: 1 :: 74 :: 42 :: 20 :: 0 :: 184 :: 16 :: 99 :: 182 :: 0 :: 246 :: 79 :: 42 :: 180 :: 0 :: 45 :: 42 :: 180 :: 1 :: 74 :: 42 :: 20 :: 0 :: 186 :: 16 :: 99 :: 182 :: 0 :: 246 :: 79 :: 42 :: 180 :: 0 :: 48 :: 42 :: 180 :: 1 :: 74 :: 42 :: 20 :: 0 :: 188 :: 16 :: 9 :: 182 :: 1 :: 80 :: 79 :: 42 :: dS_cX11_readMan_1
theorem dT_cX11_readMan_0 : cX11_readMan.data.toList.drop 0 = dS_cX11_readMan_0 := by decide +kernel
theorem dT_cX11_readMan_1 : cX11_readMan.data.toList.drop 64 = dS_cX11_readMan_1 := ck_nx dT_cX11_readMan_0 (by decide +kernel) rfl
theorem dg_cX11_readMan_907 : ck3L dS_cX11_readMan_1 0 180 179 = true ∧ ck3sL dS_cX11_readMan_1 3 154 13 = true ∧ ck1L dS_cX11_readMan_1 6 42 = true ∧ ck1L dS_cX11_readMan_1 7 89 = true ∧ ck3L dS_cX11_readMan_1 8 180 330 = true ∧ ck1L dS_cX11_readMan_1 11 4 = true ∧ ck1L dS_cX11_readMan_1 12 96 = true ∧ ck3L dS_cX11_readMan_1 13 181 330 = true := by decide +kernel
theorem dX11_readMan_64 : decode cX11_readMan 64 = .ok (.getfield 179, 3) := dk_180 (ck3_s (r := 0) dT_cX11_readMan_1 rfl dg_cX11_readMan_907.1)
theorem dX11_readMan_67 : decode cX11_readMan 67 = .ok (.ifCond .ne 13, 3) := dk_154 (ck3s_s (r := 3) dT_cX11_readMan_1 rfl dg_cX11_readMan_907.2.1)
theorem dX11_readMan_70 : decode cX11_readMan 70 = .ok (.aload_n 0, 1) := dk_42 (ck1_s (r := 6) dT_cX11_readMan_1 rfl dg_cX11_readMan_907.2.2.1)
theorem dX11_readMan_71 : decode cX11_readMan 71 = .ok (.dup, 1) := dk_89 (ck1_s (r := 7) dT_cX11_readMan_1 rfl dg_cX11_readMan_907.2.2.2.1)
theorem dX11_readMan_72 : decode cX11_readMan 72 = .ok (.getfield 330, 3) := dk_180 (ck3_s (r := 8) dT_cX11_readMan_1 rfl dg_cX11_readMan_907.2.2.2.2.1)
theorem dX11_readMan_75 : decode cX11_readMan 75 = .ok (.iconst 1, 1) := dk_4 (ck1_s (r := 11) dT_cX11_readMan_1 rfl dg_cX11_readMan_907.2.2.2.2.2.1)
theorem dX11_readMan_76 : decode cX11_readMan 76 = .ok (.iadd, 1) := dk_96 (ck1_s (r := 12) dT_cX11_readMan_1 rfl dg_cX11_readMan_907.2.2.2.2.2.2.1)
theorem dX11_readMan_77 : decode cX11_readMan 77 = .ok (.putfield 330, 3) := dk_181 (ck3_s (r := 13) dT_cX11_readMan_1 rfl dg_cX11_readMan_907.2.2.2.2.2.2.2)
theorem dg_cX11_readMan_908 : ck1L dS_cX11_readMan_1 16 177 = true := by decide +kernel
theorem dX11_readMan_80 : decode cX11_readMan 80 = .ok (.return_, 1) := dk_177 (ck1_s (r := 16) dT_cX11_readMan_1 rfl dg_cX11_readMan_908)
theorem dg_cX11_redo_909 : ck1 cX11_redo 0 42 = true ∧ ck3 cX11_redo 1 180 408 = true ∧ ck3s cX11_redo 4 154 5 = true ∧ ck1 cX11_redo 7 3 = true ∧ ck1 cX11_redo 8 172 = true ∧ ck1 cX11_redo 9 42 = true ∧ ck2s cX11_redo 10 16 39 = true ∧ ck1 cX11_redo 12 42 = true := by decide +kernel
theorem dX11_redo_0 : decode cX11_redo 0 = .ok (.aload_n 0, 1) := dk_42 dg_cX11_redo_909.1
theorem dX11_redo_1 : decode cX11_redo 1 = .ok (.getfield 408, 3) := dk_180 dg_cX11_redo_909.2.1
theorem dX11_redo_4 : decode cX11_redo 4 = .ok (.ifCond .ne 5, 3) := dk_154 dg_cX11_redo_909.2.2.1
theorem dX11_redo_7 : decode cX11_redo 7 = .ok (.iconst 0, 1) := dk_3 dg_cX11_redo_909.2.2.2.1
theorem dX11_redo_8 : decode cX11_redo 8 = .ok (.ireturn, 1) := dk_172 dg_cX11_redo_909.2.2.2.2.1
theorem dX11_redo_9 : decode cX11_redo 9 = .ok (.aload_n 0, 1) := dk_42 dg_cX11_redo_909.2.2.2.2.2.1
theorem dX11_redo_10 : decode cX11_redo 10 = .ok (.bipush 39, 2) := dk_16 dg_cX11_redo_909.2.2.2.2.2.2.1
theorem dX11_redo_12 : decode cX11_redo 12 = .ok (.aload_n 0, 1) := dk_42 dg_cX11_redo_909.2.2.2.2.2.2.2
theorem dg_cX11_redo_910 : ck3 cX11_redo 13 180 405 = true ∧ ck1 cX11_redo 16 104 = true ∧ ck3 cX11_redo 17 182 467 = true ∧ ck1 cX11_redo 20 42 = true ∧ ck1 cX11_redo 21 89 = true ∧ ck3 cX11_redo 22 180 405 = true ∧ ck1 cX11_redo 25 4 = true ∧ ck1 cX11_redo 26 96 = true := by decide +kernel
theorem dX11_redo_13 : decode cX11_redo 13 = .ok (.getfield 405, 3) := dk_180 dg_cX11_redo_910.1
theorem dX11_redo_16 : decode cX11_redo 16 = .ok (.imul, 1) := dk_104 dg_cX11_redo_910.2.1
theorem dX11_redo_17 : decode cX11_redo 17 = .ok (.invokevirtual 467, 3) := dk_182 dg_cX11_redo_910.2.2.1
theorem dX11_redo_20 : decode cX11_redo 20 = .ok (.aload_n 0, 1) := dk_42 dg_cX11_redo_910.2.2.2.1
theorem dX11_redo_21 : decode cX11_redo 21 = .ok (.dup, 1) := dk_89 dg_cX11_redo_910.2.2.2.2.1
theorem dX11_redo_22 : decode cX11_redo 22 = .ok (.getfield 405, 3) := dk_180 dg_cX11_redo_910.2.2.2.2.2.1
theorem dX11_redo_25 : decode cX11_redo 25 = .ok (.iconst 1, 1) := dk_4 dg_cX11_redo_910.2.2.2.2.2.2.1
theorem dX11_redo_26 : decode cX11_redo 26 = .ok (.iadd, 1) := dk_96 dg_cX11_redo_910.2.2.2.2.2.2.2
theorem dg_cX11_redo_911 : ck3 cX11_redo 27 181 405 = true ∧ ck1 cX11_redo 30 42 = true ∧ ck1 cX11_redo 31 89 = true ∧ ck3 cX11_redo 32 180 408 = true ∧ ck1 cX11_redo 35 4 = true ∧ ck1 cX11_redo 36 100 = true ∧ ck3 cX11_redo 37 181 408 = true ∧ ck1 cX11_redo 40 4 = true := by decide +kernel
theorem dX11_redo_27 : decode cX11_redo 27 = .ok (.putfield 405, 3) := dk_181 dg_cX11_redo_911.1
theorem dX11_redo_30 : decode cX11_redo 30 = .ok (.aload_n 0, 1) := dk_42 dg_cX11_redo_911.2.1
theorem dX11_redo_31 : decode cX11_redo 31 = .ok (.dup, 1) := dk_89 dg_cX11_redo_911.2.2.1
theorem dX11_redo_32 : decode cX11_redo 32 = .ok (.getfield 408, 3) := dk_180 dg_cX11_redo_911.2.2.2.1
theorem dX11_redo_35 : decode cX11_redo 35 = .ok (.iconst 1, 1) := dk_4 dg_cX11_redo_911.2.2.2.2.1
theorem dX11_redo_36 : decode cX11_redo 36 = .ok (.isub, 1) := dk_100 dg_cX11_redo_911.2.2.2.2.2.1
theorem dX11_redo_37 : decode cX11_redo 37 = .ok (.putfield 408, 3) := dk_181 dg_cX11_redo_911.2.2.2.2.2.2.1
theorem dX11_redo_40 : decode cX11_redo 40 = .ok (.iconst 1, 1) := dk_4 dg_cX11_redo_911.2.2.2.2.2.2.2
theorem dg_cX11_redo_912 : ck1 cX11_redo 41 172 = true := by decide +kernel
theorem dX11_redo_41 : decode cX11_redo 41 = .ok (.ireturn, 1) := dk_172 dg_cX11_redo_912
theorem dg_cX11_regiment_913 : ck1 cX11_regiment 0 42 = true ∧ ck3 cX11_regiment 1 182 384 = true ∧ ck1 cX11_regiment 4 42 = true ∧ ck3 cX11_regiment 5 180 179 = true ∧ ck3s cX11_regiment 8 158 5 = true ∧ ck1 cX11_regiment 11 2 = true ∧ ck1 cX11_regiment 12 172 = true ∧ ck1 cX11_regiment 13 42 = true := by decide +kernel
theorem dX11_regiment_0 : decode cX11_regiment 0 = .ok (.aload_n 0, 1) := dk_42 dg_cX11_regiment_913.1
theorem dX11_regiment_1 : decode cX11_regiment 1 = .ok (.invokevirtual 384, 3) := dk_182 dg_cX11_regiment_913.2.1
theorem dX11_regiment_4 : decode cX11_regiment 4 = .ok (.aload_n 0, 1) := dk_42 dg_cX11_regiment_913.2.2.1
theorem dX11_regiment_5 : decode cX11_regiment 5 = .ok (.getfield 179, 3) := dk_180 dg_cX11_regiment_913.2.2.2.1
theorem dX11_regiment_8 : decode cX11_regiment 8 = .ok (.ifCond .le 5, 3) := dk_158 dg_cX11_regiment_913.2.2.2.2.1
theorem dX11_regiment_11 : decode cX11_regiment 11 = .ok (.iconst (-1), 1) := dk_2 dg_cX11_regiment_913.2.2.2.2.2.1
theorem dX11_regiment_12 : decode cX11_regiment 12 = .ok (.ireturn, 1) := dk_172 dg_cX11_regiment_913.2.2.2.2.2.2.1
theorem dX11_regiment_13 : decode cX11_regiment 13 = .ok (.aload_n 0, 1) := dk_42 dg_cX11_regiment_913.2.2.2.2.2.2.2
theorem dg_cX11_regiment_914 : ck1 cX11_regiment 14 42 = true ∧ ck3 cX11_regiment 15 180 330 = true ∧ ck3 cX11_regiment 18 181 387 = true ∧ ck1 cX11_regiment 21 42 = true ∧ ck1 cX11_regiment 22 42 = true ∧ ck3 cX11_regiment 23 180 339 = true ∧ ck3 cX11_regiment 26 181 390 = true ∧ ck1 cX11_regiment 29 42 = true := by decide +kernel
theorem dX11_regiment_14 : decode cX11_regiment 14 = .ok (.aload_n 0, 1) := dk_42 dg_cX11_regiment_914.1
theorem dX11_regiment_15 : decode cX11_regiment 15 = .ok (.getfield 330, 3) := dk_180 dg_cX11_regiment_914.2.1
theorem dX11_regiment_18 : decode cX11_regiment 18 = .ok (.putfield 387, 3) := dk_181 dg_cX11_regiment_914.2.2.1
theorem dX11_regiment_21 : decode cX11_regiment 21 = .ok (.aload_n 0, 1) := dk_42 dg_cX11_regiment_914.2.2.2.1
theorem dX11_regiment_22 : decode cX11_regiment 22 = .ok (.aload_n 0, 1) := dk_42 dg_cX11_regiment_914.2.2.2.2.1
theorem dX11_regiment_23 : decode cX11_regiment 23 = .ok (.getfield 339, 3) := dk_180 dg_cX11_regiment_914.2.2.2.2.2.1
theorem dX11_regiment_26 : decode cX11_regiment 26 = .ok (.putfield 390, 3) := dk_181 dg_cX11_regiment_914.2.2.2.2.2.2.1
theorem dX11_regiment_29 : decode cX11_regiment 29 = .ok (.aload_n 0, 1) := dk_42 dg_cX11_regiment_914.2.2.2.2.2.2.2
theorem dg_cX11_regiment_915 : ck1 cX11_regiment 30 42 = true ∧ ck3 cX11_regiment 31 180 354 = true ∧ ck3 cX11_regiment 34 181 84 = true ∧ ck1 cX11_regiment 37 42 = true ∧ ck1 cX11_regiment 38 42 = true ∧ ck3 cX11_regiment 39 180 360 = true ∧ ck3 cX11_regiment 42 181 87 = true ∧ ck1 cX11_regiment 45 42 = true := by decide +kernel
theorem dX11_regiment_30 : decode cX11_regiment 30 = .ok (.aload_n 0, 1) := dk_42 dg_cX11_regiment_915.1
theorem dX11_regiment_31 : decode cX11_regiment 31 = .ok (.getfield 354, 3) := dk_180 dg_cX11_regiment_915.2.1
theorem dX11_regiment_34 : decode cX11_regiment 34 = .ok (.putfield 84, 3) := dk_181 dg_cX11_regiment_915.2.2.1
theorem dX11_regiment_37 : decode cX11_regiment 37 = .ok (.aload_n 0, 1) := dk_42 dg_cX11_regiment_915.2.2.2.1
theorem dX11_regiment_38 : decode cX11_regiment 38 = .ok (.aload_n 0, 1) := dk_42 dg_cX11_regiment_915.2.2.2.2.1
theorem dX11_regiment_39 : decode cX11_regiment 39 = .ok (.getfield 360, 3) := dk_180 dg_cX11_regiment_915.2.2.2.2.2.1
theorem dX11_regiment_42 : decode cX11_regiment 42 = .ok (.putfield 87, 3) := dk_181 dg_cX11_regiment_915.2.2.2.2.2.2.1
theorem dX11_regiment_45 : decode cX11_regiment 45 = .ok (.aload_n 0, 1) := dk_42 dg_cX11_regiment_915.2.2.2.2.2.2.2
theorem dg_cX11_regiment_916 : ck1 cX11_regiment 46 42 = true ∧ ck3 cX11_regiment 47 180 366 = true ∧ ck3 cX11_regiment 50 181 90 = true ∧ ck1 cX11_regiment 53 42 = true ∧ ck1 cX11_regiment 54 42 = true ∧ ck3 cX11_regiment 55 180 372 = true ∧ ck3 cX11_regiment 58 181 393 = true ∧ ck1 cX11_regiment 61 42 = true := by decide +kernel
theorem dX11_regiment_46 : decode cX11_regiment 46 = .ok (.aload_n 0, 1) := dk_42 dg_cX11_regiment_916.1
theorem dX11_regiment_47 : decode cX11_regiment 47 = .ok (.getfield 366, 3) := dk_180 dg_cX11_regiment_916.2.1
theorem dX11_regiment_50 : decode cX11_regiment 50 = .ok (.putfield 90, 3) := dk_181 dg_cX11_regiment_916.2.2.1
theorem dX11_regiment_53 : decode cX11_regiment 53 = .ok (.aload_n 0, 1) := dk_42 dg_cX11_regiment_916.2.2.2.1
theorem dX11_regiment_54 : decode cX11_regiment 54 = .ok (.aload_n 0, 1) := dk_42 dg_cX11_regiment_916.2.2.2.2.1
theorem dX11_regiment_55 : decode cX11_regiment 55 = .ok (.getfield 372, 3) := dk_180 dg_cX11_regiment_916.2.2.2.2.2.1
theorem dX11_regiment_58 : decode cX11_regiment 58 = .ok (.putfield 393, 3) := dk_181 dg_cX11_regiment_916.2.2.2.2.2.2.1
theorem dX11_regiment_61 : decode cX11_regiment 61 = .ok (.aload_n 0, 1) := dk_42 dg_cX11_regiment_916.2.2.2.2.2.2.2
theorem dg_cX11_regiment_917 : ck1 cX11_regiment 62 42 = true ∧ ck3 cX11_regiment 63 180 269 = true := by decide +kernel
theorem dX11_regiment_62 : decode cX11_regiment 62 = .ok (.aload_n 0, 1) := dk_42 dg_cX11_regiment_917.1
theorem dX11_regiment_63 : decode cX11_regiment 63 = .ok (.getfield 269, 3) := dk_180 dg_cX11_regiment_917.2
def dS_cX11_regiment_4 : List UInt8 := 42 :: 180 :: 0 :: 96 :: 16 :: 38 :: 42 :: 180 :: 1 :: 122 :: 79 :: 42 :: 182 :: 1 :: 146 :: 42 :: 3 :: 181 :: 1 :: 149 :: 42 :: 3 :: 181 :: 1 :: 152 :: 42 :: 3 :: 181 :: 1 :: 155 :: 42 :: 3 :: 181 :: 1 :: 158 :: 3 :: 60 :: 27 :: 6 :: 162 :: 0 :: 16 :: 42 :: 180 :: 0 :: 133 :: 27 :: 3 :: 84 :: 132 :: 1 :: 1 :: 167 :: 255 :: 241 :: 42 :: 180 :: 1 :: 131 :: 172 :: []
def dS_cX11_regiment_3 : List UInt8 := 180 :: 1 :: 134 :: 162 :: 0 :: 57 :: 42 :: 180 :: 0 :: 72 :: 27 :: 42 :: 180 :: 0 :: 51 :: 27 :: 46 :: 79 :: 42 :: 180 :: 0 :: 75 :: 27 :: 42 :: 180 :: 0 :: 54 :: 27 :: 46 :: 79 :: 42 :: 180 :: 0 :: 78 :: 27 :: 42 :: 180 :: 0 :: 57 :: 27 :: 46 :: 79 :: 42 :: 180 :: 0 :: 81 :: 27 :: 42 :: 180 :: 0 :: 60 :: 27 :: 46 :: 79 :: 132 :: 1 :: 1 :: 167 :: 255 :: 197 :: 42 :: 182 :: 1 :: 143 :: dS_cX11_regiment_4
def dS_cX11_regiment_2 : List UInt8 := 46 :: 79 :: 132 :: 1 :: 1 :: 167 :: 255 :: 221 :: 3 :: 60 :: 27 :: 42 :: 180 :: 1 :: 131 :: 162 :: 0 :: 45 :: 42 :: 180 :: 0 :: 63 :: 27 :: 42 :: 180 :: 0 :: 42 :: 27 :: 46 :: 79 :: 42 :: 180 :: 0 :: 66 :: 27 :: 42 :: 180 :: 0 :: 45 :: 27 :: 46 :: 79 :: 42 :: 180 :: 0 :: 69 :: 27 :: 42 :: 180 :: 0 :: 48 :: 27 :: 46 :: 79 :: 132 :: 1 :: 1 :: 167 :: 255 :: 209 :: 3 :: 60 :: 27 :: 42 :: dS_cX11_regiment_3
def dS_cX11_regiment_1 : List UInt8 := 1 :: 13 :: 181 :: 1 :: 140 :: 42 :: 42 :: 180 :: 1 :: 35 :: 181 :: 1 :: 61 :: 42 :: 42 :: 180 :: 1 :: 35 :: 153 :: 0 :: 10 :: 42 :: 180 :: 0 :: 253 :: 167 :: 0 :: 4 :: 3 :: 181 :: 1 :: 67 :: 3 :: 60 :: 27 :: 42 :: 180 :: 1 :: 67 :: 162 :: 0 :: 33 :: 42 :: 180 :: 0 :: 27 :: 27 :: 42 :: 180 :: 0 :: 21 :: 27 :: 46 :: 79 :: 42 :: 180 :: 0 :: 30 :: 27 :: 42 :: 180 :: 0 :: 24 :: 27 :: dS_cX11_regiment_2
def dS_cX11_regiment_0 : List UInt8 := 42 :: 182 :: 1 :: 128 :: 42 :: 180 :: 0 :: 179 :: 158 :: 0 :: 5 :: 2 :: 172 :: 42 :: 42 :: 180 :: 1 :: 74 :: 181 :: 1 :: 131 :: 42 :: 42 :: 180 :: 1 :: 83 :: 181 :: 1 :: 134 :: 42 :: 42 :: 180 :: 1 :: 98 :: 181 :: 0 :: 84 :: 42 :: 42 :: 180 :: 1 :: 104 :: 181 :: 0 :: 87 :: 42 :: 42 :: 180 :: 1 :: 110 :: 181 :: 0 :: 90 :: 42 :: 42 :: 180 :: 1 :: 116 :: 181 :: 1 :: 137 :: 42 :: 42 :: 180 :: dS_cX11_regiment_1
theorem dT_cX11_regiment_0 : cX11_regiment.data.toList.drop 0 = dS_cX11_regiment_0 := by decide +kernel
theorem dT_cX11_regiment_1 : cX11_regiment.data.toList.drop 64 = dS_cX11_regiment_1 := ck_nx dT_cX11_regiment_0 (by decide +kernel) rfl
theorem dT_cX11_regiment_2 : cX11_regiment.data.toList.drop 128 = dS_cX11_regiment_2 := ck_nx dT_cX11_regiment_1 (by decide +kernel) rfl
theorem dT_cX11_regiment_3 : cX11_regiment.data.toList.drop 192 = dS_cX11_regiment_3 := ck_nx dT_cX11_regiment_2 (by decide +kernel) rfl
theorem dT_cX11_regiment_4 : cX11_regiment.data.toList.drop 256 = dS_cX11_regiment_4 := ck_nx dT_cX11_regiment_3 (by decide +kernel) rfl
theorem dg_cX11_regiment_918 : ck3L dS_cX11_regiment_1 2 181 396 = true ∧ ck1L dS_cX11_regiment_1 5 42 = true ∧ ck1L dS_cX11_regiment_1 6 42 = true ∧ ck3L dS_cX11_regiment_1 7 180 291 = true ∧ ck3L dS_cX11_regiment_1 10 181 317 = true ∧ ck1L dS_cX11_regiment_1 13 42 = true ∧ ck1L dS_cX11_regiment_1 14 42 = true ∧ ck3L dS_cX11_regiment_1 15 180 291 = true := by decide +kernel
theorem dX11_regiment_66 : decode cX11_regiment 66 = .ok (.putfield 396, 3) := dk_181 (ck3_s (r := 2) dT_cX11_regiment_1 rfl dg_cX11_regiment_918.1)
theorem dX11_regiment_69 : decode cX11_regiment 69 = .ok (.aload_n 0, 1) := dk_42 (ck1_s (r := 5) dT_cX11_regiment_1 rfl dg_cX11_regiment_918.2.1)
theorem dX11_regiment_70 : decode cX11_regiment 70 = .ok (.aload_n 0, 1) := dk_42 (ck1_s (r := 6) dT_cX11_regiment_1 rfl dg_cX11_regiment_918.2.2.1)
theorem dX11_regiment_71 : decode cX11_regiment 71 = .ok (.getfield 291, 3) := dk_180 (ck3_s (r := 7) dT_cX11_regiment_1 rfl dg_cX11_regiment_918.2.2.2.1)
theorem dX11_regiment_74 : decode cX11_regiment 74 = .ok (.putfield 317, 3) := dk_181 (ck3_s (r := 10) dT_cX11_regiment_1 rfl dg_cX11_regiment_918.2.2.2.2.1)
theorem dX11_regiment_77 : decode cX11_regiment 77 = .ok (.aload_n 0, 1) := dk_42 (ck1_s (r := 13) dT_cX11_regiment_1 rfl dg_cX11_regiment_918.2.2.2.2.2.1)
theorem dX11_regiment_78 : decode cX11_regiment 78 = .ok (.aload_n 0, 1) := dk_42 (ck1_s (r := 14) dT_cX11_regiment_1 rfl dg_cX11_regiment_918.2.2.2.2.2.2.1)
theorem dX11_regiment_79 : decode cX11_regiment 79 = .ok (.getfield 291, 3) := dk_180 (ck3_s (r := 15) dT_cX11_regiment_1 rfl dg_cX11_regiment_918.2.2.2.2.2.2.2)
theorem dg_cX11_regiment_919 : ck3sL dS_cX11_regiment_1 18 153 10 = true ∧ ck1L dS_cX11_regiment_1 21 42 = true ∧ ck3L dS_cX11_regiment_1 22 180 253 = true ∧ ck3sL dS_cX11_regiment_1 25 167 4 = true ∧ ck1L dS_cX11_regiment_1 28 3 = true ∧ ck3L dS_cX11_regiment_1 29 181 323 = true ∧ ck1L dS_cX11_regiment_1 32 3 = true ∧ ck1L dS_cX11_regiment_1 33 60 = true := by decide +kernel
theorem dX11_regiment_82 : decode cX11_regiment 82 = .ok (.ifCond .eq 10, 3) := dk_153 (ck3s_s (r := 18) dT_cX11_regiment_1 rfl dg_cX11_regiment_919.1)
theorem dX11_regiment_85 : decode cX11_regiment 85 = .ok (.aload_n 0, 1) := dk_42 (ck1_s (r := 21) dT_cX11_regiment_1 rfl dg_cX11_regiment_919.2.1)
theorem dX11_regiment_86 : decode cX11_regiment 86 = .ok (.getfield 253, 3) := dk_180 (ck3_s (r := 22) dT_cX11_regiment_1 rfl dg_cX11_regiment_919.2.2.1)
theorem dX11_regiment_89 : decode cX11_regiment 89 = .ok (.goto 4, 3) := dk_167 (ck3s_s (r := 25) dT_cX11_regiment_1 rfl dg_cX11_regiment_919.2.2.2.1)
theorem dX11_regiment_92 : decode cX11_regiment 92 = .ok (.iconst 0, 1) := dk_3 (ck1_s (r := 28) dT_cX11_regiment_1 rfl dg_cX11_regiment_919.2.2.2.2.1)
theorem dX11_regiment_93 : decode cX11_regiment 93 = .ok (.putfield 323, 3) := dk_181 (ck3_s (r := 29) dT_cX11_regiment_1 rfl dg_cX11_regiment_919.2.2.2.2.2.1)
theorem dX11_regiment_96 : decode cX11_regiment 96 = .ok (.iconst 0, 1) := dk_3 (ck1_s (r := 32) dT_cX11_regiment_1 rfl dg_cX11_regiment_919.2.2.2.2.2.2.1)
theorem dX11_regiment_97 : decode cX11_regiment 97 = .ok (.istore_n 1, 1) := dk_60 (ck1_s (r := 33) dT_cX11_regiment_1 rfl dg_cX11_regiment_919.2.2.2.2.2.2.2)
theorem dg_cX11_regiment_920 : ck1L dS_cX11_regiment_1 34 27 = true ∧ ck1L dS_cX11_regiment_1 35 42 = true ∧ ck3L dS_cX11_regiment_1 36 180 323 = true ∧ ck3sL dS_cX11_regiment_1 39 162 33 = true ∧ ck1L dS_cX11_regiment_1 42 42 = true ∧ ck3L dS_cX11_regiment_1 43 180 27 = true ∧ ck1L dS_cX11_regiment_1 46 27 = true ∧ ck1L dS_cX11_regiment_1 47 42 = true := by decide +kernel
theorem dX11_regiment_98 : decode cX11_regiment 98 = .ok (.iload_n 1, 1) := dk_27 (ck1_s (r := 34) dT_cX11_regiment_1 rfl dg_cX11_regiment_920.1)
theorem dX11_regiment_99 : decode cX11_regiment 99 = .ok (.aload_n 0, 1) := dk_42 (ck1_s (r := 35) dT_cX11_regiment_1 rfl dg_cX11_regiment_920.2.1)
theorem dX11_regiment_100 : decode cX11_regiment 100 = .ok (.getfield 323, 3) := dk_180 (ck3_s (r := 36) dT_cX11_regiment_1 rfl dg_cX11_regiment_920.2.2.1)
theorem dX11_regiment_103 : decode cX11_regiment 103 = .ok (.if_icmp .ge 33, 3) := dk_162 (ck3s_s (r := 39) dT_cX11_regiment_1 rfl dg_cX11_regiment_920.2.2.2.1)
theorem dX11_regiment_106 : decode cX11_regiment 106 = .ok (.aload_n 0, 1) := dk_42 (ck1_s (r := 42) dT_cX11_regiment_1 rfl dg_cX11_regiment_920.2.2.2.2.1)
theorem dX11_regiment_107 : decode cX11_regiment 107 = .ok (.getfield 27, 3) := dk_180 (ck3_s (r := 43) dT_cX11_regiment_1 rfl dg_cX11_regiment_920.2.2.2.2.2.1)
theorem dX11_regiment_110 : decode cX11_regiment 110 = .ok (.iload_n 1, 1) := dk_27 (ck1_s (r := 46) dT_cX11_regiment_1 rfl dg_cX11_regiment_920.2.2.2.2.2.2.1)
theorem dX11_regiment_111 : decode cX11_regiment 111 = .ok (.aload_n 0, 1) := dk_42 (ck1_s (r := 47) dT_cX11_regiment_1 rfl dg_cX11_regiment_920.2.2.2.2.2.2.2)
theorem dg_cX11_regiment_921 : ck3L dS_cX11_regiment_1 48 180 21 = true ∧ ck1L dS_cX11_regiment_1 51 27 = true ∧ ck1L dS_cX11_regiment_1 52 46 = true ∧ ck1L dS_cX11_regiment_1 53 79 = true ∧ ck1L dS_cX11_regiment_1 54 42 = true ∧ ck3L dS_cX11_regiment_1 55 180 30 = true ∧ ck1L dS_cX11_regiment_1 58 27 = true ∧ ck1L dS_cX11_regiment_1 59 42 = true := by decide +kernel
theorem dX11_regiment_112 : decode cX11_regiment 112 = .ok (.getfield 21, 3) := dk_180 (ck3_s (r := 48) dT_cX11_regiment_1 rfl dg_cX11_regiment_921.1)
theorem dX11_regiment_115 : decode cX11_regiment 115 = .ok (.iload_n 1, 1) := dk_27 (ck1_s (r := 51) dT_cX11_regiment_1 rfl dg_cX11_regiment_921.2.1)
theorem dX11_regiment_116 : decode cX11_regiment 116 = .ok (.iaload, 1) := dk_46 (ck1_s (r := 52) dT_cX11_regiment_1 rfl dg_cX11_regiment_921.2.2.1)
theorem dX11_regiment_117 : decode cX11_regiment 117 = .ok (.iastore, 1) := dk_79 (ck1_s (r := 53) dT_cX11_regiment_1 rfl dg_cX11_regiment_921.2.2.2.1)
theorem dX11_regiment_118 : decode cX11_regiment 118 = .ok (.aload_n 0, 1) := dk_42 (ck1_s (r := 54) dT_cX11_regiment_1 rfl dg_cX11_regiment_921.2.2.2.2.1)
theorem dX11_regiment_119 : decode cX11_regiment 119 = .ok (.getfield 30, 3) := dk_180 (ck3_s (r := 55) dT_cX11_regiment_1 rfl dg_cX11_regiment_921.2.2.2.2.2.1)
theorem dX11_regiment_122 : decode cX11_regiment 122 = .ok (.iload_n 1, 1) := dk_27 (ck1_s (r := 58) dT_cX11_regiment_1 rfl dg_cX11_regiment_921.2.2.2.2.2.2.1)
theorem dX11_regiment_123 : decode cX11_regiment 123 = .ok (.aload_n 0, 1) := dk_42 (ck1_s (r := 59) dT_cX11_regiment_1 rfl dg_cX11_regiment_921.2.2.2.2.2.2.2)
theorem dg_cX11_regiment_922 : ck3L dS_cX11_regiment_1 60 180 24 = true ∧ ck1L dS_cX11_regiment_1 63 27 = true ∧ ck1L dS_cX11_regiment_2 0 46 = true ∧ ck1L dS_cX11_regiment_2 1 79 = true ∧ ck3iL dS_cX11_regiment_2 2 132 1 1 = true ∧ ck3sL dS_cX11_regiment_2 5 167 (-35) = true ∧ ck1L dS_cX11_regiment_2 8 3 = true ∧ ck1L dS_cX11_regiment_2 9 60 = true := by decide +kernel
theorem dX11_regiment_124 : decode cX11_regiment 124 = .ok (.getfield 24, 3) := dk_180 (ck3_s (r := 60) dT_cX11_regiment_1 rfl dg_cX11_regiment_922.1)
theorem dX11_regiment_127 : decode cX11_regiment 127 = .ok (.iload_n 1, 1) := dk_27 (ck1_s (r := 63) dT_cX11_regiment_1 rfl dg_cX11_regiment_922.2.1)
theorem dX11_regiment_128 : decode cX11_regiment 128 = .ok (.iaload, 1) := dk_46 (ck1_s (r := 0) dT_cX11_regiment_2 rfl dg_cX11_regiment_922.2.2.1)
theorem dX11_regiment_129 : decode cX11_regiment 129 = .ok (.iastore, 1) := dk_79 (ck1_s (r := 1) dT_cX11_regiment_2 rfl dg_cX11_regiment_922.2.2.2.1)
theorem dX11_regiment_130 : decode cX11_regiment 130 = .ok (.iinc 1 1, 3) := dk_132 (ck3i_s (r := 2) dT_cX11_regiment_2 rfl dg_cX11_regiment_922.2.2.2.2.1)
theorem dX11_regiment_133 : decode cX11_regiment 133 = .ok (.goto (-35), 3) := dk_167 (ck3s_s (r := 5) dT_cX11_regiment_2 rfl dg_cX11_regiment_922.2.2.2.2.2.1)
theorem dX11_regiment_136 : decode cX11_regiment 136 = .ok (.iconst 0, 1) := dk_3 (ck1_s (r := 8) dT_cX11_regiment_2 rfl dg_cX11_regiment_922.2.2.2.2.2.2.1)
theorem dX11_regiment_137 : decode cX11_regiment 137 = .ok (.istore_n 1, 1) := dk_60 (ck1_s (r := 9) dT_cX11_regiment_2 rfl dg_cX11_regiment_922.2.2.2.2.2.2.2)
theorem dg_cX11_regiment_923 : ck1L dS_cX11_regiment_2 10 27 = true ∧ ck1L dS_cX11_regiment_2 11 42 = true ∧ ck3L dS_cX11_regiment_2 12 180 387 = true ∧ ck3sL dS_cX11_regiment_2 15 162 45 = true ∧ ck1L dS_cX11_regiment_2 18 42 = true ∧ ck3L dS_cX11_regiment_2 19 180 63 = true ∧ ck1L dS_cX11_regiment_2 22 27 = true ∧ ck1L dS_cX11_regiment_2 23 42 = true := by decide +kernel
theorem dX11_regiment_138 : decode cX11_regiment 138 = .ok (.iload_n 1, 1) := dk_27 (ck1_s (r := 10) dT_cX11_regiment_2 rfl dg_cX11_regiment_923.1)
theorem dX11_regiment_139 : decode cX11_regiment 139 = .ok (.aload_n 0, 1) := dk_42 (ck1_s (r := 11) dT_cX11_regiment_2 rfl dg_cX11_regiment_923.2.1)
theorem dX11_regiment_140 : decode cX11_regiment 140 = .ok (.getfield 387, 3) := dk_180 (ck3_s (r := 12) dT_cX11_regiment_2 rfl dg_cX11_regiment_923.2.2.1)
theorem dX11_regiment_143 : decode cX11_regiment 143 = .ok (.if_icmp .ge 45, 3) := dk_162 (ck3s_s (r := 15) dT_cX11_regiment_2 rfl dg_cX11_regiment_923.2.2.2.1)
theorem dX11_regiment_146 : decode cX11_regiment 146 = .ok (.aload_n 0, 1) := dk_42 (ck1_s (r := 18) dT_cX11_regiment_2 rfl dg_cX11_regiment_923.2.2.2.2.1)
theorem dX11_regiment_147 : decode cX11_regiment 147 = .ok (.getfield 63, 3) := dk_180 (ck3_s (r := 19) dT_cX11_regiment_2 rfl dg_cX11_regiment_923.2.2.2.2.2.1)
theorem dX11_regiment_150 : decode cX11_regiment 150 = .ok (.iload_n 1, 1) := dk_27 (ck1_s (r := 22) dT_cX11_regiment_2 rfl dg_cX11_regiment_923.2.2.2.2.2.2.1)
theorem dX11_regiment_151 : decode cX11_regiment 151 = .ok (.aload_n 0, 1) := dk_42 (ck1_s (r := 23) dT_cX11_regiment_2 rfl dg_cX11_regiment_923.2.2.2.2.2.2.2)
theorem dg_cX11_regiment_924 : ck3L dS_cX11_regiment_2 24 180 42 = true ∧ ck1L dS_cX11_regiment_2 27 27 = true ∧ ck1L dS_cX11_regiment_2 28 46 = true ∧ ck1L dS_cX11_regiment_2 29 79 = true ∧ ck1L dS_cX11_regiment_2 30 42 = true ∧ ck3L dS_cX11_regiment_2 31 180 66 = true ∧ ck1L dS_cX11_regiment_2 34 27 = true ∧ ck1L dS_cX11_regiment_2 35 42 = true := by decide +kernel
theorem dX11_regiment_152 : decode cX11_regiment 152 = .ok (.getfield 42, 3) := dk_180 (ck3_s (r := 24) dT_cX11_regiment_2 rfl dg_cX11_regiment_924.1)
theorem dX11_regiment_155 : decode cX11_regiment 155 = .ok (.iload_n 1, 1) := dk_27 (ck1_s (r := 27) dT_cX11_regiment_2 rfl dg_cX11_regiment_924.2.1)
theorem dX11_regiment_156 : decode cX11_regiment 156 = .ok (.iaload, 1) := dk_46 (ck1_s (r := 28) dT_cX11_regiment_2 rfl dg_cX11_regiment_924.2.2.1)
theorem dX11_regiment_157 : decode cX11_regiment 157 = .ok (.iastore, 1) := dk_79 (ck1_s (r := 29) dT_cX11_regiment_2 rfl dg_cX11_regiment_924.2.2.2.1)
theorem dX11_regiment_158 : decode cX11_regiment 158 = .ok (.aload_n 0, 1) := dk_42 (ck1_s (r := 30) dT_cX11_regiment_2 rfl dg_cX11_regiment_924.2.2.2.2.1)
theorem dX11_regiment_159 : decode cX11_regiment 159 = .ok (.getfield 66, 3) := dk_180 (ck3_s (r := 31) dT_cX11_regiment_2 rfl dg_cX11_regiment_924.2.2.2.2.2.1)
theorem dX11_regiment_162 : decode cX11_regiment 162 = .ok (.iload_n 1, 1) := dk_27 (ck1_s (r := 34) dT_cX11_regiment_2 rfl dg_cX11_regiment_924.2.2.2.2.2.2.1)
theorem dX11_regiment_163 : decode cX11_regiment 163 = .ok (.aload_n 0, 1) := dk_42 (ck1_s (r := 35) dT_cX11_regiment_2 rfl dg_cX11_regiment_924.2.2.2.2.2.2.2)
theorem dg_cX11_regiment_925 : ck3L dS_cX11_regiment_2 36 180 45 = true ∧ ck1L dS_cX11_regiment_2 39 27 = true ∧ ck1L dS_cX11_regiment_2 40 46 = true ∧ ck1L dS_cX11_regiment_2 41 79 = true ∧ ck1L dS_cX11_regiment_2 42 42 = true ∧ ck3L dS_cX11_regiment_2 43 180 69 = true ∧ ck1L dS_cX11_regiment_2 46 27 = true ∧ ck1L dS_cX11_regiment_2 47 42 = true := by decide +kernel
theorem dX11_regiment_164 : decode cX11_regiment 164 = .ok (.getfield 45, 3) := dk_180 (ck3_s (r := 36) dT_cX11_regiment_2 rfl dg_cX11_regiment_925.1)
theorem dX11_regiment_167 : decode cX11_regiment 167 = .ok (.iload_n 1, 1) := dk_27 (ck1_s (r := 39) dT_cX11_regiment_2 rfl dg_cX11_regiment_925.2.1)
theorem dX11_regiment_168 : decode cX11_regiment 168 = .ok (.iaload, 1) := dk_46 (ck1_s (r := 40) dT_cX11_regiment_2 rfl dg_cX11_regiment_925.2.2.1)
theorem dX11_regiment_169 : decode cX11_regiment 169 = .ok (.iastore, 1) := dk_79 (ck1_s (r := 41) dT_cX11_regiment_2 rfl dg_cX11_regiment_925.2.2.2.1)
theorem dX11_regiment_170 : decode cX11_regiment 170 = .ok (.aload_n 0, 1) := dk_42 (ck1_s (r := 42) dT_cX11_regiment_2 rfl dg_cX11_regiment_925.2.2.2.2.1)
theorem dX11_regiment_171 : decode cX11_regiment 171 = .ok (.getfield 69, 3) := dk_180 (ck3_s (r := 43) dT_cX11_regiment_2 rfl dg_cX11_regiment_925.2.2.2.2.2.1)
theorem dX11_regiment_174 : decode cX11_regiment 174 = .ok (.iload_n 1, 1) := dk_27 (ck1_s (r := 46) dT_cX11_regiment_2 rfl dg_cX11_regiment_925.2.2.2.2.2.2.1)
theorem dX11_regiment_175 : decode cX11_regiment 175 = .ok (.aload_n 0, 1) := dk_42 (ck1_s (r := 47) dT_cX11_regiment_2 rfl dg_cX11_regiment_925.2.2.2.2.2.2.2)
theorem dg_cX11_regiment_926 : ck3L dS_cX11_regiment_2 48 180 48 = true ∧ ck1L dS_cX11_regiment_2 51 27 = true ∧ ck1L dS_cX11_regiment_2 52 46 = true ∧ ck1L dS_cX11_regiment_2 53 79 = true ∧ ck3iL dS_cX11_regiment_2 54 132 1 1 = true ∧ ck3sL dS_cX11_regiment_2 57 167 (-47) = true ∧ ck1L dS_cX11_regiment_2 60 3 = true ∧ ck1L dS_cX11_regiment_2 61 60 = true := by decide +kernel
theorem dX11_regiment_176 : decode cX11_regiment 176 = .ok (.getfield 48, 3) := dk_180 (ck3_s (r := 48) dT_cX11_regiment_2 rfl dg_cX11_regiment_926.1)
theorem dX11_regiment_179 : decode cX11_regiment 179 = .ok (.iload_n 1, 1) := dk_27 (ck1_s (r := 51) dT_cX11_regiment_2 rfl dg_cX11_regiment_926.2.1)
theorem dX11_regiment_180 : decode cX11_regiment 180 = .ok (.iaload, 1) := dk_46 (ck1_s (r := 52) dT_cX11_regiment_2 rfl dg_cX11_regiment_926.2.2.1)
theorem dX11_regiment_181 : decode cX11_regiment 181 = .ok (.iastore, 1) := dk_79 (ck1_s (r := 53) dT_cX11_regiment_2 rfl dg_cX11_regiment_926.2.2.2.1)
theorem dX11_regiment_182 : decode cX11_regiment 182 = .ok (.iinc 1 1, 3) := dk_132 (ck3i_s (r := 54) dT_cX11_regiment_2 rfl dg_cX11_regiment_926.2.2.2.2.1)
theorem dX11_regiment_185 : decode cX11_regiment 185 = .ok (.goto (-47), 3) := dk_167 (ck3s_s (r := 57) dT_cX11_regiment_2 rfl dg_cX11_regiment_926.2.2.2.2.2.1)
theorem dX11_regiment_188 : decode cX11_regiment 188 = .ok (.iconst 0, 1) := dk_3 (ck1_s (r := 60) dT_cX11_regiment_2 rfl dg_cX11_regiment_926.2.2.2.2.2.2.1)
theorem dX11_regiment_189 : decode cX11_regiment 189 = .ok (.istore_n 1, 1) := dk_60 (ck1_s (r := 61) dT_cX11_regiment_2 rfl dg_cX11_regiment_926.2.2.2.2.2.2.2)
theorem dg_cX11_regiment_927 : ck1L dS_cX11_regiment_2 62 27 = true ∧ ck1L dS_cX11_regiment_2 63 42 = true ∧ ck3L dS_cX11_regiment_3 0 180 390 = true ∧ ck3sL dS_cX11_regiment_3 3 162 57 = true ∧ ck1L dS_cX11_regiment_3 6 42 = true ∧ ck3L dS_cX11_regiment_3 7 180 72 = true ∧ ck1L dS_cX11_regiment_3 10 27 = true ∧ ck1L dS_cX11_regiment_3 11 42 = true := by decide +kernel
theorem dX11_regiment_190 : decode cX11_regiment 190 = .ok (.iload_n 1, 1) := dk_27 (ck1_s (r := 62) dT_cX11_regiment_2 rfl dg_cX11_regiment_927.1)
theorem dX11_regiment_191 : decode cX11_regiment 191 = .ok (.aload_n 0, 1) := dk_42 (ck1_s (r := 63) dT_cX11_regiment_2 rfl dg_cX11_regiment_927.2.1)
theorem dX11_regiment_192 : decode cX11_regiment 192 = .ok (.getfield 390, 3) := dk_180 (ck3_s (r := 0) dT_cX11_regiment_3 rfl dg_cX11_regiment_927.2.2.1)
theorem dX11_regiment_195 : decode cX11_regiment 195 = .ok (.if_icmp .ge 57, 3) := dk_162 (ck3s_s (r := 3) dT_cX11_regiment_3 rfl dg_cX11_regiment_927.2.2.2.1)
theorem dX11_regiment_198 : decode cX11_regiment 198 = .ok (.aload_n 0, 1) := dk_42 (ck1_s (r := 6) dT_cX11_regiment_3 rfl dg_cX11_regiment_927.2.2.2.2.1)
theorem dX11_regiment_199 : decode cX11_regiment 199 = .ok (.getfield 72, 3) := dk_180 (ck3_s (r := 7) dT_cX11_regiment_3 rfl dg_cX11_regiment_927.2.2.2.2.2.1)
theorem dX11_regiment_202 : decode cX11_regiment 202 = .ok (.iload_n 1, 1) := dk_27 (ck1_s (r := 10) dT_cX11_regiment_3 rfl dg_cX11_regiment_927.2.2.2.2.2.2.1)
theorem dX11_regiment_203 : decode cX11_regiment 203 = .ok (.aload_n 0, 1) := dk_42 (ck1_s (r := 11) dT_cX11_regiment_3 rfl dg_cX11_regiment_927.2.2.2.2.2.2.2)
theorem dg_cX11_regiment_928 : ck3L dS_cX11_regiment_3 12 180 51 = true ∧ ck1L dS_cX11_regiment_3 15 27 = true ∧ ck1L dS_cX11_regiment_3 16 46 = true ∧ ck1L dS_cX11_regiment_3 17 79 = true ∧ ck1L dS_cX11_regiment_3 18 42 = true ∧ ck3L dS_cX11_regiment_3 19 180 75 = true ∧ ck1L dS_cX11_regiment_3 22 27 = true ∧ ck1L dS_cX11_regiment_3 23 42 = true := by decide +kernel
theorem dX11_regiment_204 : decode cX11_regiment 204 = .ok (.getfield 51, 3) := dk_180 (ck3_s (r := 12) dT_cX11_regiment_3 rfl dg_cX11_regiment_928.1)
theorem dX11_regiment_207 : decode cX11_regiment 207 = .ok (.iload_n 1, 1) := dk_27 (ck1_s (r := 15) dT_cX11_regiment_3 rfl dg_cX11_regiment_928.2.1)
theorem dX11_regiment_208 : decode cX11_regiment 208 = .ok (.iaload, 1) := dk_46 (ck1_s (r := 16) dT_cX11_regiment_3 rfl dg_cX11_regiment_928.2.2.1)
theorem dX11_regiment_209 : decode cX11_regiment 209 = .ok (.iastore, 1) := dk_79 (ck1_s (r := 17) dT_cX11_regiment_3 rfl dg_cX11_regiment_928.2.2.2.1)
theorem dX11_regiment_210 : decode cX11_regiment 210 = .ok (.aload_n 0, 1) := dk_42 (ck1_s (r := 18) dT_cX11_regiment_3 rfl dg_cX11_regiment_928.2.2.2.2.1)
theorem dX11_regiment_211 : decode cX11_regiment 211 = .ok (.getfield 75, 3) := dk_180 (ck3_s (r := 19) dT_cX11_regiment_3 rfl dg_cX11_regiment_928.2.2.2.2.2.1)
theorem dX11_regiment_214 : decode cX11_regiment 214 = .ok (.iload_n 1, 1) := dk_27 (ck1_s (r := 22) dT_cX11_regiment_3 rfl dg_cX11_regiment_928.2.2.2.2.2.2.1)
theorem dX11_regiment_215 : decode cX11_regiment 215 = .ok (.aload_n 0, 1) := dk_42 (ck1_s (r := 23) dT_cX11_regiment_3 rfl dg_cX11_regiment_928.2.2.2.2.2.2.2)
theorem dg_cX11_regiment_929 : ck3L dS_cX11_regiment_3 24 180 54 = true ∧ ck1L dS_cX11_regiment_3 27 27 = true ∧ ck1L dS_cX11_regiment_3 28 46 = true ∧ ck1L dS_cX11_regiment_3 29 79 = true ∧ ck1L dS_cX11_regiment_3 30 42 = true ∧ ck3L dS_cX11_regiment_3 31 180 78 = true ∧ ck1L dS_cX11_regiment_3 34 27 = true ∧ ck1L dS_cX11_regiment_3 35 42 = true := by decide +kernel
theorem dX11_regiment_216 : decode cX11_regiment 216 = .ok (.getfield 54, 3) := dk_180 (ck3_s (r := 24) dT_cX11_regiment_3 rfl dg_cX11_regiment_929.1)
theorem dX11_regiment_219 : decode cX11_regiment 219 = .ok (.iload_n 1, 1) := dk_27 (ck1_s (r := 27) dT_cX11_regiment_3 rfl dg_cX11_regiment_929.2.1)
theorem dX11_regiment_220 : decode cX11_regiment 220 = .ok (.iaload, 1) := dk_46 (ck1_s (r := 28) dT_cX11_regiment_3 rfl dg_cX11_regiment_929.2.2.1)
theorem dX11_regiment_221 : decode cX11_regiment 221 = .ok (.iastore, 1) := dk_79 (ck1_s (r := 29) dT_cX11_regiment_3 rfl dg_cX11_regiment_929.2.2.2.1)
theorem dX11_regiment_222 : decode cX11_regiment 222 = .ok (.aload_n 0, 1) := dk_42 (ck1_s (r := 30) dT_cX11_regiment_3 rfl dg_cX11_regiment_929.2.2.2.2.1)
theorem dX11_regiment_223 : decode cX11_regiment 223 = .ok (.getfield 78, 3) := dk_180 (ck3_s (r := 31) dT_cX11_regiment_3 rfl dg_cX11_regiment_929.2.2.2.2.2.1)
theorem dX11_regiment_226 : decode cX11_regiment 226 = .ok (.iload_n 1, 1) := dk_27 (ck1_s (r := 34) dT_cX11_regiment_3 rfl dg_cX11_regiment_929.2.2.2.2.2.2.1)
theorem dX11_regiment_227 : decode cX11_regiment 227 = .ok (.aload_n 0, 1) := dk_42 (ck1_s (r := 35) dT_cX11_regiment_3 rfl dg_cX11_regiment_929.2.2.2.2.2.2.2)
theorem dg_cX11_regiment_930 : ck3L dS_cX11_regiment_3 36 180 57 = true ∧ ck1L dS_cX11_regiment_3 39 27 = true ∧ ck1L dS_cX11_regiment_3 40 46 = true ∧ ck1L dS_cX11_regiment_3 41 79 = true ∧ ck1L dS_cX11_regiment_3 42 42 = true ∧ ck3L dS_cX11_regiment_3 43 180 81 = true ∧ ck1L dS_cX11_regiment_3 46 27 = true ∧ ck1L dS_cX11_regiment_3 47 42 = true := by decide +kernel
theorem dX11_regiment_228 : decode cX11_regiment 228 = .ok (.getfield 57, 3) := dk_180 (ck3_s (r := 36) dT_cX11_regiment_3 rfl dg_cX11_regiment_930.1)
theorem dX11_regiment_231 : decode cX11_regiment 231 = .ok (.iload_n 1, 1) := dk_27 (ck1_s (r := 39) dT_cX11_regiment_3 rfl dg_cX11_regiment_930.2.1)
theorem dX11_regiment_232 : decode cX11_regiment 232 = .ok (.iaload, 1) := dk_46 (ck1_s (r := 40) dT_cX11_regiment_3 rfl dg_cX11_regiment_930.2.2.1)
theorem dX11_regiment_233 : decode cX11_regiment 233 = .ok (.iastore, 1) := dk_79 (ck1_s (r := 41) dT_cX11_regiment_3 rfl dg_cX11_regiment_930.2.2.2.1)
theorem dX11_regiment_234 : decode cX11_regiment 234 = .ok (.aload_n 0, 1) := dk_42 (ck1_s (r := 42) dT_cX11_regiment_3 rfl dg_cX11_regiment_930.2.2.2.2.1)
theorem dX11_regiment_235 : decode cX11_regiment 235 = .ok (.getfield 81, 3) := dk_180 (ck3_s (r := 43) dT_cX11_regiment_3 rfl dg_cX11_regiment_930.2.2.2.2.2.1)
theorem dX11_regiment_238 : decode cX11_regiment 238 = .ok (.iload_n 1, 1) := dk_27 (ck1_s (r := 46) dT_cX11_regiment_3 rfl dg_cX11_regiment_930.2.2.2.2.2.2.1)
theorem dX11_regiment_239 : decode cX11_regiment 239 = .ok (.aload_n 0, 1) := dk_42 (ck1_s (r := 47) dT_cX11_regiment_3 rfl dg_cX11_regiment_930.2.2.2.2.2.2.2)
theorem dg_cX11_regiment_931 : ck3L dS_cX11_regiment_3 48 180 60 = true ∧ ck1L dS_cX11_regiment_3 51 27 = true ∧ ck1L dS_cX11_regiment_3 52 46 = true ∧ ck1L dS_cX11_regiment_3 53 79 = true ∧ ck3iL dS_cX11_regiment_3 54 132 1 1 = true ∧ ck3sL dS_cX11_regiment_3 57 167 (-59) = true ∧ ck1L dS_cX11_regiment_3 60 42 = true ∧ ck3L dS_cX11_regiment_3 61 182 399 = true := by decide +kernel
theorem dX11_regiment_240 : decode cX11_regiment 240 = .ok (.getfield 60, 3) := dk_180 (ck3_s (r := 48) dT_cX11_regiment_3 rfl dg_cX11_regiment_931.1)
theorem dX11_regiment_243 : decode cX11_regiment 243 = .ok (.iload_n 1, 1) := dk_27 (ck1_s (r := 51) dT_cX11_regiment_3 rfl dg_cX11_regiment_931.2.1)
theorem dX11_regiment_244 : decode cX11_regiment 244 = .ok (.iaload, 1) := dk_46 (ck1_s (r := 52) dT_cX11_regiment_3 rfl dg_cX11_regiment_931.2.2.1)
theorem dX11_regiment_245 : decode cX11_regiment 245 = .ok (.iastore, 1) := dk_79 (ck1_s (r := 53) dT_cX11_regiment_3 rfl dg_cX11_regiment_931.2.2.2.1)
theorem dX11_regiment_246 : decode cX11_regiment 246 = .ok (.iinc 1 1, 3) := dk_132 (ck3i_s (r := 54) dT_cX11_regiment_3 rfl dg_cX11_regiment_931.2.2.2.2.1)
theorem dX11_regiment_249 : decode cX11_regiment 249 = .ok (.goto (-59), 3) := dk_167 (ck3s_s (r := 57) dT_cX11_regiment_3 rfl dg_cX11_regiment_931.2.2.2.2.2.1)
theorem dX11_regiment_252 : decode cX11_regiment 252 = .ok (.aload_n 0, 1) := dk_42 (ck1_s (r := 60) dT_cX11_regiment_3 rfl dg_cX11_regiment_931.2.2.2.2.2.2.1)
theorem dX11_regiment_253 : decode cX11_regiment 253 = .ok (.invokevirtual 399, 3) := dk_182 (ck3_s (r := 61) dT_cX11_regiment_3 rfl dg_cX11_regiment_931.2.2.2.2.2.2.2)
theorem dg_cX11_regiment_932 : ck1L dS_cX11_regiment_4 0 42 = true ∧ ck3L dS_cX11_regiment_4 1 180 96 = true ∧ ck2sL dS_cX11_regiment_4 4 16 38 = true ∧ ck1L dS_cX11_regiment_4 6 42 = true ∧ ck3L dS_cX11_regiment_4 7 180 378 = true ∧ ck1L dS_cX11_regiment_4 10 79 = true ∧ ck1L dS_cX11_regiment_4 11 42 = true ∧ ck3L dS_cX11_regiment_4 12 182 402 = true := by decide +kernel
theorem dX11_regiment_256 : decode cX11_regiment 256 = .ok (.aload_n 0, 1) := dk_42 (ck1_s (r := 0) dT_cX11_regiment_4 rfl dg_cX11_regiment_932.1)
theorem dX11_regiment_257 : decode cX11_regiment 257 = .ok (.getfield 96, 3) := dk_180 (ck3_s (r := 1) dT_cX11_regiment_4 rfl dg_cX11_regiment_932.2.1)
theorem dX11_regiment_260 : decode cX11_regiment 260 = .ok (.bipush 38, 2) := dk_16 (ck2s_s (r := 4) dT_cX11_regiment_4 rfl dg_cX11_regiment_932.2.2.1)
theorem dX11_regiment_262 : decode cX11_regiment 262 = .ok (.aload_n 0, 1) := dk_42 (ck1_s (r := 6) dT_cX11_regiment_4 rfl dg_cX11_regiment_932.2.2.2.1)
theorem dX11_regiment_263 : decode cX11_regiment 263 = .ok (.getfield 378, 3) := dk_180 (ck3_s (r := 7) dT_cX11_regiment_4 rfl dg_cX11_regiment_932.2.2.2.2.1)
theorem dX11_regiment_266 : decode cX11_regiment 266 = .ok (.iastore, 1) := dk_79 (ck1_s (r := 10) dT_cX11_regiment_4 rfl dg_cX11_regiment_932.2.2.2.2.2.1)
theorem dX11_regiment_267 : decode cX11_regiment 267 = .ok (.aload_n 0, 1) := dk_42 (ck1_s (r := 11) dT_cX11_regiment_4 rfl dg_cX11_regiment_932.2.2.2.2.2.2.1)
theorem dX11_regiment_268 : decode cX11_regiment 268 = .ok (.invokevirtual 402, 3) := dk_182 (ck3_s (r := 12) dT_cX11_regiment_4 rfl dg_cX11_regiment_932.2.2.2.2.2.2.2)
theorem dg_cX11_regiment_933 : ck1L dS_cX11_regiment_4 15 42 = true ∧ ck1L dS_cX11_regiment_4 16 3 = true ∧ ck3L dS_cX11_regiment_4 17 181 405 = true ∧ ck1L dS_cX11_regiment_4 20 42 = true ∧ ck1L dS_cX11_regiment_4 21 3 = true ∧ ck3L dS_cX11_regiment_4 22 181 408 = true ∧ ck1L dS_cX11_regiment_4 25 42 = true ∧ ck1L dS_cX11_regiment_4 26 3 = true := by decide +kernel
theorem dX11_regiment_271 : decode cX11_regiment 271 = .ok (.aload_n 0, 1) := dk_42 (ck1_s (r := 15) dT_cX11_regiment_4 rfl dg_cX11_regiment_933.1)
theorem dX11_regiment_272 : decode cX11_regiment 272 = .ok (.iconst 0, 1) := dk_3 (ck1_s (r := 16) dT_cX11_regiment_4 rfl dg_cX11_regiment_933.2.1)
theorem dX11_regiment_273 : decode cX11_regiment 273 = .ok (.putfield 405, 3) := dk_181 (ck3_s (r := 17) dT_cX11_regiment_4 rfl dg_cX11_regiment_933.2.2.1)
theorem dX11_regiment_276 : decode cX11_regiment 276 = .ok (.aload_n 0, 1) := dk_42 (ck1_s (r := 20) dT_cX11_regiment_4 rfl dg_cX11_regiment_933.2.2.2.1)
theorem dX11_regiment_277 : decode cX11_regiment 277 = .ok (.iconst 0, 1) := dk_3 (ck1_s (r := 21) dT_cX11_regiment_4 rfl dg_cX11_regiment_933.2.2.2.2.1)
theorem dX11_regiment_278 : decode cX11_regiment 278 = .ok (.putfield 408, 3) := dk_181 (ck3_s (r := 22) dT_cX11_regiment_4 rfl dg_cX11_regiment_933.2.2.2.2.2.1)
theorem dX11_regiment_281 : decode cX11_regiment 281 = .ok (.aload_n 0, 1) := dk_42 (ck1_s (r := 25) dT_cX11_regiment_4 rfl dg_cX11_regiment_933.2.2.2.2.2.2.1)
theorem dX11_regiment_282 : decode cX11_regiment 282 = .ok (.iconst 0, 1) := dk_3 (ck1_s (r := 26) dT_cX11_regiment_4 rfl dg_cX11_regiment_933.2.2.2.2.2.2.2)
theorem dg_cX11_regiment_934 : ck3L dS_cX11_regiment_4 27 181 411 = true ∧ ck1L dS_cX11_regiment_4 30 42 = true ∧ ck1L dS_cX11_regiment_4 31 3 = true ∧ ck3L dS_cX11_regiment_4 32 181 414 = true ∧ ck1L dS_cX11_regiment_4 35 3 = true ∧ ck1L dS_cX11_regiment_4 36 60 = true ∧ ck1L dS_cX11_regiment_4 37 27 = true ∧ ck1L dS_cX11_regiment_4 38 6 = true := by decide +kernel
theorem dX11_regiment_283 : decode cX11_regiment 283 = .ok (.putfield 411, 3) := dk_181 (ck3_s (r := 27) dT_cX11_regiment_4 rfl dg_cX11_regiment_934.1)
theorem dX11_regiment_286 : decode cX11_regiment 286 = .ok (.aload_n 0, 1) := dk_42 (ck1_s (r := 30) dT_cX11_regiment_4 rfl dg_cX11_regiment_934.2.1)
theorem dX11_regiment_287 : decode cX11_regiment 287 = .ok (.iconst 0, 1) := dk_3 (ck1_s (r := 31) dT_cX11_regiment_4 rfl dg_cX11_regiment_934.2.2.1)
theorem dX11_regiment_288 : decode cX11_regiment 288 = .ok (.putfield 414, 3) := dk_181 (ck3_s (r := 32) dT_cX11_regiment_4 rfl dg_cX11_regiment_934.2.2.2.1)
theorem dX11_regiment_291 : decode cX11_regiment 291 = .ok (.iconst 0, 1) := dk_3 (ck1_s (r := 35) dT_cX11_regiment_4 rfl dg_cX11_regiment_934.2.2.2.2.1)
theorem dX11_regiment_292 : decode cX11_regiment 292 = .ok (.istore_n 1, 1) := dk_60 (ck1_s (r := 36) dT_cX11_regiment_4 rfl dg_cX11_regiment_934.2.2.2.2.2.1)
theorem dX11_regiment_293 : decode cX11_regiment 293 = .ok (.iload_n 1, 1) := dk_27 (ck1_s (r := 37) dT_cX11_regiment_4 rfl dg_cX11_regiment_934.2.2.2.2.2.2.1)
theorem dX11_regiment_294 : decode cX11_regiment 294 = .ok (.iconst 3, 1) := dk_6 (ck1_s (r := 38) dT_cX11_regiment_4 rfl dg_cX11_regiment_934.2.2.2.2.2.2.2)
theorem dg_cX11_regiment_935 : ck3sL dS_cX11_regiment_4 39 162 16 = true ∧ ck1L dS_cX11_regiment_4 42 42 = true ∧ ck3L dS_cX11_regiment_4 43 180 133 = true ∧ ck1L dS_cX11_regiment_4 46 27 = true ∧ ck1L dS_cX11_regiment_4 47 3 = true ∧ ck1L dS_cX11_regiment_4 48 84 = true ∧ ck3iL dS_cX11_regiment_4 49 132 1 1 = true ∧ ck3sL dS_cX11_regiment_4 52 167 (-15) = true := by decide +kernel
theorem dX11_regiment_295 : decode cX11_regiment 295 = .ok (.if_icmp .ge 16, 3) := dk_162 (ck3s_s (r := 39) dT_cX11_regiment_4 rfl dg_cX11_regiment_935.1)
theorem dX11_regiment_298 : decode cX11_regiment 298 = .ok (.aload_n 0, 1) := dk_42 (ck1_s (r := 42) dT_cX11_regiment_4 rfl dg_cX11_regiment_935.2.1)
theorem dX11_regiment_299 : decode cX11_regiment 299 = .ok (.getfield 133, 3) := dk_180 (ck3_s (r := 43) dT_cX11_regiment_4 rfl dg_cX11_regiment_935.2.2.1)
theorem dX11_regiment_302 : decode cX11_regiment 302 = .ok (.iload_n 1, 1) := dk_27 (ck1_s (r := 46) dT_cX11_regiment_4 rfl dg_cX11_regiment_935.2.2.2.1)
theorem dX11_regiment_303 : decode cX11_regiment 303 = .ok (.iconst 0, 1) := dk_3 (ck1_s (r := 47) dT_cX11_regiment_4 rfl dg_cX11_regiment_935.2.2.2.2.1)
theorem dX11_regiment_304 : decode cX11_regiment 304 = .ok (.bastore, 1) := dk_84 (ck1_s (r := 48) dT_cX11_regiment_4 rfl dg_cX11_regiment_935.2.2.2.2.2.1)
theorem dX11_regiment_305 : decode cX11_regiment 305 = .ok (.iinc 1 1, 3) := dk_132 (ck3i_s (r := 49) dT_cX11_regiment_4 rfl dg_cX11_regiment_935.2.2.2.2.2.2.1)
theorem dX11_regiment_308 : decode cX11_regiment 308 = .ok (.goto (-15), 3) := dk_167 (ck3s_s (r := 52) dT_cX11_regiment_4 rfl dg_cX11_regiment_935.2.2.2.2.2.2.2)
theorem dg_cX11_regiment_936 : ck1L dS_cX11_regiment_4 55 42 = true ∧ ck3L dS_cX11_regiment_4 56 180 387 = true ∧ ck1L dS_cX11_regiment_4 59 172 = true := by decide +kernel
theorem dX11_regiment_311 : decode cX11_regiment 311 = .ok (.aload_n 0, 1) := dk_42 (ck1_s (r := 55) dT_cX11_regiment_4 rfl dg_cX11_regiment_936.1)
theorem dX11_regiment_312 : decode cX11_regiment 312 = .ok (.getfield 387, 3) := dk_180 (ck3_s (r := 56) dT_cX11_regiment_4 rfl dg_cX11_regiment_936.2.1)
theorem dX11_regiment_315 : decode cX11_regiment 315 = .ok (.ireturn, 1) := dk_172 (ck1_s (r := 59) dT_cX11_regiment_4 rfl dg_cX11_regiment_936.2.2)
theorem dg_cX11_rota_937 : ck1 cX11_rota 0 27 = true ∧ ck1 cX11_rota 1 3 = true ∧ ck1 cX11_rota 2 4 = true ∧ ck3 cX11_rota 3 184 417 = true ∧ ck3s cX11_rota 6 153 10 = true ∧ ck1 cX11_rota 9 42 = true ∧ ck3 cX11_rota 10 180 387 = true ∧ ck3s cX11_rota 13 154 5 = true := by decide +kernel
theorem dX11_rota_0 : decode cX11_rota 0 = .ok (.iload_n 1, 1) := dk_27 dg_cX11_rota_937.1
theorem dX11_rota_1 : decode cX11_rota 1 = .ok (.iconst 0, 1) := dk_3 dg_cX11_rota_937.2.1
theorem dX11_rota_2 : decode cX11_rota 2 = .ok (.iconst 1, 1) := dk_4 dg_cX11_rota_937.2.2.1
theorem dX11_rota_3 : decode cX11_rota 3 = .ok (.invokestatic 417, 3) := dk_184 dg_cX11_rota_937.2.2.2.1
theorem dX11_rota_6 : decode cX11_rota 6 = .ok (.ifCond .eq 10, 3) := dk_153 dg_cX11_rota_937.2.2.2.2.1
theorem dX11_rota_9 : decode cX11_rota 9 = .ok (.aload_n 0, 1) := dk_42 dg_cX11_rota_937.2.2.2.2.2.1
theorem dX11_rota_10 : decode cX11_rota 10 = .ok (.getfield 387, 3) := dk_180 dg_cX11_rota_937.2.2.2.2.2.2.1
theorem dX11_rota_13 : decode cX11_rota 13 = .ok (.ifCond .ne 5, 3) := dk_154 dg_cX11_rota_937.2.2.2.2.2.2.2
theorem dg_cX11_rota_938 : ck1 cX11_rota 16 2 = true ∧ ck1 cX11_rota 17 172 = true ∧ ck1 cX11_rota 18 3 = true ∧ ck1 cX11_rota 19 61 = true ∧ ck1 cX11_rota 20 2 = true ∧ ck1 cX11_rota 21 62 = true ∧ ck1 cX11_rota 22 3 = true ∧ ck2 cX11_rota 23 54 4 = true := by decide +kernel
theorem dX11_rota_16 : decode cX11_rota 16 = .ok (.iconst (-1), 1) := dk_2 dg_cX11_rota_938.1
theorem dX11_rota_17 : decode cX11_rota 17 = .ok (.ireturn, 1) := dk_172 dg_cX11_rota_938.2.1
theorem dX11_rota_18 : decode cX11_rota 18 = .ok (.iconst 0, 1) := dk_3 dg_cX11_rota_938.2.2.1
theorem dX11_rota_19 : decode cX11_rota 19 = .ok (.istore_n 2, 1) := dk_61 dg_cX11_rota_938.2.2.2.1
theorem dX11_rota_20 : decode cX11_rota 20 = .ok (.iconst (-1), 1) := dk_2 dg_cX11_rota_938.2.2.2.2.1
theorem dX11_rota_21 : decode cX11_rota 21 = .ok (.istore_n 3, 1) := dk_62 dg_cX11_rota_938.2.2.2.2.2.1
theorem dX11_rota_22 : decode cX11_rota 22 = .ok (.iconst 0, 1) := dk_3 dg_cX11_rota_938.2.2.2.2.2.2.1
theorem dX11_rota_23 : decode cX11_rota 23 = .ok (.istore 4, 2) := dk_54 dg_cX11_rota_938.2.2.2.2.2.2.2
theorem dg_cX11_rota_939 : ck2 cX11_rota 25 21 4 = true ∧ ck1 cX11_rota 27 42 = true ∧ ck3 cX11_rota 28 180 387 = true ∧ ck3s cX11_rota 31 162 83 = true ∧ ck1 cX11_rota 34 42 = true ∧ ck3 cX11_rota 35 182 449 = true ∧ ck1 cX11_rota 38 3 = true ∧ ck2 cX11_rota 39 54 5 = true := by decide +kernel
theorem dX11_rota_25 : decode cX11_rota 25 = .ok (.iload 4, 2) := dk_21 dg_cX11_rota_939.1
theorem dX11_rota_27 : decode cX11_rota 27 = .ok (.aload_n 0, 1) := dk_42 dg_cX11_rota_939.2.1
theorem dX11_rota_28 : decode cX11_rota 28 = .ok (.getfield 387, 3) := dk_180 dg_cX11_rota_939.2.2.1
theorem dX11_rota_31 : decode cX11_rota 31 = .ok (.if_icmp .ge 83, 3) := dk_162 dg_cX11_rota_939.2.2.2.1
theorem dX11_rota_34 : decode cX11_rota 34 = .ok (.aload_n 0, 1) := dk_42 dg_cX11_rota_939.2.2.2.2.1
theorem dX11_rota_35 : decode cX11_rota 35 = .ok (.invokevirtual 449, 3) := dk_182 dg_cX11_rota_939.2.2.2.2.2.1
theorem dX11_rota_38 : decode cX11_rota 38 = .ok (.iconst 0, 1) := dk_3 dg_cX11_rota_939.2.2.2.2.2.2.1
theorem dX11_rota_39 : decode cX11_rota 39 = .ok (.istore 5, 2) := dk_54 dg_cX11_rota_939.2.2.2.2.2.2.2
theorem dg_cX11_rota_940 : ck2 cX11_rota 41 21 5 = true ∧ ck1 cX11_rota 43 42 = true ∧ ck3 cX11_rota 44 180 387 = true ∧ ck3s cX11_rota 47 162 37 = true ∧ ck1 cX11_rota 50 42 = true ∧ ck3 cX11_rota 51 180 96 = true ∧ ck2s cX11_rota 54 16 6 = true ∧ ck2 cX11_rota 56 21 5 = true := by decide +kernel
theorem dX11_rota_41 : decode cX11_rota 41 = .ok (.iload 5, 2) := dk_21 dg_cX11_rota_940.1
theorem dX11_rota_43 : decode cX11_rota 43 = .ok (.aload_n 0, 1) := dk_42 dg_cX11_rota_940.2.1
theorem dX11_rota_44 : decode cX11_rota 44 = .ok (.getfield 387, 3) := dk_180 dg_cX11_rota_940.2.2.1
theorem dX11_rota_47 : decode cX11_rota 47 = .ok (.if_icmp .ge 37, 3) := dk_162 dg_cX11_rota_940.2.2.2.1
theorem dX11_rota_50 : decode cX11_rota 50 = .ok (.aload_n 0, 1) := dk_42 dg_cX11_rota_940.2.2.2.2.1
theorem dX11_rota_51 : decode cX11_rota 51 = .ok (.getfield 96, 3) := dk_180 dg_cX11_rota_940.2.2.2.2.2.1
theorem dX11_rota_54 : decode cX11_rota 54 = .ok (.bipush 6, 2) := dk_16 dg_cX11_rota_940.2.2.2.2.2.2.1
theorem dX11_rota_56 : decode cX11_rota 56 = .ok (.iload 5, 2) := dk_21 dg_cX11_rota_940.2.2.2.2.2.2.2
theorem dg_cX11_rota_941 : ck1 cX11_rota 58 96 = true ∧ ck1 cX11_rota 59 42 = true ∧ ck3 cX11_rota 60 180 93 = true ∧ ck2s cX11_rota 63 16 6 = true := by decide +kernel
theorem dX11_rota_58 : decode cX11_rota 58 = .ok (.iadd, 1) := dk_96 dg_cX11_rota_941.1
theorem dX11_rota_59 : decode cX11_rota 59 = .ok (.aload_n 0, 1) := dk_42 dg_cX11_rota_941.2.1
theorem dX11_rota_60 : decode cX11_rota 60 = .ok (.getfield 93, 3) := dk_180 dg_cX11_rota_941.2.2.1
theorem dX11_rota_63 : decode cX11_rota 63 = .ok (.bipush 6, 2) := dk_16 dg_cX11_rota_941.2.2.2
def dS_cX11_rota_1 : List UInt8 := 6 :: 21 :: 5 :: 21 :: 4 :: 96 :: 42 :: 180 :: 1 :: 131 :: 112 :: 96 :: 46 :: 79 :: 132 :: 5 :: 1 :: 167 :: 255 :: 216 :: 42 :: 182 :: 1 :: 187 :: 184 :: 1 :: 230 :: 54 :: 5 :: 21 :: 5 :: 29 :: 163 :: 0 :: 6 :: 167 :: 0 :: 9 :: 21 :: 4 :: 61 :: 21 :: 5 :: 62 :: 132 :: 4 :: 1 :: 167 :: 255 :: 170 :: 27 :: 154 :: 0 :: 7 :: 28 :: 167 :: 0 :: 4 :: 29 :: 172 :: []
def dS_cX11_rota_0 : List UInt8 := 27 :: 3 :: 4 :: 184 :: 1 :: 161 :: 153 :: 0 :: 10 :: 42 :: 180 :: 1 :: 131 :: 154 :: 0 :: 5 :: 2 :: 172 :: 3 :: 61 :: 2 :: 62 :: 3 :: 54 :: 4 :: 21 :: 4 :: 42 :: 180 :: 1 :: 131 :: 162 :: 0 :: 83 :: 42 :: 182 :: 1 :: 193 :: 3 :: 54 :: 5 :: 21 :: 5 :: 42 :: 180 :: 1 :: 131 :: 162 :: 0 :: 37 :: 42 :: 180 :: 0 :: 96 :: 16 :: 6 :: 21 :: 5 :: 96 :: 42 :: 180 :: 0 :: 93 :: 16 :: dS_cX11_rota_1
theorem dT_cX11_rota_0 : cX11_rota.data.toList.drop 0 = dS_cX11_rota_0 := by decide +kernel
theorem dT_cX11_rota_1 : cX11_rota.data.toList.drop 64 = dS_cX11_rota_1 := ck_nx dT_cX11_rota_0 (by decide +kernel) rfl
theorem dg_cX11_rota_942 : ck2L dS_cX11_rota_1 1 21 5 = true ∧ ck2L dS_cX11_rota_1 3 21 4 = true ∧ ck1L dS_cX11_rota_1 5 96 = true ∧ ck1L dS_cX11_rota_1 6 42 = true ∧ ck3L dS_cX11_rota_1 7 180 387 = true ∧ ck1L dS_cX11_rota_1 10 112 = true ∧ ck1L dS_cX11_rota_1 11 96 = true ∧ ck1L dS_cX11_rota_1 12 46 = true := by decide +kernel
theorem dX11_rota_65 : decode cX11_rota 65 = .ok (.iload 5, 2) := dk_21 (ck2_s (r := 1) dT_cX11_rota_1 rfl dg_cX11_rota_942.1)
theorem dX11_rota_67 : decode cX11_rota 67 = .ok (.iload 4, 2) := dk_21 (ck2_s (r := 3) dT_cX11_rota_1 rfl dg_cX11_rota_942.2.1)
theorem dX11_rota_69 : decode cX11_rota 69 = .ok (.iadd, 1) := dk_96 (ck1_s (r := 5) dT_cX11_rota_1 rfl dg_cX11_rota_942.2.2.1)
theorem dX11_rota_70 : decode cX11_rota 70 = .ok (.aload_n 0, 1) := dk_42 (ck1_s (r := 6) dT_cX11_rota_1 rfl dg_cX11_rota_942.2.2.2.1)
theorem dX11_rota_71 : decode cX11_rota 71 = .ok (.getfield 387, 3) := dk_180 (ck3_s (r := 7) dT_cX11_rota_1 rfl dg_cX11_rota_942.2.2.2.2.1)
theorem dX11_rota_74 : decode cX11_rota 74 = .ok (.irem, 1) := dk_112 (ck1_s (r := 10) dT_cX11_rota_1 rfl dg_cX11_rota_942.2.2.2.2.2.1)
theorem dX11_rota_75 : decode cX11_rota 75 = .ok (.iadd, 1) := dk_96 (ck1_s (r := 11) dT_cX11_rota_1 rfl dg_cX11_rota_942.2.2.2.2.2.2.1)
theorem dX11_rota_76 : decode cX11_rota 76 = .ok (.iaload, 1) := dk_46 (ck1_s (r := 12) dT_cX11_rota_1 rfl dg_cX11_rota_942.2.2.2.2.2.2.2)
theorem dg_cX11_rota_943 : ck1L dS_cX11_rota_1 13 79 = true ∧ ck3iL dS_cX11_rota_1 14 132 5 1 = true ∧ ck3sL dS_cX11_rota_1 17 167 (-40) = true ∧ ck1L dS_cX11_rota_1 20 42 = true ∧ ck3L dS_cX11_rota_1 21 182 443 = true ∧ ck3L dS_cX11_rota_1 24 184 486 = true ∧ ck2L dS_cX11_rota_1 27 54 5 = true ∧ ck2L dS_cX11_rota_1 29 21 5 = true := by decide +kernel
theorem dX11_rota_77 : decode cX11_rota 77 = .ok (.iastore, 1) := dk_79 (ck1_s (r := 13) dT_cX11_rota_1 rfl dg_cX11_rota_943.1)
theorem dX11_rota_78 : decode cX11_rota 78 = .ok (.iinc 5 1, 3) := dk_132 (ck3i_s (r := 14) dT_cX11_rota_1 rfl dg_cX11_rota_943.2.1)
theorem dX11_rota_81 : decode cX11_rota 81 = .ok (.goto (-40), 3) := dk_167 (ck3s_s (r := 17) dT_cX11_rota_1 rfl dg_cX11_rota_943.2.2.1)
theorem dX11_rota_84 : decode cX11_rota 84 = .ok (.aload_n 0, 1) := dk_42 (ck1_s (r := 20) dT_cX11_rota_1 rfl dg_cX11_rota_943.2.2.2.1)
theorem dX11_rota_85 : decode cX11_rota 85 = .ok (.invokevirtual 443, 3) := dk_182 (ck3_s (r := 21) dT_cX11_rota_1 rfl dg_cX11_rota_943.2.2.2.2.1)
theorem dX11_rota_88 : decode cX11_rota 88 = .ok (.invokestatic 486, 3) := dk_184 (ck3_s (r := 24) dT_cX11_rota_1 rfl dg_cX11_rota_943.2.2.2.2.2.1)
theorem dX11_rota_91 : decode cX11_rota 91 = .ok (.istore 5, 2) := dk_54 (ck2_s (r := 27) dT_cX11_rota_1 rfl dg_cX11_rota_943.2.2.2.2.2.2.1)
theorem dX11_rota_93 : decode cX11_rota 93 = .ok (.iload 5, 2) := dk_21 (ck2_s (r := 29) dT_cX11_rota_1 rfl dg_cX11_rota_943.2.2.2.2.2.2.2)
theorem dg_cX11_rota_944 : ck1L dS_cX11_rota_1 31 29 = true ∧ ck3sL dS_cX11_rota_1 32 163 6 = true ∧ ck3sL dS_cX11_rota_1 35 167 9 = true ∧ ck2L dS_cX11_rota_1 38 21 4 = true ∧ ck1L dS_cX11_rota_1 40 61 = true ∧ ck2L dS_cX11_rota_1 41 21 5 = true ∧ ck1L dS_cX11_rota_1 43 62 = true ∧ ck3iL dS_cX11_rota_1 44 132 4 1 = true := by decide +kernel
theorem dX11_rota_95 : decode cX11_rota 95 = .ok (.iload_n 3, 1) := dk_29 (ck1_s (r := 31) dT_cX11_rota_1 rfl dg_cX11_rota_944.1)
theorem dX11_rota_96 : decode cX11_rota 96 = .ok (.if_icmp .gt 6, 3) := dk_163 (ck3s_s (r := 32) dT_cX11_rota_1 rfl dg_cX11_rota_944.2.1)
theorem dX11_rota_99 : decode cX11_rota 99 = .ok (.goto 9, 3) := dk_167 (ck3s_s (r := 35) dT_cX11_rota_1 rfl dg_cX11_rota_944.2.2.1)
theorem dX11_rota_102 : decode cX11_rota 102 = .ok (.iload 4, 2) := dk_21 (ck2_s (r := 38) dT_cX11_rota_1 rfl dg_cX11_rota_944.2.2.2.1)
theorem dX11_rota_104 : decode cX11_rota 104 = .ok (.istore_n 2, 1) := dk_61 (ck1_s (r := 40) dT_cX11_rota_1 rfl dg_cX11_rota_944.2.2.2.2.1)
theorem dX11_rota_105 : decode cX11_rota 105 = .ok (.iload 5, 2) := dk_21 (ck2_s (r := 41) dT_cX11_rota_1 rfl dg_cX11_rota_944.2.2.2.2.2.1)
theorem dX11_rota_107 : decode cX11_rota 107 = .ok (.istore_n 3, 1) := dk_62 (ck1_s (r := 43) dT_cX11_rota_1 rfl dg_cX11_rota_944.2.2.2.2.2.2.1)
theorem dX11_rota_108 : decode cX11_rota 108 = .ok (.iinc 4 1, 3) := dk_132 (ck3i_s (r := 44) dT_cX11_rota_1 rfl dg_cX11_rota_944.2.2.2.2.2.2.2)
theorem dg_cX11_rota_945 : ck3sL dS_cX11_rota_1 47 167 (-86) = true ∧ ck1L dS_cX11_rota_1 50 27 = true ∧ ck3sL dS_cX11_rota_1 51 154 7 = true ∧ ck1L dS_cX11_rota_1 54 28 = true ∧ ck3sL dS_cX11_rota_1 55 167 4 = true ∧ ck1L dS_cX11_rota_1 58 29 = true ∧ ck1L dS_cX11_rota_1 59 172 = true := by decide +kernel
theorem dX11_rota_111 : decode cX11_rota 111 = .ok (.goto (-86), 3) := dk_167 (ck3s_s (r := 47) dT_cX11_rota_1 rfl dg_cX11_rota_945.1)
theorem dX11_rota_114 : decode cX11_rota 114 = .ok (.iload_n 1, 1) := dk_27 (ck1_s (r := 50) dT_cX11_rota_1 rfl dg_cX11_rota_945.2.1)
theorem dX11_rota_115 : decode cX11_rota 115 = .ok (.ifCond .ne 7, 3) := dk_154 (ck3s_s (r := 51) dT_cX11_rota_1 rfl dg_cX11_rota_945.2.2.1)
theorem dX11_rota_118 : decode cX11_rota 118 = .ok (.iload_n 2, 1) := dk_28 (ck1_s (r := 54) dT_cX11_rota_1 rfl dg_cX11_rota_945.2.2.2.1)
theorem dX11_rota_119 : decode cX11_rota 119 = .ok (.goto 4, 3) := dk_167 (ck3s_s (r := 55) dT_cX11_rota_1 rfl dg_cX11_rota_945.2.2.2.2.1)
theorem dX11_rota_122 : decode cX11_rota 122 = .ok (.iload_n 3, 1) := dk_29 (ck1_s (r := 58) dT_cX11_rota_1 rfl dg_cX11_rota_945.2.2.2.2.2.1)
theorem dX11_rota_123 : decode cX11_rota 123 = .ok (.ireturn, 1) := dk_172 (ck1_s (r := 59) dT_cX11_rota_1 rfl dg_cX11_rota_945.2.2.2.2.2.2)
theorem dg_cX11_rout_946 : ck1 cX11_rout 0 42 = true ∧ ck3 cX11_rout 1 182 449 = true ∧ ck1 cX11_rout 4 3 = true ∧ ck1 cX11_rout 5 60 = true ∧ ck1 cX11_rout 6 27 = true ∧ ck2s cX11_rout 7 16 60 = true ∧ ck3s cX11_rout 9 163 24 = true ∧ ck1 cX11_rout 12 42 = true := by decide +kernel
theorem dX11_rout_0 : decode cX11_rout 0 = .ok (.aload_n 0, 1) := dk_42 dg_cX11_rout_946.1
theorem dX11_rout_1 : decode cX11_rout 1 = .ok (.invokevirtual 449, 3) := dk_182 dg_cX11_rout_946.2.1
theorem dX11_rout_4 : decode cX11_rout 4 = .ok (.iconst 0, 1) := dk_3 dg_cX11_rout_946.2.2.1
theorem dX11_rout_5 : decode cX11_rout 5 = .ok (.istore_n 1, 1) := dk_60 dg_cX11_rout_946.2.2.2.1
theorem dX11_rout_6 : decode cX11_rout 6 = .ok (.iload_n 1, 1) := dk_27 dg_cX11_rout_946.2.2.2.2.1
theorem dX11_rout_7 : decode cX11_rout 7 = .ok (.bipush 60, 2) := dk_16 dg_cX11_rout_946.2.2.2.2.2.1
theorem dX11_rout_9 : decode cX11_rout 9 = .ok (.if_icmp .gt 24, 3) := dk_163 dg_cX11_rout_946.2.2.2.2.2.2.1
theorem dX11_rout_12 : decode cX11_rout 12 = .ok (.aload_n 0, 1) := dk_42 dg_cX11_rout_946.2.2.2.2.2.2.2
theorem dg_cX11_rout_947 : ck3 cX11_rout 13 182 440 = true ∧ ck3s cX11_rout 16 154 5 = true ∧ ck1 cX11_rout 19 27 = true ∧ ck1 cX11_rout 20 172 = true ∧ ck1 cX11_rout 21 42 = true ∧ ck1 cX11_rout 22 3 = true ∧ ck3 cX11_rout 23 182 464 = true ∧ ck1 cX11_rout 26 87 = true := by decide +kernel
theorem dX11_rout_13 : decode cX11_rout 13 = .ok (.invokevirtual 440, 3) := dk_182 dg_cX11_rout_947.1
theorem dX11_rout_16 : decode cX11_rout 16 = .ok (.ifCond .ne 5, 3) := dk_154 dg_cX11_rout_947.2.1
theorem dX11_rout_19 : decode cX11_rout 19 = .ok (.iload_n 1, 1) := dk_27 dg_cX11_rout_947.2.2.1
theorem dX11_rout_20 : decode cX11_rout 20 = .ok (.ireturn, 1) := dk_172 dg_cX11_rout_947.2.2.2.1
theorem dX11_rout_21 : decode cX11_rout 21 = .ok (.aload_n 0, 1) := dk_42 dg_cX11_rout_947.2.2.2.2.1
theorem dX11_rout_22 : decode cX11_rout 22 = .ok (.iconst 0, 1) := dk_3 dg_cX11_rout_947.2.2.2.2.2.1
theorem dX11_rout_23 : decode cX11_rout 23 = .ok (.invokevirtual 464, 3) := dk_182 dg_cX11_rout_947.2.2.2.2.2.2.1
theorem dX11_rout_26 : decode cX11_rout 26 = .ok (.pop, 1) := dk_87 dg_cX11_rout_947.2.2.2.2.2.2.2
theorem dg_cX11_rout_948 : ck3i cX11_rout 27 132 1 1 = true ∧ ck3s cX11_rout 30 167 (-24) = true ∧ ck1 cX11_rout 33 2 = true ∧ ck1 cX11_rout 34 172 = true := by decide +kernel
theorem dX11_rout_27 : decode cX11_rout 27 = .ok (.iinc 1 1, 3) := dk_132 dg_cX11_rout_948.1
theorem dX11_rout_30 : decode cX11_rout 30 = .ok (.goto (-24), 3) := dk_167 dg_cX11_rout_948.2.1
theorem dX11_rout_33 : decode cX11_rout 33 = .ok (.iconst (-1), 1) := dk_2 dg_cX11_rout_948.2.2.1
theorem dX11_rout_34 : decode cX11_rout 34 = .ok (.ireturn, 1) := dk_172 dg_cX11_rout_948.2.2.2
theorem dg_cX11_rowOf_949 : ck1 cX11_rowOf 0 3 = true ∧ ck1 cX11_rowOf 1 61 = true ∧ ck1 cX11_rowOf 2 3 = true ∧ ck1 cX11_rowOf 3 62 = true ∧ ck1 cX11_rowOf 4 3 = true ∧ ck2 cX11_rowOf 5 54 4 = true ∧ ck2 cX11_rowOf 7 21 4 = true ∧ ck1 cX11_rowOf 9 42 = true := by decide +kernel
theorem dX11_rowOf_0 : decode cX11_rowOf 0 = .ok (.iconst 0, 1) := dk_3 dg_cX11_rowOf_949.1
theorem dX11_rowOf_1 : decode cX11_rowOf 1 = .ok (.istore_n 2, 1) := dk_61 dg_cX11_rowOf_949.2.1
theorem dX11_rowOf_2 : decode cX11_rowOf 2 = .ok (.iconst 0, 1) := dk_3 dg_cX11_rowOf_949.2.2.1
theorem dX11_rowOf_3 : decode cX11_rowOf 3 = .ok (.istore_n 3, 1) := dk_62 dg_cX11_rowOf_949.2.2.2.1
theorem dX11_rowOf_4 : decode cX11_rowOf 4 = .ok (.iconst 0, 1) := dk_3 dg_cX11_rowOf_949.2.2.2.2.1
theorem dX11_rowOf_5 : decode cX11_rowOf 5 = .ok (.istore 4, 2) := dk_54 dg_cX11_rowOf_949.2.2.2.2.2.1
theorem dX11_rowOf_7 : decode cX11_rowOf 7 = .ok (.iload 4, 2) := dk_21 dg_cX11_rowOf_949.2.2.2.2.2.2.1
theorem dX11_rowOf_9 : decode cX11_rowOf 9 = .ok (.aload_n 0, 1) := dk_42 dg_cX11_rowOf_949.2.2.2.2.2.2.2
theorem dg_cX11_rowOf_950 : ck3 cX11_rowOf 10 180 390 = true ∧ ck3s cX11_rowOf 13 162 49 = true ∧ ck1 cX11_rowOf 16 27 = true ∧ ck2 cX11_rowOf 17 21 4 = true ∧ ck1 cX11_rowOf 19 122 = true ∧ ck1 cX11_rowOf 20 4 = true ∧ ck1 cX11_rowOf 21 126 = true ∧ ck3s cX11_rowOf 22 154 6 = true := by decide +kernel
theorem dX11_rowOf_10 : decode cX11_rowOf 10 = .ok (.getfield 390, 3) := dk_180 dg_cX11_rowOf_950.1
theorem dX11_rowOf_13 : decode cX11_rowOf 13 = .ok (.if_icmp .ge 49, 3) := dk_162 dg_cX11_rowOf_950.2.1
theorem dX11_rowOf_16 : decode cX11_rowOf 16 = .ok (.iload_n 1, 1) := dk_27 dg_cX11_rowOf_950.2.2.1
theorem dX11_rowOf_17 : decode cX11_rowOf 17 = .ok (.iload 4, 2) := dk_21 dg_cX11_rowOf_950.2.2.2.1
theorem dX11_rowOf_19 : decode cX11_rowOf 19 = .ok (.ishr, 1) := dk_122 dg_cX11_rowOf_950.2.2.2.2.1
theorem dX11_rowOf_20 : decode cX11_rowOf 20 = .ok (.iconst 1, 1) := dk_4 dg_cX11_rowOf_950.2.2.2.2.2.1
theorem dX11_rowOf_21 : decode cX11_rowOf 21 = .ok (.iand, 1) := dk_126 dg_cX11_rowOf_950.2.2.2.2.2.2.1
theorem dX11_rowOf_22 : decode cX11_rowOf 22 = .ok (.ifCond .ne 6, 3) := dk_154 dg_cX11_rowOf_950.2.2.2.2.2.2.2
theorem dg_cX11_rowOf_951 : ck3s cX11_rowOf 25 167 31 = true ∧ ck1 cX11_rowOf 28 28 = true ∧ ck1 cX11_rowOf 29 42 = true ∧ ck3 cX11_rowOf 30 180 93 = true ∧ ck2s cX11_rowOf 33 16 18 = true ∧ ck2 cX11_rowOf 35 21 4 = true ∧ ck1 cX11_rowOf 37 96 = true ∧ ck1 cX11_rowOf 38 46 = true := by decide +kernel
theorem dX11_rowOf_25 : decode cX11_rowOf 25 = .ok (.goto 31, 3) := dk_167 dg_cX11_rowOf_951.1
theorem dX11_rowOf_28 : decode cX11_rowOf 28 = .ok (.iload_n 2, 1) := dk_28 dg_cX11_rowOf_951.2.1
theorem dX11_rowOf_29 : decode cX11_rowOf 29 = .ok (.aload_n 0, 1) := dk_42 dg_cX11_rowOf_951.2.2.1
theorem dX11_rowOf_30 : decode cX11_rowOf 30 = .ok (.getfield 93, 3) := dk_180 dg_cX11_rowOf_951.2.2.2.1
theorem dX11_rowOf_33 : decode cX11_rowOf 33 = .ok (.bipush 18, 2) := dk_16 dg_cX11_rowOf_951.2.2.2.2.1
theorem dX11_rowOf_35 : decode cX11_rowOf 35 = .ok (.iload 4, 2) := dk_21 dg_cX11_rowOf_951.2.2.2.2.2.1
theorem dX11_rowOf_37 : decode cX11_rowOf 37 = .ok (.iadd, 1) := dk_96 dg_cX11_rowOf_951.2.2.2.2.2.2.1
theorem dX11_rowOf_38 : decode cX11_rowOf 38 = .ok (.iaload, 1) := dk_46 dg_cX11_rowOf_951.2.2.2.2.2.2.2
theorem dg_cX11_rowOf_952 : ck1 cX11_rowOf 39 96 = true ∧ ck1 cX11_rowOf 40 61 = true ∧ ck1 cX11_rowOf 41 29 = true ∧ ck1 cX11_rowOf 42 42 = true ∧ ck3 cX11_rowOf 43 180 93 = true ∧ ck2s cX11_rowOf 46 16 12 = true ∧ ck2 cX11_rowOf 48 21 4 = true ∧ ck1 cX11_rowOf 50 96 = true := by decide +kernel
theorem dX11_rowOf_39 : decode cX11_rowOf 39 = .ok (.iadd, 1) := dk_96 dg_cX11_rowOf_952.1
theorem dX11_rowOf_40 : decode cX11_rowOf 40 = .ok (.istore_n 2, 1) := dk_61 dg_cX11_rowOf_952.2.1
theorem dX11_rowOf_41 : decode cX11_rowOf 41 = .ok (.iload_n 3, 1) := dk_29 dg_cX11_rowOf_952.2.2.1
theorem dX11_rowOf_42 : decode cX11_rowOf 42 = .ok (.aload_n 0, 1) := dk_42 dg_cX11_rowOf_952.2.2.2.1
theorem dX11_rowOf_43 : decode cX11_rowOf 43 = .ok (.getfield 93, 3) := dk_180 dg_cX11_rowOf_952.2.2.2.2.1
theorem dX11_rowOf_46 : decode cX11_rowOf 46 = .ok (.bipush 12, 2) := dk_16 dg_cX11_rowOf_952.2.2.2.2.2.1
theorem dX11_rowOf_48 : decode cX11_rowOf 48 = .ok (.iload 4, 2) := dk_21 dg_cX11_rowOf_952.2.2.2.2.2.2.1
theorem dX11_rowOf_50 : decode cX11_rowOf 50 = .ok (.iadd, 1) := dk_96 dg_cX11_rowOf_952.2.2.2.2.2.2.2
theorem dg_cX11_rowOf_953 : ck1 cX11_rowOf 51 46 = true ∧ ck3 cX11_rowOf 52 184 437 = true ∧ ck1 cX11_rowOf 55 62 = true ∧ ck3i cX11_rowOf 56 132 4 1 = true ∧ ck3s cX11_rowOf 59 167 (-52) = true ∧ ck1 cX11_rowOf 62 28 = true ∧ ck1 cX11_rowOf 63 42 = true := by decide +kernel
theorem dX11_rowOf_51 : decode cX11_rowOf 51 = .ok (.iaload, 1) := dk_46 dg_cX11_rowOf_953.1
theorem dX11_rowOf_52 : decode cX11_rowOf 52 = .ok (.invokestatic 437, 3) := dk_184 dg_cX11_rowOf_953.2.1
theorem dX11_rowOf_55 : decode cX11_rowOf 55 = .ok (.istore_n 3, 1) := dk_62 dg_cX11_rowOf_953.2.2.1
theorem dX11_rowOf_56 : decode cX11_rowOf 56 = .ok (.iinc 4 1, 3) := dk_132 dg_cX11_rowOf_953.2.2.2.1
theorem dX11_rowOf_59 : decode cX11_rowOf 59 = .ok (.goto (-52), 3) := dk_167 dg_cX11_rowOf_953.2.2.2.2.1
theorem dX11_rowOf_62 : decode cX11_rowOf 62 = .ok (.iload_n 2, 1) := dk_28 dg_cX11_rowOf_953.2.2.2.2.2.1
theorem dX11_rowOf_63 : decode cX11_rowOf 63 = .ok (.aload_n 0, 1) := dk_42 dg_cX11_rowOf_953.2.2.2.2.2.2
def dS_cX11_rowOf_1 : List UInt8 := 180 :: 0 :: 87 :: 164 :: 0 :: 9 :: 19 :: 1 :: 242 :: 167 :: 0 :: 4 :: 29 :: 172 :: []
def dS_cX11_rowOf_0 : List UInt8 := 3 :: 61 :: 3 :: 62 :: 3 :: 54 :: 4 :: 21 :: 4 :: 42 :: 180 :: 1 :: 134 :: 162 :: 0 :: 49 :: 27 :: 21 :: 4 :: 122 :: 4 :: 126 :: 154 :: 0 :: 6 :: 167 :: 0 :: 31 :: 28 :: 42 :: 180 :: 0 :: 93 :: 16 :: 18 :: 21 :: 4 :: 96 :: 46 :: 96 :: 61 :: 29 :: 42 :: 180 :: 0 :: 93 :: 16 :: 12 :: 21 :: 4 :: 96 :: 46 :: 184 :: 1 :: 181 :: 62 :: 132 :: 4 :: 1 :: 167 :: 255 :: 204 :: 28 :: 42 :: dS_cX11_rowOf_1
theorem dT_cX11_rowOf_0 : cX11_rowOf.data.toList.drop 0 = dS_cX11_rowOf_0 := by decide +kernel
theorem dT_cX11_rowOf_1 : cX11_rowOf.data.toList.drop 64 = dS_cX11_rowOf_1 := ck_nx dT_cX11_rowOf_0 (by decide +kernel) rfl
theorem dg_cX11_rowOf_954 : ck3L dS_cX11_rowOf_1 0 180 87 = true ∧ ck3sL dS_cX11_rowOf_1 3 164 9 = true ∧ ck3L dS_cX11_rowOf_1 6 19 498 = true ∧ ck3sL dS_cX11_rowOf_1 9 167 4 = true ∧ ck1L dS_cX11_rowOf_1 12 29 = true ∧ ck1L dS_cX11_rowOf_1 13 172 = true := by decide +kernel
theorem dX11_rowOf_64 : decode cX11_rowOf 64 = .ok (.getfield 87, 3) := dk_180 (ck3_s (r := 0) dT_cX11_rowOf_1 rfl dg_cX11_rowOf_954.1)
theorem dX11_rowOf_67 : decode cX11_rowOf 67 = .ok (.if_icmp .le 9, 3) := dk_164 (ck3s_s (r := 3) dT_cX11_rowOf_1 rfl dg_cX11_rowOf_954.2.1)
theorem dX11_rowOf_70 : decode cX11_rowOf 70 = .ok (.ldc_w 498, 3) := dk_19 (ck3_s (r := 6) dT_cX11_rowOf_1 rfl dg_cX11_rowOf_954.2.2.1)
theorem dX11_rowOf_73 : decode cX11_rowOf 73 = .ok (.goto 4, 3) := dk_167 (ck3s_s (r := 9) dT_cX11_rowOf_1 rfl dg_cX11_rowOf_954.2.2.2.1)
theorem dX11_rowOf_76 : decode cX11_rowOf 76 = .ok (.iload_n 3, 1) := dk_29 (ck1_s (r := 12) dT_cX11_rowOf_1 rfl dg_cX11_rowOf_954.2.2.2.2.1)
theorem dX11_rowOf_77 : decode cX11_rowOf 77 = .ok (.ireturn, 1) := dk_172 (ck1_s (r := 13) dT_cX11_rowOf_1 rfl dg_cX11_rowOf_954.2.2.2.2.2)
theorem dg_cX11_seen_955 : ck1 cX11_seen 0 27 = true ∧ ck1 cX11_seen 1 3 = true ∧ ck2s cX11_seen 2 16 20 = true ∧ ck3 cX11_seen 4 184 417 = true ∧ ck3s cX11_seen 7 153 26 = true ∧ ck1 cX11_seen 10 42 = true ∧ ck3 cX11_seen 11 180 387 = true ∧ ck3s cX11_seen 14 153 19 = true := by decide +kernel
theorem dX11_seen_0 : decode cX11_seen 0 = .ok (.iload_n 1, 1) := dk_27 dg_cX11_seen_955.1
theorem dX11_seen_1 : decode cX11_seen 1 = .ok (.iconst 0, 1) := dk_3 dg_cX11_seen_955.2.1
theorem dX11_seen_2 : decode cX11_seen 2 = .ok (.bipush 20, 2) := dk_16 dg_cX11_seen_955.2.2.1
theorem dX11_seen_4 : decode cX11_seen 4 = .ok (.invokestatic 417, 3) := dk_184 dg_cX11_seen_955.2.2.2.1
theorem dX11_seen_7 : decode cX11_seen 7 = .ok (.ifCond .eq 26, 3) := dk_153 dg_cX11_seen_955.2.2.2.2.1
theorem dX11_seen_10 : decode cX11_seen 10 = .ok (.aload_n 0, 1) := dk_42 dg_cX11_seen_955.2.2.2.2.2.1
theorem dX11_seen_11 : decode cX11_seen 11 = .ok (.getfield 387, 3) := dk_180 dg_cX11_seen_955.2.2.2.2.2.2.1
theorem dX11_seen_14 : decode cX11_seen 14 = .ok (.ifCond .eq 19, 3) := dk_153 dg_cX11_seen_955.2.2.2.2.2.2.2
theorem dg_cX11_seen_956 : ck1 cX11_seen 17 42 = true ∧ ck3 cX11_seen 18 180 390 = true ∧ ck3s cX11_seen 21 153 12 = true ∧ ck1 cX11_seen 24 42 = true ∧ ck3 cX11_seen 25 180 411 = true ∧ ck2s cX11_seen 28 16 30 = true ∧ ck3s cX11_seen 30 160 5 = true ∧ ck1 cX11_seen 33 2 = true := by decide +kernel
theorem dX11_seen_17 : decode cX11_seen 17 = .ok (.aload_n 0, 1) := dk_42 dg_cX11_seen_956.1
theorem dX11_seen_18 : decode cX11_seen 18 = .ok (.getfield 390, 3) := dk_180 dg_cX11_seen_956.2.1
theorem dX11_seen_21 : decode cX11_seen 21 = .ok (.ifCond .eq 12, 3) := dk_153 dg_cX11_seen_956.2.2.1
theorem dX11_seen_24 : decode cX11_seen 24 = .ok (.aload_n 0, 1) := dk_42 dg_cX11_seen_956.2.2.2.1
theorem dX11_seen_25 : decode cX11_seen 25 = .ok (.getfield 411, 3) := dk_180 dg_cX11_seen_956.2.2.2.2.1
theorem dX11_seen_28 : decode cX11_seen 28 = .ok (.bipush 30, 2) := dk_16 dg_cX11_seen_956.2.2.2.2.2.1
theorem dX11_seen_30 : decode cX11_seen 30 = .ok (.if_icmp .ne 5, 3) := dk_160 dg_cX11_seen_956.2.2.2.2.2.2.1
theorem dX11_seen_33 : decode cX11_seen 33 = .ok (.iconst (-1), 1) := dk_2 dg_cX11_seen_956.2.2.2.2.2.2.2
theorem dg_cX11_seen_957 : ck1 cX11_seen 34 172 = true ∧ ck1 cX11_seen 35 42 = true ∧ ck3 cX11_seen 36 180 114 = true ∧ ck1 cX11_seen 39 42 = true ∧ ck3 cX11_seen 40 180 411 = true ∧ ck1 cX11_seen 43 27 = true ∧ ck1 cX11_seen 44 79 = true ∧ ck1 cX11_seen 45 42 = true := by decide +kernel
theorem dX11_seen_34 : decode cX11_seen 34 = .ok (.ireturn, 1) := dk_172 dg_cX11_seen_957.1
theorem dX11_seen_35 : decode cX11_seen 35 = .ok (.aload_n 0, 1) := dk_42 dg_cX11_seen_957.2.1
theorem dX11_seen_36 : decode cX11_seen 36 = .ok (.getfield 114, 3) := dk_180 dg_cX11_seen_957.2.2.1
theorem dX11_seen_39 : decode cX11_seen 39 = .ok (.aload_n 0, 1) := dk_42 dg_cX11_seen_957.2.2.2.1
theorem dX11_seen_40 : decode cX11_seen 40 = .ok (.getfield 411, 3) := dk_180 dg_cX11_seen_957.2.2.2.2.1
theorem dX11_seen_43 : decode cX11_seen 43 = .ok (.iload_n 1, 1) := dk_27 dg_cX11_seen_957.2.2.2.2.2.1
theorem dX11_seen_44 : decode cX11_seen 44 = .ok (.iastore, 1) := dk_79 dg_cX11_seen_957.2.2.2.2.2.2.1
theorem dX11_seen_45 : decode cX11_seen 45 = .ok (.aload_n 0, 1) := dk_42 dg_cX11_seen_957.2.2.2.2.2.2.2
theorem dg_cX11_seen_958 : ck3 cX11_seen 46 180 123 = true ∧ ck1 cX11_seen 49 42 = true ∧ ck3 cX11_seen 50 180 411 = true ∧ ck1 cX11_seen 53 28 = true ∧ ck1 cX11_seen 54 84 = true ∧ ck1 cX11_seen 55 42 = true ∧ ck3 cX11_seen 56 180 117 = true ∧ ck1 cX11_seen 59 42 = true := by decide +kernel
theorem dX11_seen_46 : decode cX11_seen 46 = .ok (.getfield 123, 3) := dk_180 dg_cX11_seen_958.1
theorem dX11_seen_49 : decode cX11_seen 49 = .ok (.aload_n 0, 1) := dk_42 dg_cX11_seen_958.2.1
theorem dX11_seen_50 : decode cX11_seen 50 = .ok (.getfield 411, 3) := dk_180 dg_cX11_seen_958.2.2.1
theorem dX11_seen_53 : decode cX11_seen 53 = .ok (.iload_n 2, 1) := dk_28 dg_cX11_seen_958.2.2.2.1
theorem dX11_seen_54 : decode cX11_seen 54 = .ok (.bastore, 1) := dk_84 dg_cX11_seen_958.2.2.2.2.1
theorem dX11_seen_55 : decode cX11_seen 55 = .ok (.aload_n 0, 1) := dk_42 dg_cX11_seen_958.2.2.2.2.2.1
theorem dX11_seen_56 : decode cX11_seen 56 = .ok (.getfield 117, 3) := dk_180 dg_cX11_seen_958.2.2.2.2.2.2.1
theorem dX11_seen_59 : decode cX11_seen 59 = .ok (.aload_n 0, 1) := dk_42 dg_cX11_seen_958.2.2.2.2.2.2.2
theorem dg_cX11_seen_959 : ck3 cX11_seen 60 180 411 = true ∧ ck1 cX11_seen 63 42 = true := by decide +kernel
theorem dX11_seen_60 : decode cX11_seen 60 = .ok (.getfield 411, 3) := dk_180 dg_cX11_seen_959.1
theorem dX11_seen_63 : decode cX11_seen 63 = .ok (.aload_n 0, 1) := dk_42 dg_cX11_seen_959.2
def dS_cX11_seen_1 : List UInt8 := 180 :: 2 :: 15 :: 79 :: 42 :: 180 :: 0 :: 120 :: 42 :: 180 :: 1 :: 155 :: 2 :: 79 :: 42 :: 89 :: 180 :: 1 :: 155 :: 4 :: 96 :: 181 :: 1 :: 155 :: 42 :: 180 :: 1 :: 155 :: 4 :: 100 :: 172 :: []
def dS_cX11_seen_0 : List UInt8 := 27 :: 3 :: 16 :: 20 :: 184 :: 1 :: 161 :: 153 :: 0 :: 26 :: 42 :: 180 :: 1 :: 131 :: 153 :: 0 :: 19 :: 42 :: 180 :: 1 :: 134 :: 153 :: 0 :: 12 :: 42 :: 180 :: 1 :: 155 :: 16 :: 30 :: 160 :: 0 :: 5 :: 2 :: 172 :: 42 :: 180 :: 0 :: 114 :: 42 :: 180 :: 1 :: 155 :: 27 :: 79 :: 42 :: 180 :: 0 :: 123 :: 42 :: 180 :: 1 :: 155 :: 28 :: 84 :: 42 :: 180 :: 0 :: 117 :: 42 :: 180 :: 1 :: 155 :: 42 :: dS_cX11_seen_1
theorem dT_cX11_seen_0 : cX11_seen.data.toList.drop 0 = dS_cX11_seen_0 := by decide +kernel
theorem dT_cX11_seen_1 : cX11_seen.data.toList.drop 64 = dS_cX11_seen_1 := ck_nx dT_cX11_seen_0 (by decide +kernel) rfl
theorem dg_cX11_seen_960 : ck3L dS_cX11_seen_1 0 180 527 = true ∧ ck1L dS_cX11_seen_1 3 79 = true ∧ ck1L dS_cX11_seen_1 4 42 = true ∧ ck3L dS_cX11_seen_1 5 180 120 = true ∧ ck1L dS_cX11_seen_1 8 42 = true ∧ ck3L dS_cX11_seen_1 9 180 411 = true ∧ ck1L dS_cX11_seen_1 12 2 = true ∧ ck1L dS_cX11_seen_1 13 79 = true := by decide +kernel
theorem dX11_seen_64 : decode cX11_seen 64 = .ok (.getfield 527, 3) := dk_180 (ck3_s (r := 0) dT_cX11_seen_1 rfl dg_cX11_seen_960.1)
theorem dX11_seen_67 : decode cX11_seen 67 = .ok (.iastore, 1) := dk_79 (ck1_s (r := 3) dT_cX11_seen_1 rfl dg_cX11_seen_960.2.1)
theorem dX11_seen_68 : decode cX11_seen 68 = .ok (.aload_n 0, 1) := dk_42 (ck1_s (r := 4) dT_cX11_seen_1 rfl dg_cX11_seen_960.2.2.1)
theorem dX11_seen_69 : decode cX11_seen 69 = .ok (.getfield 120, 3) := dk_180 (ck3_s (r := 5) dT_cX11_seen_1 rfl dg_cX11_seen_960.2.2.2.1)
theorem dX11_seen_72 : decode cX11_seen 72 = .ok (.aload_n 0, 1) := dk_42 (ck1_s (r := 8) dT_cX11_seen_1 rfl dg_cX11_seen_960.2.2.2.2.1)
theorem dX11_seen_73 : decode cX11_seen 73 = .ok (.getfield 411, 3) := dk_180 (ck3_s (r := 9) dT_cX11_seen_1 rfl dg_cX11_seen_960.2.2.2.2.2.1)
theorem dX11_seen_76 : decode cX11_seen 76 = .ok (.iconst (-1), 1) := dk_2 (ck1_s (r := 12) dT_cX11_seen_1 rfl dg_cX11_seen_960.2.2.2.2.2.2.1)
theorem dX11_seen_77 : decode cX11_seen 77 = .ok (.iastore, 1) := dk_79 (ck1_s (r := 13) dT_cX11_seen_1 rfl dg_cX11_seen_960.2.2.2.2.2.2.2)
theorem dg_cX11_seen_961 : ck1L dS_cX11_seen_1 14 42 = true ∧ ck1L dS_cX11_seen_1 15 89 = true ∧ ck3L dS_cX11_seen_1 16 180 411 = true ∧ ck1L dS_cX11_seen_1 19 4 = true ∧ ck1L dS_cX11_seen_1 20 96 = true ∧ ck3L dS_cX11_seen_1 21 181 411 = true ∧ ck1L dS_cX11_seen_1 24 42 = true ∧ ck3L dS_cX11_seen_1 25 180 411 = true := by decide +kernel
theorem dX11_seen_78 : decode cX11_seen 78 = .ok (.aload_n 0, 1) := dk_42 (ck1_s (r := 14) dT_cX11_seen_1 rfl dg_cX11_seen_961.1)
theorem dX11_seen_79 : decode cX11_seen 79 = .ok (.dup, 1) := dk_89 (ck1_s (r := 15) dT_cX11_seen_1 rfl dg_cX11_seen_961.2.1)
theorem dX11_seen_80 : decode cX11_seen 80 = .ok (.getfield 411, 3) := dk_180 (ck3_s (r := 16) dT_cX11_seen_1 rfl dg_cX11_seen_961.2.2.1)
theorem dX11_seen_83 : decode cX11_seen 83 = .ok (.iconst 1, 1) := dk_4 (ck1_s (r := 19) dT_cX11_seen_1 rfl dg_cX11_seen_961.2.2.2.1)
theorem dX11_seen_84 : decode cX11_seen 84 = .ok (.iadd, 1) := dk_96 (ck1_s (r := 20) dT_cX11_seen_1 rfl dg_cX11_seen_961.2.2.2.2.1)
theorem dX11_seen_85 : decode cX11_seen 85 = .ok (.putfield 411, 3) := dk_181 (ck3_s (r := 21) dT_cX11_seen_1 rfl dg_cX11_seen_961.2.2.2.2.2.1)
theorem dX11_seen_88 : decode cX11_seen 88 = .ok (.aload_n 0, 1) := dk_42 (ck1_s (r := 24) dT_cX11_seen_1 rfl dg_cX11_seen_961.2.2.2.2.2.2.1)
theorem dX11_seen_89 : decode cX11_seen 89 = .ok (.getfield 411, 3) := dk_180 (ck3_s (r := 25) dT_cX11_seen_1 rfl dg_cX11_seen_961.2.2.2.2.2.2.2)
theorem dg_cX11_seen_962 : ck1L dS_cX11_seen_1 28 4 = true ∧ ck1L dS_cX11_seen_1 29 100 = true ∧ ck1L dS_cX11_seen_1 30 172 = true := by decide +kernel
theorem dX11_seen_92 : decode cX11_seen 92 = .ok (.iconst 1, 1) := dk_4 (ck1_s (r := 28) dT_cX11_seen_1 rfl dg_cX11_seen_962.1)
theorem dX11_seen_93 : decode cX11_seen 93 = .ok (.isub, 1) := dk_100 (ck1_s (r := 29) dT_cX11_seen_1 rfl dg_cX11_seen_962.2.1)
theorem dX11_seen_94 : decode cX11_seen 94 = .ok (.ireturn, 1) := dk_172 (ck1_s (r := 30) dT_cX11_seen_1 rfl dg_cX11_seen_962.2.2)
theorem dg_cX11_sewing_963 : ck1 cX11_sewing 0 42 = true ∧ ck1 cX11_sewing 1 27 = true ∧ ck3 cX11_sewing 2 182 455 = true ∧ ck3s cX11_sewing 5 153 20 = true ∧ ck1 cX11_sewing 8 42 = true ∧ ck1 cX11_sewing 9 28 = true ∧ ck3 cX11_sewing 10 182 446 = true ∧ ck3s cX11_sewing 13 153 12 = true := by decide +kernel
theorem dX11_sewing_0 : decode cX11_sewing 0 = .ok (.aload_n 0, 1) := dk_42 dg_cX11_sewing_963.1
theorem dX11_sewing_1 : decode cX11_sewing 1 = .ok (.iload_n 1, 1) := dk_27 dg_cX11_sewing_963.2.1
theorem dX11_sewing_2 : decode cX11_sewing 2 = .ok (.invokevirtual 455, 3) := dk_182 dg_cX11_sewing_963.2.2.1
theorem dX11_sewing_5 : decode cX11_sewing 5 = .ok (.ifCond .eq 20, 3) := dk_153 dg_cX11_sewing_963.2.2.2.1
theorem dX11_sewing_8 : decode cX11_sewing 8 = .ok (.aload_n 0, 1) := dk_42 dg_cX11_sewing_963.2.2.2.2.1
theorem dX11_sewing_9 : decode cX11_sewing 9 = .ok (.iload_n 2, 1) := dk_28 dg_cX11_sewing_963.2.2.2.2.2.1
theorem dX11_sewing_10 : decode cX11_sewing 10 = .ok (.invokevirtual 446, 3) := dk_182 dg_cX11_sewing_963.2.2.2.2.2.2.1
theorem dX11_sewing_13 : decode cX11_sewing 13 = .ok (.ifCond .eq 12, 3) := dk_153 dg_cX11_sewing_963.2.2.2.2.2.2.2
theorem dg_cX11_sewing_964 : ck1 cX11_sewing 16 29 = true ∧ ck1 cX11_sewing 17 3 = true ∧ ck1 cX11_sewing 18 5 = true ∧ ck3 cX11_sewing 19 184 417 = true ∧ ck3s cX11_sewing 22 154 6 = true ∧ ck2s cX11_sewing 25 16 (-100) = true ∧ ck1 cX11_sewing 27 172 = true ∧ ck2s cX11_sewing 28 16 20 = true := by decide +kernel
theorem dX11_sewing_16 : decode cX11_sewing 16 = .ok (.iload_n 3, 1) := dk_29 dg_cX11_sewing_964.1
theorem dX11_sewing_17 : decode cX11_sewing 17 = .ok (.iconst 0, 1) := dk_3 dg_cX11_sewing_964.2.1
theorem dX11_sewing_18 : decode cX11_sewing 18 = .ok (.iconst 2, 1) := dk_5 dg_cX11_sewing_964.2.2.1
theorem dX11_sewing_19 : decode cX11_sewing 19 = .ok (.invokestatic 417, 3) := dk_184 dg_cX11_sewing_964.2.2.2.1
theorem dX11_sewing_22 : decode cX11_sewing 22 = .ok (.ifCond .ne 6, 3) := dk_154 dg_cX11_sewing_964.2.2.2.2.1
theorem dX11_sewing_25 : decode cX11_sewing 25 = .ok (.bipush (-100), 2) := dk_16 dg_cX11_sewing_964.2.2.2.2.2.1
theorem dX11_sewing_27 : decode cX11_sewing 27 = .ok (.ireturn, 1) := dk_172 dg_cX11_sewing_964.2.2.2.2.2.2.1
theorem dX11_sewing_28 : decode cX11_sewing 28 = .ok (.bipush 20, 2) := dk_16 dg_cX11_sewing_964.2.2.2.2.2.2.2
theorem dg_cX11_sewing_965 : ck1 cX11_sewing 30 42 = true ∧ ck3 cX11_sewing 31 180 93 = true ∧ ck2s cX11_sewing 34 16 12 = true ∧ ck1 cX11_sewing 36 27 = true ∧ ck1 cX11_sewing 37 96 = true ∧ ck1 cX11_sewing 38 46 = true ∧ ck3 cX11_sewing 39 184 431 = true ∧ ck2 cX11_sewing 42 54 4 = true := by decide +kernel
theorem dX11_sewing_30 : decode cX11_sewing 30 = .ok (.aload_n 0, 1) := dk_42 dg_cX11_sewing_965.1
theorem dX11_sewing_31 : decode cX11_sewing 31 = .ok (.getfield 93, 3) := dk_180 dg_cX11_sewing_965.2.1
theorem dX11_sewing_34 : decode cX11_sewing 34 = .ok (.bipush 12, 2) := dk_16 dg_cX11_sewing_965.2.2.1
theorem dX11_sewing_36 : decode cX11_sewing 36 = .ok (.iload_n 1, 1) := dk_27 dg_cX11_sewing_965.2.2.2.1
theorem dX11_sewing_37 : decode cX11_sewing 37 = .ok (.iadd, 1) := dk_96 dg_cX11_sewing_965.2.2.2.2.1
theorem dX11_sewing_38 : decode cX11_sewing 38 = .ok (.iaload, 1) := dk_46 dg_cX11_sewing_965.2.2.2.2.2.1
theorem dX11_sewing_39 : decode cX11_sewing 39 = .ok (.invokestatic 431, 3) := dk_184 dg_cX11_sewing_965.2.2.2.2.2.2.1
theorem dX11_sewing_42 : decode cX11_sewing 42 = .ok (.istore 4, 2) := dk_54 dg_cX11_sewing_965.2.2.2.2.2.2.2
theorem dg_cX11_sewing_966 : ck2s cX11_sewing 44 16 20 = true ∧ ck1 cX11_sewing 46 42 = true ∧ ck3 cX11_sewing 47 180 93 = true ∧ ck2s cX11_sewing 50 16 18 = true ∧ ck1 cX11_sewing 52 27 = true ∧ ck1 cX11_sewing 53 96 = true ∧ ck1 cX11_sewing 54 46 = true ∧ ck3 cX11_sewing 55 184 431 = true := by decide +kernel
theorem dX11_sewing_44 : decode cX11_sewing 44 = .ok (.bipush 20, 2) := dk_16 dg_cX11_sewing_966.1
theorem dX11_sewing_46 : decode cX11_sewing 46 = .ok (.aload_n 0, 1) := dk_42 dg_cX11_sewing_966.2.1
theorem dX11_sewing_47 : decode cX11_sewing 47 = .ok (.getfield 93, 3) := dk_180 dg_cX11_sewing_966.2.2.1
theorem dX11_sewing_50 : decode cX11_sewing 50 = .ok (.bipush 18, 2) := dk_16 dg_cX11_sewing_966.2.2.2.1
theorem dX11_sewing_52 : decode cX11_sewing 52 = .ok (.iload_n 1, 1) := dk_27 dg_cX11_sewing_966.2.2.2.2.1
theorem dX11_sewing_53 : decode cX11_sewing 53 = .ok (.iadd, 1) := dk_96 dg_cX11_sewing_966.2.2.2.2.2.1
theorem dX11_sewing_54 : decode cX11_sewing 54 = .ok (.iaload, 1) := dk_46 dg_cX11_sewing_966.2.2.2.2.2.2.1
theorem dX11_sewing_55 : decode cX11_sewing 55 = .ok (.invokestatic 431, 3) := dk_184 dg_cX11_sewing_966.2.2.2.2.2.2.2
theorem dg_cX11_sewing_967 : ck2 cX11_sewing 58 54 5 = true ∧ ck2s cX11_sewing 60 16 20 = true ∧ ck1 cX11_sewing 62 42 = true ∧ ck3 cX11_sewing 63 180 93 = true := by decide +kernel
theorem dX11_sewing_58 : decode cX11_sewing 58 = .ok (.istore 5, 2) := dk_54 dg_cX11_sewing_967.1
theorem dX11_sewing_60 : decode cX11_sewing 60 = .ok (.bipush 20, 2) := dk_16 dg_cX11_sewing_967.2.1
theorem dX11_sewing_62 : decode cX11_sewing 62 = .ok (.aload_n 0, 1) := dk_42 dg_cX11_sewing_967.2.2.1
theorem dX11_sewing_63 : decode cX11_sewing 63 = .ok (.getfield 93, 3) := dk_180 dg_cX11_sewing_967.2.2.2
def dS_cX11_sewing_3 : List UInt8 := 154 :: 0 :: 8 :: 21 :: 7 :: 167 :: 0 :: 16 :: 29 :: 4 :: 160 :: 0 :: 8 :: 21 :: 8 :: 167 :: 0 :: 6 :: 21 :: 9 :: 116 :: 172 :: 132 :: 8 :: 1 :: 167 :: 255 :: 143 :: 132 :: 7 :: 1 :: 167 :: 255 :: 127 :: 16 :: 156 :: 172 :: []
def dS_cX11_sewing_2 : List UInt8 := 0 :: 38 :: 42 :: 27 :: 28 :: 21 :: 8 :: 21 :: 9 :: 182 :: 1 :: 226 :: 153 :: 0 :: 25 :: 29 :: 154 :: 0 :: 8 :: 21 :: 7 :: 167 :: 0 :: 15 :: 29 :: 4 :: 160 :: 0 :: 8 :: 21 :: 8 :: 167 :: 0 :: 5 :: 21 :: 9 :: 172 :: 21 :: 9 :: 158 :: 0 :: 47 :: 21 :: 9 :: 21 :: 6 :: 163 :: 0 :: 40 :: 42 :: 27 :: 28 :: 21 :: 8 :: 21 :: 9 :: 116 :: 182 :: 1 :: 226 :: 153 :: 0 :: 26 :: 29 :: dS_cX11_sewing_3
def dS_cX11_sewing_1 : List UInt8 := 0 :: 93 :: 16 :: 24 :: 27 :: 96 :: 46 :: 184 :: 1 :: 175 :: 16 :: 99 :: 42 :: 180 :: 0 :: 93 :: 16 :: 18 :: 27 :: 96 :: 46 :: 100 :: 184 :: 1 :: 175 :: 54 :: 6 :: 3 :: 54 :: 7 :: 21 :: 7 :: 16 :: 40 :: 163 :: 0 :: 128 :: 3 :: 54 :: 8 :: 21 :: 8 :: 21 :: 7 :: 21 :: 4 :: 184 :: 1 :: 175 :: 163 :: 0 :: 107 :: 21 :: 7 :: 21 :: 8 :: 100 :: 54 :: 9 :: 21 :: 9 :: 21 :: 5 :: 163 :: dS_cX11_sewing_2
def dS_cX11_sewing_0 : List UInt8 := 42 :: 27 :: 182 :: 1 :: 199 :: 153 :: 0 :: 20 :: 42 :: 28 :: 182 :: 1 :: 190 :: 153 :: 0 :: 12 :: 29 :: 3 :: 5 :: 184 :: 1 :: 161 :: 154 :: 0 :: 6 :: 16 :: 156 :: 172 :: 16 :: 20 :: 42 :: 180 :: 0 :: 93 :: 16 :: 12 :: 27 :: 96 :: 46 :: 184 :: 1 :: 175 :: 54 :: 4 :: 16 :: 20 :: 42 :: 180 :: 0 :: 93 :: 16 :: 18 :: 27 :: 96 :: 46 :: 184 :: 1 :: 175 :: 54 :: 5 :: 16 :: 20 :: 42 :: 180 :: dS_cX11_sewing_1
theorem dT_cX11_sewing_0 : cX11_sewing.data.toList.drop 0 = dS_cX11_sewing_0 := by decide +kernel
theorem dT_cX11_sewing_1 : cX11_sewing.data.toList.drop 64 = dS_cX11_sewing_1 := ck_nx dT_cX11_sewing_0 (by decide +kernel) rfl
theorem dT_cX11_sewing_2 : cX11_sewing.data.toList.drop 128 = dS_cX11_sewing_2 := ck_nx dT_cX11_sewing_1 (by decide +kernel) rfl
theorem dT_cX11_sewing_3 : cX11_sewing.data.toList.drop 192 = dS_cX11_sewing_3 := ck_nx dT_cX11_sewing_2 (by decide +kernel) rfl
theorem dg_cX11_sewing_968 : ck2sL dS_cX11_sewing_1 2 16 24 = true ∧ ck1L dS_cX11_sewing_1 4 27 = true ∧ ck1L dS_cX11_sewing_1 5 96 = true ∧ ck1L dS_cX11_sewing_1 6 46 = true ∧ ck3L dS_cX11_sewing_1 7 184 431 = true ∧ ck2sL dS_cX11_sewing_1 10 16 99 = true ∧ ck1L dS_cX11_sewing_1 12 42 = true ∧ ck3L dS_cX11_sewing_1 13 180 93 = true := by decide +kernel
theorem dX11_sewing_66 : decode cX11_sewing 66 = .ok (.bipush 24, 2) := dk_16 (ck2s_s (r := 2) dT_cX11_sewing_1 rfl dg_cX11_sewing_968.1)
theorem dX11_sewing_68 : decode cX11_sewing 68 = .ok (.iload_n 1, 1) := dk_27 (ck1_s (r := 4) dT_cX11_sewing_1 rfl dg_cX11_sewing_968.2.1)
theorem dX11_sewing_69 : decode cX11_sewing 69 = .ok (.iadd, 1) := dk_96 (ck1_s (r := 5) dT_cX11_sewing_1 rfl dg_cX11_sewing_968.2.2.1)
theorem dX11_sewing_70 : decode cX11_sewing 70 = .ok (.iaload, 1) := dk_46 (ck1_s (r := 6) dT_cX11_sewing_1 rfl dg_cX11_sewing_968.2.2.2.1)
theorem dX11_sewing_71 : decode cX11_sewing 71 = .ok (.invokestatic 431, 3) := dk_184 (ck3_s (r := 7) dT_cX11_sewing_1 rfl dg_cX11_sewing_968.2.2.2.2.1)
theorem dX11_sewing_74 : decode cX11_sewing 74 = .ok (.bipush 99, 2) := dk_16 (ck2s_s (r := 10) dT_cX11_sewing_1 rfl dg_cX11_sewing_968.2.2.2.2.2.1)
theorem dX11_sewing_76 : decode cX11_sewing 76 = .ok (.aload_n 0, 1) := dk_42 (ck1_s (r := 12) dT_cX11_sewing_1 rfl dg_cX11_sewing_968.2.2.2.2.2.2.1)
theorem dX11_sewing_77 : decode cX11_sewing 77 = .ok (.getfield 93, 3) := dk_180 (ck3_s (r := 13) dT_cX11_sewing_1 rfl dg_cX11_sewing_968.2.2.2.2.2.2.2)
theorem dg_cX11_sewing_969 : ck2sL dS_cX11_sewing_1 16 16 18 = true ∧ ck1L dS_cX11_sewing_1 18 27 = true ∧ ck1L dS_cX11_sewing_1 19 96 = true ∧ ck1L dS_cX11_sewing_1 20 46 = true ∧ ck1L dS_cX11_sewing_1 21 100 = true ∧ ck3L dS_cX11_sewing_1 22 184 431 = true ∧ ck2L dS_cX11_sewing_1 25 54 6 = true ∧ ck1L dS_cX11_sewing_1 27 3 = true := by decide +kernel
theorem dX11_sewing_80 : decode cX11_sewing 80 = .ok (.bipush 18, 2) := dk_16 (ck2s_s (r := 16) dT_cX11_sewing_1 rfl dg_cX11_sewing_969.1)
theorem dX11_sewing_82 : decode cX11_sewing 82 = .ok (.iload_n 1, 1) := dk_27 (ck1_s (r := 18) dT_cX11_sewing_1 rfl dg_cX11_sewing_969.2.1)
theorem dX11_sewing_83 : decode cX11_sewing 83 = .ok (.iadd, 1) := dk_96 (ck1_s (r := 19) dT_cX11_sewing_1 rfl dg_cX11_sewing_969.2.2.1)
theorem dX11_sewing_84 : decode cX11_sewing 84 = .ok (.iaload, 1) := dk_46 (ck1_s (r := 20) dT_cX11_sewing_1 rfl dg_cX11_sewing_969.2.2.2.1)
theorem dX11_sewing_85 : decode cX11_sewing 85 = .ok (.isub, 1) := dk_100 (ck1_s (r := 21) dT_cX11_sewing_1 rfl dg_cX11_sewing_969.2.2.2.2.1)
theorem dX11_sewing_86 : decode cX11_sewing 86 = .ok (.invokestatic 431, 3) := dk_184 (ck3_s (r := 22) dT_cX11_sewing_1 rfl dg_cX11_sewing_969.2.2.2.2.2.1)
theorem dX11_sewing_89 : decode cX11_sewing 89 = .ok (.istore 6, 2) := dk_54 (ck2_s (r := 25) dT_cX11_sewing_1 rfl dg_cX11_sewing_969.2.2.2.2.2.2.1)
theorem dX11_sewing_91 : decode cX11_sewing 91 = .ok (.iconst 0, 1) := dk_3 (ck1_s (r := 27) dT_cX11_sewing_1 rfl dg_cX11_sewing_969.2.2.2.2.2.2.2)
theorem dg_cX11_sewing_970 : ck2L dS_cX11_sewing_1 28 54 7 = true ∧ ck2L dS_cX11_sewing_1 30 21 7 = true ∧ ck2sL dS_cX11_sewing_1 32 16 40 = true ∧ ck3sL dS_cX11_sewing_1 34 163 128 = true ∧ ck1L dS_cX11_sewing_1 37 3 = true ∧ ck2L dS_cX11_sewing_1 38 54 8 = true ∧ ck2L dS_cX11_sewing_1 40 21 8 = true ∧ ck2L dS_cX11_sewing_1 42 21 7 = true := by decide +kernel
theorem dX11_sewing_92 : decode cX11_sewing 92 = .ok (.istore 7, 2) := dk_54 (ck2_s (r := 28) dT_cX11_sewing_1 rfl dg_cX11_sewing_970.1)
theorem dX11_sewing_94 : decode cX11_sewing 94 = .ok (.iload 7, 2) := dk_21 (ck2_s (r := 30) dT_cX11_sewing_1 rfl dg_cX11_sewing_970.2.1)
theorem dX11_sewing_96 : decode cX11_sewing 96 = .ok (.bipush 40, 2) := dk_16 (ck2s_s (r := 32) dT_cX11_sewing_1 rfl dg_cX11_sewing_970.2.2.1)
theorem dX11_sewing_98 : decode cX11_sewing 98 = .ok (.if_icmp .gt 128, 3) := dk_163 (ck3s_s (r := 34) dT_cX11_sewing_1 rfl dg_cX11_sewing_970.2.2.2.1)
theorem dX11_sewing_101 : decode cX11_sewing 101 = .ok (.iconst 0, 1) := dk_3 (ck1_s (r := 37) dT_cX11_sewing_1 rfl dg_cX11_sewing_970.2.2.2.2.1)
theorem dX11_sewing_102 : decode cX11_sewing 102 = .ok (.istore 8, 2) := dk_54 (ck2_s (r := 38) dT_cX11_sewing_1 rfl dg_cX11_sewing_970.2.2.2.2.2.1)
theorem dX11_sewing_104 : decode cX11_sewing 104 = .ok (.iload 8, 2) := dk_21 (ck2_s (r := 40) dT_cX11_sewing_1 rfl dg_cX11_sewing_970.2.2.2.2.2.2.1)
theorem dX11_sewing_106 : decode cX11_sewing 106 = .ok (.iload 7, 2) := dk_21 (ck2_s (r := 42) dT_cX11_sewing_1 rfl dg_cX11_sewing_970.2.2.2.2.2.2.2)
theorem dg_cX11_sewing_971 : ck2L dS_cX11_sewing_1 44 21 4 = true ∧ ck3L dS_cX11_sewing_1 46 184 431 = true ∧ ck3sL dS_cX11_sewing_1 49 163 107 = true ∧ ck2L dS_cX11_sewing_1 52 21 7 = true ∧ ck2L dS_cX11_sewing_1 54 21 8 = true ∧ ck1L dS_cX11_sewing_1 56 100 = true ∧ ck2L dS_cX11_sewing_1 57 54 9 = true ∧ ck2L dS_cX11_sewing_1 59 21 9 = true := by decide +kernel
theorem dX11_sewing_108 : decode cX11_sewing 108 = .ok (.iload 4, 2) := dk_21 (ck2_s (r := 44) dT_cX11_sewing_1 rfl dg_cX11_sewing_971.1)
theorem dX11_sewing_110 : decode cX11_sewing 110 = .ok (.invokestatic 431, 3) := dk_184 (ck3_s (r := 46) dT_cX11_sewing_1 rfl dg_cX11_sewing_971.2.1)
theorem dX11_sewing_113 : decode cX11_sewing 113 = .ok (.if_icmp .gt 107, 3) := dk_163 (ck3s_s (r := 49) dT_cX11_sewing_1 rfl dg_cX11_sewing_971.2.2.1)
theorem dX11_sewing_116 : decode cX11_sewing 116 = .ok (.iload 7, 2) := dk_21 (ck2_s (r := 52) dT_cX11_sewing_1 rfl dg_cX11_sewing_971.2.2.2.1)
theorem dX11_sewing_118 : decode cX11_sewing 118 = .ok (.iload 8, 2) := dk_21 (ck2_s (r := 54) dT_cX11_sewing_1 rfl dg_cX11_sewing_971.2.2.2.2.1)
theorem dX11_sewing_120 : decode cX11_sewing 120 = .ok (.isub, 1) := dk_100 (ck1_s (r := 56) dT_cX11_sewing_1 rfl dg_cX11_sewing_971.2.2.2.2.2.1)
theorem dX11_sewing_121 : decode cX11_sewing 121 = .ok (.istore 9, 2) := dk_54 (ck2_s (r := 57) dT_cX11_sewing_1 rfl dg_cX11_sewing_971.2.2.2.2.2.2.1)
theorem dX11_sewing_123 : decode cX11_sewing 123 = .ok (.iload 9, 2) := dk_21 (ck2_s (r := 59) dT_cX11_sewing_1 rfl dg_cX11_sewing_971.2.2.2.2.2.2.2)
theorem dg_cX11_sewing_972 : ck2L dS_cX11_sewing_1 61 21 5 = true ∧ ck3sL dS_cX11_sewing_1 63 163 38 = true ∧ ck1L dS_cX11_sewing_2 2 42 = true ∧ ck1L dS_cX11_sewing_2 3 27 = true ∧ ck1L dS_cX11_sewing_2 4 28 = true ∧ ck2L dS_cX11_sewing_2 5 21 8 = true ∧ ck2L dS_cX11_sewing_2 7 21 9 = true ∧ ck3L dS_cX11_sewing_2 9 182 482 = true := by decide +kernel
theorem dX11_sewing_125 : decode cX11_sewing 125 = .ok (.iload 5, 2) := dk_21 (ck2_s (r := 61) dT_cX11_sewing_1 rfl dg_cX11_sewing_972.1)
theorem dX11_sewing_127 : decode cX11_sewing 127 = .ok (.if_icmp .gt 38, 3) := dk_163 (ck3s_s (r := 63) dT_cX11_sewing_1 rfl dg_cX11_sewing_972.2.1)
theorem dX11_sewing_130 : decode cX11_sewing 130 = .ok (.aload_n 0, 1) := dk_42 (ck1_s (r := 2) dT_cX11_sewing_2 rfl dg_cX11_sewing_972.2.2.1)
theorem dX11_sewing_131 : decode cX11_sewing 131 = .ok (.iload_n 1, 1) := dk_27 (ck1_s (r := 3) dT_cX11_sewing_2 rfl dg_cX11_sewing_972.2.2.2.1)
theorem dX11_sewing_132 : decode cX11_sewing 132 = .ok (.iload_n 2, 1) := dk_28 (ck1_s (r := 4) dT_cX11_sewing_2 rfl dg_cX11_sewing_972.2.2.2.2.1)
theorem dX11_sewing_133 : decode cX11_sewing 133 = .ok (.iload 8, 2) := dk_21 (ck2_s (r := 5) dT_cX11_sewing_2 rfl dg_cX11_sewing_972.2.2.2.2.2.1)
theorem dX11_sewing_135 : decode cX11_sewing 135 = .ok (.iload 9, 2) := dk_21 (ck2_s (r := 7) dT_cX11_sewing_2 rfl dg_cX11_sewing_972.2.2.2.2.2.2.1)
theorem dX11_sewing_137 : decode cX11_sewing 137 = .ok (.invokevirtual 482, 3) := dk_182 (ck3_s (r := 9) dT_cX11_sewing_2 rfl dg_cX11_sewing_972.2.2.2.2.2.2.2)
theorem dg_cX11_sewing_973 : ck3sL dS_cX11_sewing_2 12 153 25 = true ∧ ck1L dS_cX11_sewing_2 15 29 = true ∧ ck3sL dS_cX11_sewing_2 16 154 8 = true ∧ ck2L dS_cX11_sewing_2 19 21 7 = true ∧ ck3sL dS_cX11_sewing_2 21 167 15 = true ∧ ck1L dS_cX11_sewing_2 24 29 = true ∧ ck1L dS_cX11_sewing_2 25 4 = true ∧ ck3sL dS_cX11_sewing_2 26 160 8 = true := by decide +kernel
theorem dX11_sewing_140 : decode cX11_sewing 140 = .ok (.ifCond .eq 25, 3) := dk_153 (ck3s_s (r := 12) dT_cX11_sewing_2 rfl dg_cX11_sewing_973.1)
theorem dX11_sewing_143 : decode cX11_sewing 143 = .ok (.iload_n 3, 1) := dk_29 (ck1_s (r := 15) dT_cX11_sewing_2 rfl dg_cX11_sewing_973.2.1)
theorem dX11_sewing_144 : decode cX11_sewing 144 = .ok (.ifCond .ne 8, 3) := dk_154 (ck3s_s (r := 16) dT_cX11_sewing_2 rfl dg_cX11_sewing_973.2.2.1)
theorem dX11_sewing_147 : decode cX11_sewing 147 = .ok (.iload 7, 2) := dk_21 (ck2_s (r := 19) dT_cX11_sewing_2 rfl dg_cX11_sewing_973.2.2.2.1)
theorem dX11_sewing_149 : decode cX11_sewing 149 = .ok (.goto 15, 3) := dk_167 (ck3s_s (r := 21) dT_cX11_sewing_2 rfl dg_cX11_sewing_973.2.2.2.2.1)
theorem dX11_sewing_152 : decode cX11_sewing 152 = .ok (.iload_n 3, 1) := dk_29 (ck1_s (r := 24) dT_cX11_sewing_2 rfl dg_cX11_sewing_973.2.2.2.2.2.1)
theorem dX11_sewing_153 : decode cX11_sewing 153 = .ok (.iconst 1, 1) := dk_4 (ck1_s (r := 25) dT_cX11_sewing_2 rfl dg_cX11_sewing_973.2.2.2.2.2.2.1)
theorem dX11_sewing_154 : decode cX11_sewing 154 = .ok (.if_icmp .ne 8, 3) := dk_160 (ck3s_s (r := 26) dT_cX11_sewing_2 rfl dg_cX11_sewing_973.2.2.2.2.2.2.2)
theorem dg_cX11_sewing_974 : ck2L dS_cX11_sewing_2 29 21 8 = true ∧ ck3sL dS_cX11_sewing_2 31 167 5 = true ∧ ck2L dS_cX11_sewing_2 34 21 9 = true ∧ ck1L dS_cX11_sewing_2 36 172 = true ∧ ck2L dS_cX11_sewing_2 37 21 9 = true ∧ ck3sL dS_cX11_sewing_2 39 158 47 = true ∧ ck2L dS_cX11_sewing_2 42 21 9 = true ∧ ck2L dS_cX11_sewing_2 44 21 6 = true := by decide +kernel
theorem dX11_sewing_157 : decode cX11_sewing 157 = .ok (.iload 8, 2) := dk_21 (ck2_s (r := 29) dT_cX11_sewing_2 rfl dg_cX11_sewing_974.1)
theorem dX11_sewing_159 : decode cX11_sewing 159 = .ok (.goto 5, 3) := dk_167 (ck3s_s (r := 31) dT_cX11_sewing_2 rfl dg_cX11_sewing_974.2.1)
theorem dX11_sewing_162 : decode cX11_sewing 162 = .ok (.iload 9, 2) := dk_21 (ck2_s (r := 34) dT_cX11_sewing_2 rfl dg_cX11_sewing_974.2.2.1)
theorem dX11_sewing_164 : decode cX11_sewing 164 = .ok (.ireturn, 1) := dk_172 (ck1_s (r := 36) dT_cX11_sewing_2 rfl dg_cX11_sewing_974.2.2.2.1)
theorem dX11_sewing_165 : decode cX11_sewing 165 = .ok (.iload 9, 2) := dk_21 (ck2_s (r := 37) dT_cX11_sewing_2 rfl dg_cX11_sewing_974.2.2.2.2.1)
theorem dX11_sewing_167 : decode cX11_sewing 167 = .ok (.ifCond .le 47, 3) := dk_158 (ck3s_s (r := 39) dT_cX11_sewing_2 rfl dg_cX11_sewing_974.2.2.2.2.2.1)
theorem dX11_sewing_170 : decode cX11_sewing 170 = .ok (.iload 9, 2) := dk_21 (ck2_s (r := 42) dT_cX11_sewing_2 rfl dg_cX11_sewing_974.2.2.2.2.2.2.1)
theorem dX11_sewing_172 : decode cX11_sewing 172 = .ok (.iload 6, 2) := dk_21 (ck2_s (r := 44) dT_cX11_sewing_2 rfl dg_cX11_sewing_974.2.2.2.2.2.2.2)
theorem dg_cX11_sewing_975 : ck3sL dS_cX11_sewing_2 46 163 40 = true ∧ ck1L dS_cX11_sewing_2 49 42 = true ∧ ck1L dS_cX11_sewing_2 50 27 = true ∧ ck1L dS_cX11_sewing_2 51 28 = true ∧ ck2L dS_cX11_sewing_2 52 21 8 = true ∧ ck2L dS_cX11_sewing_2 54 21 9 = true ∧ ck1L dS_cX11_sewing_2 56 116 = true ∧ ck3L dS_cX11_sewing_2 57 182 482 = true := by decide +kernel
theorem dX11_sewing_174 : decode cX11_sewing 174 = .ok (.if_icmp .gt 40, 3) := dk_163 (ck3s_s (r := 46) dT_cX11_sewing_2 rfl dg_cX11_sewing_975.1)
theorem dX11_sewing_177 : decode cX11_sewing 177 = .ok (.aload_n 0, 1) := dk_42 (ck1_s (r := 49) dT_cX11_sewing_2 rfl dg_cX11_sewing_975.2.1)
theorem dX11_sewing_178 : decode cX11_sewing 178 = .ok (.iload_n 1, 1) := dk_27 (ck1_s (r := 50) dT_cX11_sewing_2 rfl dg_cX11_sewing_975.2.2.1)
theorem dX11_sewing_179 : decode cX11_sewing 179 = .ok (.iload_n 2, 1) := dk_28 (ck1_s (r := 51) dT_cX11_sewing_2 rfl dg_cX11_sewing_975.2.2.2.1)
theorem dX11_sewing_180 : decode cX11_sewing 180 = .ok (.iload 8, 2) := dk_21 (ck2_s (r := 52) dT_cX11_sewing_2 rfl dg_cX11_sewing_975.2.2.2.2.1)
theorem dX11_sewing_182 : decode cX11_sewing 182 = .ok (.iload 9, 2) := dk_21 (ck2_s (r := 54) dT_cX11_sewing_2 rfl dg_cX11_sewing_975.2.2.2.2.2.1)
theorem dX11_sewing_184 : decode cX11_sewing 184 = .ok (.ineg, 1) := dk_116 (ck1_s (r := 56) dT_cX11_sewing_2 rfl dg_cX11_sewing_975.2.2.2.2.2.2.1)
theorem dX11_sewing_185 : decode cX11_sewing 185 = .ok (.invokevirtual 482, 3) := dk_182 (ck3_s (r := 57) dT_cX11_sewing_2 rfl dg_cX11_sewing_975.2.2.2.2.2.2.2)
theorem dg_cX11_sewing_976 : ck3sL dS_cX11_sewing_2 60 153 26 = true ∧ ck1L dS_cX11_sewing_2 63 29 = true ∧ ck3sL dS_cX11_sewing_3 0 154 8 = true ∧ ck2L dS_cX11_sewing_3 3 21 7 = true ∧ ck3sL dS_cX11_sewing_3 5 167 16 = true ∧ ck1L dS_cX11_sewing_3 8 29 = true ∧ ck1L dS_cX11_sewing_3 9 4 = true ∧ ck3sL dS_cX11_sewing_3 10 160 8 = true := by decide +kernel
theorem dX11_sewing_188 : decode cX11_sewing 188 = .ok (.ifCond .eq 26, 3) := dk_153 (ck3s_s (r := 60) dT_cX11_sewing_2 rfl dg_cX11_sewing_976.1)
theorem dX11_sewing_191 : decode cX11_sewing 191 = .ok (.iload_n 3, 1) := dk_29 (ck1_s (r := 63) dT_cX11_sewing_2 rfl dg_cX11_sewing_976.2.1)
theorem dX11_sewing_192 : decode cX11_sewing 192 = .ok (.ifCond .ne 8, 3) := dk_154 (ck3s_s (r := 0) dT_cX11_sewing_3 rfl dg_cX11_sewing_976.2.2.1)
theorem dX11_sewing_195 : decode cX11_sewing 195 = .ok (.iload 7, 2) := dk_21 (ck2_s (r := 3) dT_cX11_sewing_3 rfl dg_cX11_sewing_976.2.2.2.1)
theorem dX11_sewing_197 : decode cX11_sewing 197 = .ok (.goto 16, 3) := dk_167 (ck3s_s (r := 5) dT_cX11_sewing_3 rfl dg_cX11_sewing_976.2.2.2.2.1)
theorem dX11_sewing_200 : decode cX11_sewing 200 = .ok (.iload_n 3, 1) := dk_29 (ck1_s (r := 8) dT_cX11_sewing_3 rfl dg_cX11_sewing_976.2.2.2.2.2.1)
theorem dX11_sewing_201 : decode cX11_sewing 201 = .ok (.iconst 1, 1) := dk_4 (ck1_s (r := 9) dT_cX11_sewing_3 rfl dg_cX11_sewing_976.2.2.2.2.2.2.1)
theorem dX11_sewing_202 : decode cX11_sewing 202 = .ok (.if_icmp .ne 8, 3) := dk_160 (ck3s_s (r := 10) dT_cX11_sewing_3 rfl dg_cX11_sewing_976.2.2.2.2.2.2.2)
theorem dg_cX11_sewing_977 : ck2L dS_cX11_sewing_3 13 21 8 = true ∧ ck3sL dS_cX11_sewing_3 15 167 6 = true ∧ ck2L dS_cX11_sewing_3 18 21 9 = true ∧ ck1L dS_cX11_sewing_3 20 116 = true ∧ ck1L dS_cX11_sewing_3 21 172 = true ∧ ck3iL dS_cX11_sewing_3 22 132 8 1 = true ∧ ck3sL dS_cX11_sewing_3 25 167 (-113) = true ∧ ck3iL dS_cX11_sewing_3 28 132 7 1 = true := by decide +kernel
theorem dX11_sewing_205 : decode cX11_sewing 205 = .ok (.iload 8, 2) := dk_21 (ck2_s (r := 13) dT_cX11_sewing_3 rfl dg_cX11_sewing_977.1)
theorem dX11_sewing_207 : decode cX11_sewing 207 = .ok (.goto 6, 3) := dk_167 (ck3s_s (r := 15) dT_cX11_sewing_3 rfl dg_cX11_sewing_977.2.1)
theorem dX11_sewing_210 : decode cX11_sewing 210 = .ok (.iload 9, 2) := dk_21 (ck2_s (r := 18) dT_cX11_sewing_3 rfl dg_cX11_sewing_977.2.2.1)
theorem dX11_sewing_212 : decode cX11_sewing 212 = .ok (.ineg, 1) := dk_116 (ck1_s (r := 20) dT_cX11_sewing_3 rfl dg_cX11_sewing_977.2.2.2.1)
theorem dX11_sewing_213 : decode cX11_sewing 213 = .ok (.ireturn, 1) := dk_172 (ck1_s (r := 21) dT_cX11_sewing_3 rfl dg_cX11_sewing_977.2.2.2.2.1)
theorem dX11_sewing_214 : decode cX11_sewing 214 = .ok (.iinc 8 1, 3) := dk_132 (ck3i_s (r := 22) dT_cX11_sewing_3 rfl dg_cX11_sewing_977.2.2.2.2.2.1)
theorem dX11_sewing_217 : decode cX11_sewing 217 = .ok (.goto (-113), 3) := dk_167 (ck3s_s (r := 25) dT_cX11_sewing_3 rfl dg_cX11_sewing_977.2.2.2.2.2.2.1)
theorem dX11_sewing_220 : decode cX11_sewing 220 = .ok (.iinc 7 1, 3) := dk_132 (ck3i_s (r := 28) dT_cX11_sewing_3 rfl dg_cX11_sewing_977.2.2.2.2.2.2.2)
theorem dg_cX11_sewing_978 : ck3sL dS_cX11_sewing_3 31 167 (-129) = true ∧ ck2sL dS_cX11_sewing_3 34 16 (-100) = true ∧ ck1L dS_cX11_sewing_3 36 172 = true := by decide +kernel
theorem dX11_sewing_223 : decode cX11_sewing 223 = .ok (.goto (-129), 3) := dk_167 (ck3s_s (r := 31) dT_cX11_sewing_3 rfl dg_cX11_sewing_978.1)
theorem dX11_sewing_226 : decode cX11_sewing 226 = .ok (.bipush (-100), 2) := dk_16 (ck2s_s (r := 34) dT_cX11_sewing_3 rfl dg_cX11_sewing_978.2.1)
theorem dX11_sewing_228 : decode cX11_sewing 228 = .ok (.ireturn, 1) := dk_172 (ck1_s (r := 36) dT_cX11_sewing_3 rfl dg_cX11_sewing_978.2.2)
theorem dg_cX11_sign_979 : ck1 cX11_sign 0 42 = true ∧ ck3 cX11_sign 1 20 218 = true ∧ ck3 cX11_sign 4 182 228 = true ∧ ck3s cX11_sign 7 153 6 = true ∧ ck2s cX11_sign 10 16 38 = true ∧ ck1 cX11_sign 12 172 = true ∧ ck1 cX11_sign 13 42 = true ∧ ck3 cX11_sign 14 20 220 = true := by decide +kernel
theorem dX11_sign_0 : decode cX11_sign 0 = .ok (.aload_n 0, 1) := dk_42 dg_cX11_sign_979.1
theorem dX11_sign_1 : decode cX11_sign 1 = .ok (.ldc2_w 218, 3) := dk_20 dg_cX11_sign_979.2.1
theorem dX11_sign_4 : decode cX11_sign 4 = .ok (.invokevirtual 228, 3) := dk_182 dg_cX11_sign_979.2.2.1
theorem dX11_sign_7 : decode cX11_sign 7 = .ok (.ifCond .eq 6, 3) := dk_153 dg_cX11_sign_979.2.2.2.1
theorem dX11_sign_10 : decode cX11_sign 10 = .ok (.bipush 38, 2) := dk_16 dg_cX11_sign_979.2.2.2.2.1
theorem dX11_sign_12 : decode cX11_sign 12 = .ok (.ireturn, 1) := dk_172 dg_cX11_sign_979.2.2.2.2.2.1
theorem dX11_sign_13 : decode cX11_sign 13 = .ok (.aload_n 0, 1) := dk_42 dg_cX11_sign_979.2.2.2.2.2.2.1
theorem dX11_sign_14 : decode cX11_sign 14 = .ok (.ldc2_w 220, 3) := dk_20 dg_cX11_sign_979.2.2.2.2.2.2.2
theorem dg_cX11_sign_980 : ck3 cX11_sign 17 182 228 = true ∧ ck3s cX11_sign 20 153 6 = true ∧ ck2s cX11_sign 23 16 124 = true ∧ ck1 cX11_sign 25 172 = true ∧ ck1 cX11_sign 26 42 = true ∧ ck3 cX11_sign 27 180 166 = true ∧ ck2s cX11_sign 30 16 60 = true ∧ ck3s cX11_sign 32 159 66 = true := by decide +kernel
theorem dX11_sign_17 : decode cX11_sign 17 = .ok (.invokevirtual 228, 3) := dk_182 dg_cX11_sign_980.1
theorem dX11_sign_20 : decode cX11_sign 20 = .ok (.ifCond .eq 6, 3) := dk_153 dg_cX11_sign_980.2.1
theorem dX11_sign_23 : decode cX11_sign 23 = .ok (.bipush 124, 2) := dk_16 dg_cX11_sign_980.2.2.1
theorem dX11_sign_25 : decode cX11_sign 25 = .ok (.ireturn, 1) := dk_172 dg_cX11_sign_980.2.2.2.1
theorem dX11_sign_26 : decode cX11_sign 26 = .ok (.aload_n 0, 1) := dk_42 dg_cX11_sign_980.2.2.2.2.1
theorem dX11_sign_27 : decode cX11_sign 27 = .ok (.getfield 166, 3) := dk_180 dg_cX11_sign_980.2.2.2.2.2.1
theorem dX11_sign_30 : decode cX11_sign 30 = .ok (.bipush 60, 2) := dk_16 dg_cX11_sign_980.2.2.2.2.2.2.1
theorem dX11_sign_32 : decode cX11_sign 32 = .ok (.if_icmp .eq 66, 3) := dk_159 dg_cX11_sign_980.2.2.2.2.2.2.2
theorem dg_cX11_sign_981 : ck1 cX11_sign 35 42 = true ∧ ck3 cX11_sign 36 180 166 = true ∧ ck2s cX11_sign 39 16 62 = true ∧ ck3s cX11_sign 41 159 57 = true ∧ ck1 cX11_sign 44 42 = true ∧ ck3 cX11_sign 45 180 166 = true ∧ ck2s cX11_sign 48 16 61 = true ∧ ck3s cX11_sign 50 159 48 = true := by decide +kernel
theorem dX11_sign_35 : decode cX11_sign 35 = .ok (.aload_n 0, 1) := dk_42 dg_cX11_sign_981.1
theorem dX11_sign_36 : decode cX11_sign 36 = .ok (.getfield 166, 3) := dk_180 dg_cX11_sign_981.2.1
theorem dX11_sign_39 : decode cX11_sign 39 = .ok (.bipush 62, 2) := dk_16 dg_cX11_sign_981.2.2.1
theorem dX11_sign_41 : decode cX11_sign 41 = .ok (.if_icmp .eq 57, 3) := dk_159 dg_cX11_sign_981.2.2.2.1
theorem dX11_sign_44 : decode cX11_sign 44 = .ok (.aload_n 0, 1) := dk_42 dg_cX11_sign_981.2.2.2.2.1
theorem dX11_sign_45 : decode cX11_sign 45 = .ok (.getfield 166, 3) := dk_180 dg_cX11_sign_981.2.2.2.2.2.1
theorem dX11_sign_48 : decode cX11_sign 48 = .ok (.bipush 61, 2) := dk_16 dg_cX11_sign_981.2.2.2.2.2.2.1
theorem dX11_sign_50 : decode cX11_sign 50 = .ok (.if_icmp .eq 48, 3) := dk_159 dg_cX11_sign_981.2.2.2.2.2.2.2
theorem dg_cX11_sign_982 : ck1 cX11_sign 53 42 = true ∧ ck3 cX11_sign 54 180 166 = true ∧ ck2s cX11_sign 57 16 43 = true ∧ ck3s cX11_sign 59 159 39 = true ∧ ck1 cX11_sign 62 42 = true ∧ ck3 cX11_sign 63 180 166 = true := by decide +kernel
theorem dX11_sign_53 : decode cX11_sign 53 = .ok (.aload_n 0, 1) := dk_42 dg_cX11_sign_982.1
theorem dX11_sign_54 : decode cX11_sign 54 = .ok (.getfield 166, 3) := dk_180 dg_cX11_sign_982.2.1
theorem dX11_sign_57 : decode cX11_sign 57 = .ok (.bipush 43, 2) := dk_16 dg_cX11_sign_982.2.2.1
theorem dX11_sign_59 : decode cX11_sign 59 = .ok (.if_icmp .eq 39, 3) := dk_159 dg_cX11_sign_982.2.2.2.1
theorem dX11_sign_62 : decode cX11_sign 62 = .ok (.aload_n 0, 1) := dk_42 dg_cX11_sign_982.2.2.2.2.1
theorem dX11_sign_63 : decode cX11_sign 63 = .ok (.getfield 166, 3) := dk_180 dg_cX11_sign_982.2.2.2.2.2
def dS_cX11_sign_1 : List UInt8 := 0 :: 166 :: 16 :: 45 :: 159 :: 0 :: 30 :: 42 :: 180 :: 0 :: 166 :: 16 :: 42 :: 159 :: 0 :: 21 :: 42 :: 180 :: 0 :: 166 :: 16 :: 47 :: 159 :: 0 :: 12 :: 42 :: 180 :: 0 :: 166 :: 16 :: 37 :: 160 :: 0 :: 10 :: 42 :: 180 :: 0 :: 166 :: 167 :: 0 :: 4 :: 3 :: 172 :: []
def dS_cX11_sign_0 : List UInt8 := 42 :: 20 :: 0 :: 218 :: 182 :: 0 :: 228 :: 153 :: 0 :: 6 :: 16 :: 38 :: 172 :: 42 :: 20 :: 0 :: 220 :: 182 :: 0 :: 228 :: 153 :: 0 :: 6 :: 16 :: 124 :: 172 :: 42 :: 180 :: 0 :: 166 :: 16 :: 60 :: 159 :: 0 :: 66 :: 42 :: 180 :: 0 :: 166 :: 16 :: 62 :: 159 :: 0 :: 57 :: 42 :: 180 :: 0 :: 166 :: 16 :: 61 :: 159 :: 0 :: 48 :: 42 :: 180 :: 0 :: 166 :: 16 :: 43 :: 159 :: 0 :: 39 :: 42 :: 180 :: dS_cX11_sign_1
theorem dT_cX11_sign_0 : cX11_sign.data.toList.drop 0 = dS_cX11_sign_0 := by decide +kernel
theorem dT_cX11_sign_1 : cX11_sign.data.toList.drop 64 = dS_cX11_sign_1 := ck_nx dT_cX11_sign_0 (by decide +kernel) rfl
theorem dg_cX11_sign_983 : ck2sL dS_cX11_sign_1 2 16 45 = true ∧ ck3sL dS_cX11_sign_1 4 159 30 = true ∧ ck1L dS_cX11_sign_1 7 42 = true ∧ ck3L dS_cX11_sign_1 8 180 166 = true ∧ ck2sL dS_cX11_sign_1 11 16 42 = true ∧ ck3sL dS_cX11_sign_1 13 159 21 = true ∧ ck1L dS_cX11_sign_1 16 42 = true ∧ ck3L dS_cX11_sign_1 17 180 166 = true := by decide +kernel
theorem dX11_sign_66 : decode cX11_sign 66 = .ok (.bipush 45, 2) := dk_16 (ck2s_s (r := 2) dT_cX11_sign_1 rfl dg_cX11_sign_983.1)
theorem dX11_sign_68 : decode cX11_sign 68 = .ok (.if_icmp .eq 30, 3) := dk_159 (ck3s_s (r := 4) dT_cX11_sign_1 rfl dg_cX11_sign_983.2.1)
theorem dX11_sign_71 : decode cX11_sign 71 = .ok (.aload_n 0, 1) := dk_42 (ck1_s (r := 7) dT_cX11_sign_1 rfl dg_cX11_sign_983.2.2.1)
theorem dX11_sign_72 : decode cX11_sign 72 = .ok (.getfield 166, 3) := dk_180 (ck3_s (r := 8) dT_cX11_sign_1 rfl dg_cX11_sign_983.2.2.2.1)
theorem dX11_sign_75 : decode cX11_sign 75 = .ok (.bipush 42, 2) := dk_16 (ck2s_s (r := 11) dT_cX11_sign_1 rfl dg_cX11_sign_983.2.2.2.2.1)
theorem dX11_sign_77 : decode cX11_sign 77 = .ok (.if_icmp .eq 21, 3) := dk_159 (ck3s_s (r := 13) dT_cX11_sign_1 rfl dg_cX11_sign_983.2.2.2.2.2.1)
theorem dX11_sign_80 : decode cX11_sign 80 = .ok (.aload_n 0, 1) := dk_42 (ck1_s (r := 16) dT_cX11_sign_1 rfl dg_cX11_sign_983.2.2.2.2.2.2.1)
theorem dX11_sign_81 : decode cX11_sign 81 = .ok (.getfield 166, 3) := dk_180 (ck3_s (r := 17) dT_cX11_sign_1 rfl dg_cX11_sign_983.2.2.2.2.2.2.2)
theorem dg_cX11_sign_984 : ck2sL dS_cX11_sign_1 20 16 47 = true ∧ ck3sL dS_cX11_sign_1 22 159 12 = true ∧ ck1L dS_cX11_sign_1 25 42 = true ∧ ck3L dS_cX11_sign_1 26 180 166 = true ∧ ck2sL dS_cX11_sign_1 29 16 37 = true ∧ ck3sL dS_cX11_sign_1 31 160 10 = true ∧ ck1L dS_cX11_sign_1 34 42 = true ∧ ck3L dS_cX11_sign_1 35 180 166 = true := by decide +kernel
theorem dX11_sign_84 : decode cX11_sign 84 = .ok (.bipush 47, 2) := dk_16 (ck2s_s (r := 20) dT_cX11_sign_1 rfl dg_cX11_sign_984.1)
theorem dX11_sign_86 : decode cX11_sign 86 = .ok (.if_icmp .eq 12, 3) := dk_159 (ck3s_s (r := 22) dT_cX11_sign_1 rfl dg_cX11_sign_984.2.1)
theorem dX11_sign_89 : decode cX11_sign 89 = .ok (.aload_n 0, 1) := dk_42 (ck1_s (r := 25) dT_cX11_sign_1 rfl dg_cX11_sign_984.2.2.1)
theorem dX11_sign_90 : decode cX11_sign 90 = .ok (.getfield 166, 3) := dk_180 (ck3_s (r := 26) dT_cX11_sign_1 rfl dg_cX11_sign_984.2.2.2.1)
theorem dX11_sign_93 : decode cX11_sign 93 = .ok (.bipush 37, 2) := dk_16 (ck2s_s (r := 29) dT_cX11_sign_1 rfl dg_cX11_sign_984.2.2.2.2.1)
theorem dX11_sign_95 : decode cX11_sign 95 = .ok (.if_icmp .ne 10, 3) := dk_160 (ck3s_s (r := 31) dT_cX11_sign_1 rfl dg_cX11_sign_984.2.2.2.2.2.1)
theorem dX11_sign_98 : decode cX11_sign 98 = .ok (.aload_n 0, 1) := dk_42 (ck1_s (r := 34) dT_cX11_sign_1 rfl dg_cX11_sign_984.2.2.2.2.2.2.1)
theorem dX11_sign_99 : decode cX11_sign 99 = .ok (.getfield 166, 3) := dk_180 (ck3_s (r := 35) dT_cX11_sign_1 rfl dg_cX11_sign_984.2.2.2.2.2.2.2)
theorem dg_cX11_sign_985 : ck3sL dS_cX11_sign_1 38 167 4 = true ∧ ck1L dS_cX11_sign_1 41 3 = true ∧ ck1L dS_cX11_sign_1 42 172 = true := by decide +kernel
theorem dX11_sign_102 : decode cX11_sign 102 = .ok (.goto 4, 3) := dk_167 (ck3s_s (r := 38) dT_cX11_sign_1 rfl dg_cX11_sign_985.1)
theorem dX11_sign_105 : decode cX11_sign 105 = .ok (.iconst 0, 1) := dk_3 (ck1_s (r := 41) dT_cX11_sign_1 rfl dg_cX11_sign_985.2.1)
theorem dX11_sign_106 : decode cX11_sign 106 = .ok (.ireturn, 1) := dk_172 (ck1_s (r := 42) dT_cX11_sign_1 rfl dg_cX11_sign_985.2.2)
theorem dg_cX11_sure_986 : ck1 cX11_sure 0 27 = true ∧ ck1 cX11_sure 1 3 = true ∧ ck1 cX11_sure 2 4 = true ∧ ck3 cX11_sure 3 184 417 = true ∧ ck3s cX11_sure 6 153 11 = true ∧ ck1 cX11_sure 9 42 = true ∧ ck1 cX11_sure 10 28 = true ∧ ck3 cX11_sure 11 182 534 = true := by decide +kernel
theorem dX11_sure_0 : decode cX11_sure 0 = .ok (.iload_n 1, 1) := dk_27 dg_cX11_sure_986.1
theorem dX11_sure_1 : decode cX11_sure 1 = .ok (.iconst 0, 1) := dk_3 dg_cX11_sure_986.2.1
theorem dX11_sure_2 : decode cX11_sure 2 = .ok (.iconst 1, 1) := dk_4 dg_cX11_sure_986.2.2.1
theorem dX11_sure_3 : decode cX11_sure 3 = .ok (.invokestatic 417, 3) := dk_184 dg_cX11_sure_986.2.2.2.1
theorem dX11_sure_6 : decode cX11_sure 6 = .ok (.ifCond .eq 11, 3) := dk_153 dg_cX11_sure_986.2.2.2.2.1
theorem dX11_sure_9 : decode cX11_sure 9 = .ok (.aload_n 0, 1) := dk_42 dg_cX11_sure_986.2.2.2.2.2.1
theorem dX11_sure_10 : decode cX11_sure 10 = .ok (.iload_n 2, 1) := dk_28 dg_cX11_sure_986.2.2.2.2.2.2.1
theorem dX11_sure_11 : decode cX11_sure 11 = .ok (.invokevirtual 534, 3) := dk_182 dg_cX11_sure_986.2.2.2.2.2.2.2
theorem dg_cX11_sure_987 : ck3s cX11_sure 14 154 5 = true ∧ ck1 cX11_sure 17 2 = true ∧ ck1 cX11_sure 18 172 = true ∧ ck1 cX11_sure 19 2 = true ∧ ck1 cX11_sure 20 62 = true ∧ ck1 cX11_sure 21 3 = true ∧ ck2 cX11_sure 22 54 4 = true ∧ ck2 cX11_sure 24 21 4 = true := by decide +kernel
theorem dX11_sure_14 : decode cX11_sure 14 = .ok (.ifCond .ne 5, 3) := dk_154 dg_cX11_sure_987.1
theorem dX11_sure_17 : decode cX11_sure 17 = .ok (.iconst (-1), 1) := dk_2 dg_cX11_sure_987.2.1
theorem dX11_sure_18 : decode cX11_sure 18 = .ok (.ireturn, 1) := dk_172 dg_cX11_sure_987.2.2.1
theorem dX11_sure_19 : decode cX11_sure 19 = .ok (.iconst (-1), 1) := dk_2 dg_cX11_sure_987.2.2.2.1
theorem dX11_sure_20 : decode cX11_sure 20 = .ok (.istore_n 3, 1) := dk_62 dg_cX11_sure_987.2.2.2.2.1
theorem dX11_sure_21 : decode cX11_sure 21 = .ok (.iconst 0, 1) := dk_3 dg_cX11_sure_987.2.2.2.2.2.1
theorem dX11_sure_22 : decode cX11_sure 22 = .ok (.istore 4, 2) := dk_54 dg_cX11_sure_987.2.2.2.2.2.2.1
theorem dX11_sure_24 : decode cX11_sure 24 = .ok (.iload 4, 2) := dk_21 dg_cX11_sure_987.2.2.2.2.2.2.2
theorem dg_cX11_sure_988 : ck2s cX11_sure 26 16 30 = true ∧ ck3s cX11_sure 28 163 31 = true ∧ ck1 cX11_sure 31 42 = true ∧ ck3 cX11_sure 32 180 130 = true ∧ ck2 cX11_sure 35 21 4 = true ∧ ck1 cX11_sure 37 51 = true ∧ ck3s cX11_sure 38 153 15 = true ∧ ck1 cX11_sure 41 29 = true := by decide +kernel
theorem dX11_sure_26 : decode cX11_sure 26 = .ok (.bipush 30, 2) := dk_16 dg_cX11_sure_988.1
theorem dX11_sure_28 : decode cX11_sure 28 = .ok (.if_icmp .gt 31, 3) := dk_163 dg_cX11_sure_988.2.1
theorem dX11_sure_31 : decode cX11_sure 31 = .ok (.aload_n 0, 1) := dk_42 dg_cX11_sure_988.2.2.1
theorem dX11_sure_32 : decode cX11_sure 32 = .ok (.getfield 130, 3) := dk_180 dg_cX11_sure_988.2.2.2.1
theorem dX11_sure_35 : decode cX11_sure 35 = .ok (.iload 4, 2) := dk_21 dg_cX11_sure_988.2.2.2.2.1
theorem dX11_sure_37 : decode cX11_sure 37 = .ok (.baload, 1) := dk_51 dg_cX11_sure_988.2.2.2.2.2.1
theorem dX11_sure_38 : decode cX11_sure 38 = .ok (.ifCond .eq 15, 3) := dk_153 dg_cX11_sure_988.2.2.2.2.2.2.1
theorem dX11_sure_41 : decode cX11_sure 41 = .ok (.iload_n 3, 1) := dk_29 dg_cX11_sure_988.2.2.2.2.2.2.2
theorem dg_cX11_sure_989 : ck3s cX11_sure 42 155 8 = true ∧ ck1 cX11_sure 45 27 = true ∧ ck1 cX11_sure 46 4 = true ∧ ck3s cX11_sure 47 160 6 = true ∧ ck2 cX11_sure 50 21 4 = true ∧ ck1 cX11_sure 52 62 = true ∧ ck3i cX11_sure 53 132 4 1 = true ∧ ck3s cX11_sure 56 167 (-32) = true := by decide +kernel
theorem dX11_sure_42 : decode cX11_sure 42 = .ok (.ifCond .lt 8, 3) := dk_155 dg_cX11_sure_989.1
theorem dX11_sure_45 : decode cX11_sure 45 = .ok (.iload_n 1, 1) := dk_27 dg_cX11_sure_989.2.1
theorem dX11_sure_46 : decode cX11_sure 46 = .ok (.iconst 1, 1) := dk_4 dg_cX11_sure_989.2.2.1
theorem dX11_sure_47 : decode cX11_sure 47 = .ok (.if_icmp .ne 6, 3) := dk_160 dg_cX11_sure_989.2.2.2.1
theorem dX11_sure_50 : decode cX11_sure 50 = .ok (.iload 4, 2) := dk_21 dg_cX11_sure_989.2.2.2.2.1
theorem dX11_sure_52 : decode cX11_sure 52 = .ok (.istore_n 3, 1) := dk_62 dg_cX11_sure_989.2.2.2.2.2.1
theorem dX11_sure_53 : decode cX11_sure 53 = .ok (.iinc 4 1, 3) := dk_132 dg_cX11_sure_989.2.2.2.2.2.2.1
theorem dX11_sure_56 : decode cX11_sure 56 = .ok (.goto (-32), 3) := dk_167 dg_cX11_sure_989.2.2.2.2.2.2.2
theorem dg_cX11_sure_990 : ck1 cX11_sure 59 29 = true ∧ ck1 cX11_sure 60 172 = true := by decide +kernel
theorem dX11_sure_59 : decode cX11_sure 59 = .ok (.iload_n 3, 1) := dk_29 dg_cX11_sure_990.1
theorem dX11_sure_60 : decode cX11_sure 60 = .ok (.ireturn, 1) := dk_172 dg_cX11_sure_990.2
theorem dg_cX11_takein_991 : ck1 cX11_takein 0 42 = true ∧ ck1 cX11_takein 1 27 = true ∧ ck3 cX11_takein 2 182 455 = true ∧ ck3s cX11_takein 5 153 36 = true ∧ ck1 cX11_takein 8 28 = true ∧ ck1 cX11_takein 9 4 = true ∧ ck1 cX11_takein 10 42 = true ∧ ck3 cX11_takein 11 180 93 = true := by decide +kernel
theorem dX11_takein_0 : decode cX11_takein 0 = .ok (.aload_n 0, 1) := dk_42 dg_cX11_takein_991.1
theorem dX11_takein_1 : decode cX11_takein 1 = .ok (.iload_n 1, 1) := dk_27 dg_cX11_takein_991.2.1
theorem dX11_takein_2 : decode cX11_takein 2 = .ok (.invokevirtual 455, 3) := dk_182 dg_cX11_takein_991.2.2.1
theorem dX11_takein_5 : decode cX11_takein 5 = .ok (.ifCond .eq 36, 3) := dk_153 dg_cX11_takein_991.2.2.2.1
theorem dX11_takein_8 : decode cX11_takein 8 = .ok (.iload_n 2, 1) := dk_28 dg_cX11_takein_991.2.2.2.2.1
theorem dX11_takein_9 : decode cX11_takein 9 = .ok (.iconst 1, 1) := dk_4 dg_cX11_takein_991.2.2.2.2.2.1
theorem dX11_takein_10 : decode cX11_takein 10 = .ok (.aload_n 0, 1) := dk_42 dg_cX11_takein_991.2.2.2.2.2.2.1
theorem dX11_takein_11 : decode cX11_takein 11 = .ok (.getfield 93, 3) := dk_180 dg_cX11_takein_991.2.2.2.2.2.2.2
theorem dg_cX11_takein_992 : ck2s cX11_takein 14 16 18 = true ∧ ck1 cX11_takein 16 27 = true ∧ ck1 cX11_takein 17 96 = true ∧ ck1 cX11_takein 18 46 = true ∧ ck3 cX11_takein 19 184 417 = true ∧ ck3s cX11_takein 22 153 19 = true ∧ ck1 cX11_takein 25 42 = true ∧ ck3 cX11_takein 26 180 93 = true := by decide +kernel
theorem dX11_takein_14 : decode cX11_takein 14 = .ok (.bipush 18, 2) := dk_16 dg_cX11_takein_992.1
theorem dX11_takein_16 : decode cX11_takein 16 = .ok (.iload_n 1, 1) := dk_27 dg_cX11_takein_992.2.1
theorem dX11_takein_17 : decode cX11_takein 17 = .ok (.iadd, 1) := dk_96 dg_cX11_takein_992.2.2.1
theorem dX11_takein_18 : decode cX11_takein 18 = .ok (.iaload, 1) := dk_46 dg_cX11_takein_992.2.2.2.1
theorem dX11_takein_19 : decode cX11_takein 19 = .ok (.invokestatic 417, 3) := dk_184 dg_cX11_takein_992.2.2.2.2.1
theorem dX11_takein_22 : decode cX11_takein 22 = .ok (.ifCond .eq 19, 3) := dk_153 dg_cX11_takein_992.2.2.2.2.2.1
theorem dX11_takein_25 : decode cX11_takein 25 = .ok (.aload_n 0, 1) := dk_42 dg_cX11_takein_992.2.2.2.2.2.2.1
theorem dX11_takein_26 : decode cX11_takein 26 = .ok (.getfield 93, 3) := dk_180 dg_cX11_takein_992.2.2.2.2.2.2.2
theorem dg_cX11_takein_993 : ck2s cX11_takein 29 16 24 = true ∧ ck1 cX11_takein 31 27 = true ∧ ck1 cX11_takein 32 96 = true ∧ ck1 cX11_takein 33 46 = true ∧ ck1 cX11_takein 34 28 = true ∧ ck1 cX11_takein 35 96 = true ∧ ck2s cX11_takein 36 16 99 = true ∧ ck3s cX11_takein 38 164 5 = true := by decide +kernel
theorem dX11_takein_29 : decode cX11_takein 29 = .ok (.bipush 24, 2) := dk_16 dg_cX11_takein_993.1
theorem dX11_takein_31 : decode cX11_takein 31 = .ok (.iload_n 1, 1) := dk_27 dg_cX11_takein_993.2.1
theorem dX11_takein_32 : decode cX11_takein 32 = .ok (.iadd, 1) := dk_96 dg_cX11_takein_993.2.2.1
theorem dX11_takein_33 : decode cX11_takein 33 = .ok (.iaload, 1) := dk_46 dg_cX11_takein_993.2.2.2.1
theorem dX11_takein_34 : decode cX11_takein 34 = .ok (.iload_n 2, 1) := dk_28 dg_cX11_takein_993.2.2.2.2.1
theorem dX11_takein_35 : decode cX11_takein 35 = .ok (.iadd, 1) := dk_96 dg_cX11_takein_993.2.2.2.2.2.1
theorem dX11_takein_36 : decode cX11_takein 36 = .ok (.bipush 99, 2) := dk_16 dg_cX11_takein_993.2.2.2.2.2.2.1
theorem dX11_takein_38 : decode cX11_takein 38 = .ok (.if_icmp .le 5, 3) := dk_164 dg_cX11_takein_993.2.2.2.2.2.2.2
theorem dg_cX11_takein_994 : ck1 cX11_takein 41 2 = true ∧ ck1 cX11_takein 42 172 = true ∧ ck1 cX11_takein 43 42 = true ∧ ck3 cX11_takein 44 182 458 = true ∧ ck1 cX11_takein 47 42 = true ∧ ck3 cX11_takein 48 180 93 = true ∧ ck2s cX11_takein 51 16 24 = true ∧ ck1 cX11_takein 53 27 = true := by decide +kernel
theorem dX11_takein_41 : decode cX11_takein 41 = .ok (.iconst (-1), 1) := dk_2 dg_cX11_takein_994.1
theorem dX11_takein_42 : decode cX11_takein 42 = .ok (.ireturn, 1) := dk_172 dg_cX11_takein_994.2.1
theorem dX11_takein_43 : decode cX11_takein 43 = .ok (.aload_n 0, 1) := dk_42 dg_cX11_takein_994.2.2.1
theorem dX11_takein_44 : decode cX11_takein 44 = .ok (.invokevirtual 458, 3) := dk_182 dg_cX11_takein_994.2.2.2.1
theorem dX11_takein_47 : decode cX11_takein 47 = .ok (.aload_n 0, 1) := dk_42 dg_cX11_takein_994.2.2.2.2.1
theorem dX11_takein_48 : decode cX11_takein 48 = .ok (.getfield 93, 3) := dk_180 dg_cX11_takein_994.2.2.2.2.2.1
theorem dX11_takein_51 : decode cX11_takein 51 = .ok (.bipush 24, 2) := dk_16 dg_cX11_takein_994.2.2.2.2.2.2.1
theorem dX11_takein_53 : decode cX11_takein 53 = .ok (.iload_n 1, 1) := dk_27 dg_cX11_takein_994.2.2.2.2.2.2.2
theorem dg_cX11_takein_995 : ck1 cX11_takein 54 96 = true ∧ ck1 cX11_takein 55 92 = true ∧ ck1 cX11_takein 56 46 = true ∧ ck1 cX11_takein 57 28 = true ∧ ck1 cX11_takein 58 96 = true ∧ ck1 cX11_takein 59 79 = true ∧ ck1 cX11_takein 60 42 = true ∧ ck3 cX11_takein 61 180 93 = true := by decide +kernel
theorem dX11_takein_54 : decode cX11_takein 54 = .ok (.iadd, 1) := dk_96 dg_cX11_takein_995.1
theorem dX11_takein_55 : decode cX11_takein 55 = .ok (.dup2, 1) := dk_92 dg_cX11_takein_995.2.1
theorem dX11_takein_56 : decode cX11_takein 56 = .ok (.iaload, 1) := dk_46 dg_cX11_takein_995.2.2.1
theorem dX11_takein_57 : decode cX11_takein 57 = .ok (.iload_n 2, 1) := dk_28 dg_cX11_takein_995.2.2.2.1
theorem dX11_takein_58 : decode cX11_takein 58 = .ok (.iadd, 1) := dk_96 dg_cX11_takein_995.2.2.2.2.1
theorem dX11_takein_59 : decode cX11_takein 59 = .ok (.iastore, 1) := dk_79 dg_cX11_takein_995.2.2.2.2.2.1
theorem dX11_takein_60 : decode cX11_takein 60 = .ok (.aload_n 0, 1) := dk_42 dg_cX11_takein_995.2.2.2.2.2.2.1
theorem dX11_takein_61 : decode cX11_takein 61 = .ok (.getfield 93, 3) := dk_180 dg_cX11_takein_995.2.2.2.2.2.2.2
def dS_cX11_takein_1 : List UInt8 := 16 :: 18 :: 27 :: 96 :: 92 :: 46 :: 28 :: 100 :: 79 :: 42 :: 180 :: 0 :: 93 :: 16 :: 18 :: 27 :: 96 :: 46 :: 172 :: []
def dS_cX11_takein_0 : List UInt8 := 42 :: 27 :: 182 :: 1 :: 199 :: 153 :: 0 :: 36 :: 28 :: 4 :: 42 :: 180 :: 0 :: 93 :: 16 :: 18 :: 27 :: 96 :: 46 :: 184 :: 1 :: 161 :: 153 :: 0 :: 19 :: 42 :: 180 :: 0 :: 93 :: 16 :: 24 :: 27 :: 96 :: 46 :: 28 :: 96 :: 16 :: 99 :: 164 :: 0 :: 5 :: 2 :: 172 :: 42 :: 182 :: 1 :: 202 :: 42 :: 180 :: 0 :: 93 :: 16 :: 24 :: 27 :: 96 :: 92 :: 46 :: 28 :: 96 :: 79 :: 42 :: 180 :: 0 :: 93 :: dS_cX11_takein_1
theorem dT_cX11_takein_0 : cX11_takein.data.toList.drop 0 = dS_cX11_takein_0 := by decide +kernel
theorem dT_cX11_takein_1 : cX11_takein.data.toList.drop 64 = dS_cX11_takein_1 := ck_nx dT_cX11_takein_0 (by decide +kernel) rfl
theorem dg_cX11_takein_996 : ck2sL dS_cX11_takein_1 0 16 18 = true ∧ ck1L dS_cX11_takein_1 2 27 = true ∧ ck1L dS_cX11_takein_1 3 96 = true ∧ ck1L dS_cX11_takein_1 4 92 = true ∧ ck1L dS_cX11_takein_1 5 46 = true ∧ ck1L dS_cX11_takein_1 6 28 = true ∧ ck1L dS_cX11_takein_1 7 100 = true ∧ ck1L dS_cX11_takein_1 8 79 = true := by decide +kernel
theorem dX11_takein_64 : decode cX11_takein 64 = .ok (.bipush 18, 2) := dk_16 (ck2s_s (r := 0) dT_cX11_takein_1 rfl dg_cX11_takein_996.1)
theorem dX11_takein_66 : decode cX11_takein 66 = .ok (.iload_n 1, 1) := dk_27 (ck1_s (r := 2) dT_cX11_takein_1 rfl dg_cX11_takein_996.2.1)
theorem dX11_takein_67 : decode cX11_takein 67 = .ok (.iadd, 1) := dk_96 (ck1_s (r := 3) dT_cX11_takein_1 rfl dg_cX11_takein_996.2.2.1)
theorem dX11_takein_68 : decode cX11_takein 68 = .ok (.dup2, 1) := dk_92 (ck1_s (r := 4) dT_cX11_takein_1 rfl dg_cX11_takein_996.2.2.2.1)
theorem dX11_takein_69 : decode cX11_takein 69 = .ok (.iaload, 1) := dk_46 (ck1_s (r := 5) dT_cX11_takein_1 rfl dg_cX11_takein_996.2.2.2.2.1)
theorem dX11_takein_70 : decode cX11_takein 70 = .ok (.iload_n 2, 1) := dk_28 (ck1_s (r := 6) dT_cX11_takein_1 rfl dg_cX11_takein_996.2.2.2.2.2.1)
theorem dX11_takein_71 : decode cX11_takein 71 = .ok (.isub, 1) := dk_100 (ck1_s (r := 7) dT_cX11_takein_1 rfl dg_cX11_takein_996.2.2.2.2.2.2.1)
theorem dX11_takein_72 : decode cX11_takein 72 = .ok (.iastore, 1) := dk_79 (ck1_s (r := 8) dT_cX11_takein_1 rfl dg_cX11_takein_996.2.2.2.2.2.2.2)
theorem dg_cX11_takein_997 : ck1L dS_cX11_takein_1 9 42 = true ∧ ck3L dS_cX11_takein_1 10 180 93 = true ∧ ck2sL dS_cX11_takein_1 13 16 18 = true ∧ ck1L dS_cX11_takein_1 15 27 = true ∧ ck1L dS_cX11_takein_1 16 96 = true ∧ ck1L dS_cX11_takein_1 17 46 = true ∧ ck1L dS_cX11_takein_1 18 172 = true := by decide +kernel
theorem dX11_takein_73 : decode cX11_takein 73 = .ok (.aload_n 0, 1) := dk_42 (ck1_s (r := 9) dT_cX11_takein_1 rfl dg_cX11_takein_997.1)
theorem dX11_takein_74 : decode cX11_takein 74 = .ok (.getfield 93, 3) := dk_180 (ck3_s (r := 10) dT_cX11_takein_1 rfl dg_cX11_takein_997.2.1)
theorem dX11_takein_77 : decode cX11_takein 77 = .ok (.bipush 18, 2) := dk_16 (ck2s_s (r := 13) dT_cX11_takein_1 rfl dg_cX11_takein_997.2.2.1)
theorem dX11_takein_79 : decode cX11_takein 79 = .ok (.iload_n 1, 1) := dk_27 (ck1_s (r := 15) dT_cX11_takein_1 rfl dg_cX11_takein_997.2.2.2.1)
theorem dX11_takein_80 : decode cX11_takein 80 = .ok (.iadd, 1) := dk_96 (ck1_s (r := 16) dT_cX11_takein_1 rfl dg_cX11_takein_997.2.2.2.2.1)
theorem dX11_takein_81 : decode cX11_takein 81 = .ok (.iaload, 1) := dk_46 (ck1_s (r := 17) dT_cX11_takein_1 rfl dg_cX11_takein_997.2.2.2.2.2.1)
theorem dX11_takein_82 : decode cX11_takein 82 = .ok (.ireturn, 1) := dk_172 (ck1_s (r := 18) dT_cX11_takein_1 rfl dg_cX11_takein_997.2.2.2.2.2.2)
theorem dg_cX11_tight_998 : ck1 cX11_tight 0 26 = true := by decide +kernel
theorem dX11_tight_0 : decode cX11_tight 0 = .ok (.iload_n 0, 1) := dk_26 dg_cX11_tight_998
theorem dX11_tight_1 : decode cX11_tight 1 = .ok (.lookupswitch 85 #[(21, 79), (38, 77), (43, 83), (45, 83), (60, 81), (61, 81), (62, 81), (124, 75)], 75) := by decide +kernel
def dS_cX11_tight_1 : List UInt8 := 0 :: 0 :: 0 :: 81 :: 0 :: 0 :: 0 :: 124 :: 0 :: 0 :: 0 :: 75 :: 4 :: 172 :: 5 :: 172 :: 6 :: 172 :: 7 :: 172 :: 8 :: 172 :: 16 :: 6 :: 172 :: []
def dS_cX11_tight_0 : List UInt8 := 26 :: 171 :: 0 :: 0 :: 0 :: 0 :: 0 :: 85 :: 0 :: 0 :: 0 :: 8 :: 0 :: 0 :: 0 :: 21 :: 0 :: 0 :: 0 :: 79 :: 0 :: 0 :: 0 :: 38 :: 0 :: 0 :: 0 :: 77 :: 0 :: 0 :: 0 :: 43 :: 0 :: 0 :: 0 :: 83 :: 0 :: 0 :: 0 :: 45 :: 0 :: 0 :: 0 :: 83 :: 0 :: 0 :: 0 :: 60 :: 0 :: 0 :: 0 :: 81 :: 0 :: 0 :: 0 :: 61 :: 0 :: 0 :: 0 :: 81 :: 0 :: 0 :: 0 :: 62 :: dS_cX11_tight_1
theorem dT_cX11_tight_0 : cX11_tight.data.toList.drop 0 = dS_cX11_tight_0 := by decide +kernel
theorem dT_cX11_tight_1 : cX11_tight.data.toList.drop 64 = dS_cX11_tight_1 := ck_nx dT_cX11_tight_0 (by decide +kernel) rfl
theorem dg_cX11_tight_999 : ck1L dS_cX11_tight_1 12 4 = true ∧ ck1L dS_cX11_tight_1 13 172 = true ∧ ck1L dS_cX11_tight_1 14 5 = true ∧ ck1L dS_cX11_tight_1 15 172 = true ∧ ck1L dS_cX11_tight_1 16 6 = true ∧ ck1L dS_cX11_tight_1 17 172 = true ∧ ck1L dS_cX11_tight_1 18 7 = true ∧ ck1L dS_cX11_tight_1 19 172 = true := by decide +kernel
theorem dX11_tight_76 : decode cX11_tight 76 = .ok (.iconst 1, 1) := dk_4 (ck1_s (r := 12) dT_cX11_tight_1 rfl dg_cX11_tight_999.1)
theorem dX11_tight_77 : decode cX11_tight 77 = .ok (.ireturn, 1) := dk_172 (ck1_s (r := 13) dT_cX11_tight_1 rfl dg_cX11_tight_999.2.1)
theorem dX11_tight_78 : decode cX11_tight 78 = .ok (.iconst 2, 1) := dk_5 (ck1_s (r := 14) dT_cX11_tight_1 rfl dg_cX11_tight_999.2.2.1)
theorem dX11_tight_79 : decode cX11_tight 79 = .ok (.ireturn, 1) := dk_172 (ck1_s (r := 15) dT_cX11_tight_1 rfl dg_cX11_tight_999.2.2.2.1)
theorem dX11_tight_80 : decode cX11_tight 80 = .ok (.iconst 3, 1) := dk_6 (ck1_s (r := 16) dT_cX11_tight_1 rfl dg_cX11_tight_999.2.2.2.2.1)
theorem dX11_tight_81 : decode cX11_tight 81 = .ok (.ireturn, 1) := dk_172 (ck1_s (r := 17) dT_cX11_tight_1 rfl dg_cX11_tight_999.2.2.2.2.2.1)
theorem dX11_tight_82 : decode cX11_tight 82 = .ok (.iconst 4, 1) := dk_7 (ck1_s (r := 18) dT_cX11_tight_1 rfl dg_cX11_tight_999.2.2.2.2.2.2.1)
theorem dX11_tight_83 : decode cX11_tight 83 = .ok (.ireturn, 1) := dk_172 (ck1_s (r := 19) dT_cX11_tight_1 rfl dg_cX11_tight_999.2.2.2.2.2.2.2)
theorem dg_cX11_tight_1000 : ck1L dS_cX11_tight_1 20 8 = true ∧ ck1L dS_cX11_tight_1 21 172 = true ∧ ck2sL dS_cX11_tight_1 22 16 6 = true ∧ ck1L dS_cX11_tight_1 24 172 = true := by decide +kernel
theorem dX11_tight_84 : decode cX11_tight 84 = .ok (.iconst 5, 1) := dk_8 (ck1_s (r := 20) dT_cX11_tight_1 rfl dg_cX11_tight_1000.1)
theorem dX11_tight_85 : decode cX11_tight 85 = .ok (.ireturn, 1) := dk_172 (ck1_s (r := 21) dT_cX11_tight_1 rfl dg_cX11_tight_1000.2.1)
theorem dX11_tight_86 : decode cX11_tight 86 = .ok (.bipush 6, 2) := dk_16 (ck2s_s (r := 22) dT_cX11_tight_1 rfl dg_cX11_tight_1000.2.2.1)
theorem dX11_tight_88 : decode cX11_tight 88 = .ok (.ireturn, 1) := dk_172 (ck1_s (r := 24) dT_cX11_tight_1 rfl dg_cX11_tight_1000.2.2.2)
theorem dg_cX11_token_1001 : ck1 cX11_token 0 42 = true ∧ ck1 cX11_token 1 3 = true ∧ ck3 cX11_token 2 182 152 = true ∧ ck2s cX11_token 5 16 32 = true ∧ ck3s cX11_token 7 159 13 = true ∧ ck1 cX11_token 10 42 = true ∧ ck1 cX11_token 11 3 = true ∧ ck3 cX11_token 12 182 152 = true := by decide +kernel
theorem dX11_token_0 : decode cX11_token 0 = .ok (.aload_n 0, 1) := dk_42 dg_cX11_token_1001.1
theorem dX11_token_1 : decode cX11_token 1 = .ok (.iconst 0, 1) := dk_3 dg_cX11_token_1001.2.1
theorem dX11_token_2 : decode cX11_token 2 = .ok (.invokevirtual 152, 3) := dk_182 dg_cX11_token_1001.2.2.1
theorem dX11_token_5 : decode cX11_token 5 = .ok (.bipush 32, 2) := dk_16 dg_cX11_token_1001.2.2.2.1
theorem dX11_token_7 : decode cX11_token 7 = .ok (.if_icmp .eq 13, 3) := dk_159 dg_cX11_token_1001.2.2.2.2.1
theorem dX11_token_10 : decode cX11_token 10 = .ok (.aload_n 0, 1) := dk_42 dg_cX11_token_1001.2.2.2.2.2.1
theorem dX11_token_11 : decode cX11_token 11 = .ok (.iconst 0, 1) := dk_3 dg_cX11_token_1001.2.2.2.2.2.2.1
theorem dX11_token_12 : decode cX11_token 12 = .ok (.invokevirtual 152, 3) := dk_182 dg_cX11_token_1001.2.2.2.2.2.2.2
theorem dg_cX11_token_1002 : ck2s cX11_token 15 16 10 = true ∧ ck3s cX11_token 17 160 16 = true ∧ ck1 cX11_token 20 42 = true ∧ ck1 cX11_token 21 89 = true ∧ ck3 cX11_token 22 180 146 = true ∧ ck1 cX11_token 25 4 = true ∧ ck1 cX11_token 26 96 = true ∧ ck3 cX11_token 27 181 146 = true := by decide +kernel
theorem dX11_token_15 : decode cX11_token 15 = .ok (.bipush 10, 2) := dk_16 dg_cX11_token_1002.1
theorem dX11_token_17 : decode cX11_token 17 = .ok (.if_icmp .ne 16, 3) := dk_160 dg_cX11_token_1002.2.1
theorem dX11_token_20 : decode cX11_token 20 = .ok (.aload_n 0, 1) := dk_42 dg_cX11_token_1002.2.2.1
theorem dX11_token_21 : decode cX11_token 21 = .ok (.dup, 1) := dk_89 dg_cX11_token_1002.2.2.2.1
theorem dX11_token_22 : decode cX11_token 22 = .ok (.getfield 146, 3) := dk_180 dg_cX11_token_1002.2.2.2.2.1
theorem dX11_token_25 : decode cX11_token 25 = .ok (.iconst 1, 1) := dk_4 dg_cX11_token_1002.2.2.2.2.2.1
theorem dX11_token_26 : decode cX11_token 26 = .ok (.iadd, 1) := dk_96 dg_cX11_token_1002.2.2.2.2.2.2.1
theorem dX11_token_27 : decode cX11_token 27 = .ok (.putfield 146, 3) := dk_181 dg_cX11_token_1002.2.2.2.2.2.2.2
theorem dg_cX11_token_1003 : ck3s cX11_token 30 167 (-30) = true ∧ ck1 cX11_token 33 42 = true ∧ ck1 cX11_token 34 42 = true ∧ ck3 cX11_token 35 180 146 = true ∧ ck3 cX11_token 38 181 156 = true ∧ ck1 cX11_token 41 42 = true ∧ ck1 cX11_token 42 3 = true ∧ ck3 cX11_token 43 182 152 = true := by decide +kernel
theorem dX11_token_30 : decode cX11_token 30 = .ok (.goto (-30), 3) := dk_167 dg_cX11_token_1003.1
theorem dX11_token_33 : decode cX11_token 33 = .ok (.aload_n 0, 1) := dk_42 dg_cX11_token_1003.2.1
theorem dX11_token_34 : decode cX11_token 34 = .ok (.aload_n 0, 1) := dk_42 dg_cX11_token_1003.2.2.1
theorem dX11_token_35 : decode cX11_token 35 = .ok (.getfield 146, 3) := dk_180 dg_cX11_token_1003.2.2.2.1
theorem dX11_token_38 : decode cX11_token 38 = .ok (.putfield 156, 3) := dk_181 dg_cX11_token_1003.2.2.2.2.1
theorem dX11_token_41 : decode cX11_token 41 = .ok (.aload_n 0, 1) := dk_42 dg_cX11_token_1003.2.2.2.2.2.1
theorem dX11_token_42 : decode cX11_token 42 = .ok (.iconst 0, 1) := dk_3 dg_cX11_token_1003.2.2.2.2.2.2.1
theorem dX11_token_43 : decode cX11_token 43 = .ok (.invokevirtual 152, 3) := dk_182 dg_cX11_token_1003.2.2.2.2.2.2.2
theorem dg_cX11_token_1004 : ck1 cX11_token 46 60 = true ∧ ck1 cX11_token 47 3 = true ∧ ck1 cX11_token 48 61 = true ∧ ck1 cX11_token 49 42 = true ∧ ck1 cX11_token 50 9 = true ∧ ck3 cX11_token 51 181 159 = true ∧ ck1 cX11_token 54 42 = true ∧ ck1 cX11_token 55 3 = true := by decide +kernel
theorem dX11_token_46 : decode cX11_token 46 = .ok (.istore_n 1, 1) := dk_60 dg_cX11_token_1004.1
theorem dX11_token_47 : decode cX11_token 47 = .ok (.iconst 0, 1) := dk_3 dg_cX11_token_1004.2.1
theorem dX11_token_48 : decode cX11_token 48 = .ok (.istore_n 2, 1) := dk_61 dg_cX11_token_1004.2.2.1
theorem dX11_token_49 : decode cX11_token 49 = .ok (.aload_n 0, 1) := dk_42 dg_cX11_token_1004.2.2.2.1
theorem dX11_token_50 : decode cX11_token 50 = .ok (.lconst 0, 1) := dk_9 dg_cX11_token_1004.2.2.2.2.1
theorem dX11_token_51 : decode cX11_token 51 = .ok (.putfield 159, 3) := dk_181 dg_cX11_token_1004.2.2.2.2.2.1
theorem dX11_token_54 : decode cX11_token 54 = .ok (.aload_n 0, 1) := dk_42 dg_cX11_token_1004.2.2.2.2.2.2.1
theorem dX11_token_55 : decode cX11_token 55 = .ok (.iconst 0, 1) := dk_3 dg_cX11_token_1004.2.2.2.2.2.2.2
theorem dg_cX11_token_1005 : ck3 cX11_token 56 181 163 = true ∧ ck1 cX11_token 59 27 = true ∧ ck3s cX11_token 60 156 11 = true ∧ ck1 cX11_token 63 42 = true := by decide +kernel
theorem dX11_token_56 : decode cX11_token 56 = .ok (.putfield 163, 3) := dk_181 dg_cX11_token_1005.1
theorem dX11_token_59 : decode cX11_token 59 = .ok (.iload_n 1, 1) := dk_27 dg_cX11_token_1005.2.1
theorem dX11_token_60 : decode cX11_token 60 = .ok (.ifCond .ge 11, 3) := dk_156 dg_cX11_token_1005.2.2.1
theorem dX11_token_63 : decode cX11_token 63 = .ok (.aload_n 0, 1) := dk_42 dg_cX11_token_1005.2.2.2
def dS_cX11_token_3 : List UInt8 := 42 :: 28 :: 182 :: 0 :: 152 :: 184 :: 0 :: 169 :: 153 :: 0 :: 7 :: 6 :: 167 :: 0 :: 4 :: 5 :: 181 :: 0 :: 166 :: 167 :: 0 :: 21 :: 4 :: 61 :: 42 :: 27 :: 184 :: 0 :: 176 :: 153 :: 0 :: 7 :: 27 :: 167 :: 0 :: 4 :: 6 :: 181 :: 0 :: 166 :: 42 :: 180 :: 0 :: 166 :: 6 :: 159 :: 0 :: 13 :: 42 :: 89 :: 180 :: 0 :: 146 :: 28 :: 96 :: 181 :: 0 :: 146 :: 177 :: []
def dS_cX11_token_2 : List UInt8 := 0 :: 4 :: 4 :: 181 :: 0 :: 166 :: 167 :: 0 :: 98 :: 27 :: 184 :: 0 :: 173 :: 153 :: 0 :: 73 :: 42 :: 28 :: 182 :: 0 :: 152 :: 184 :: 0 :: 173 :: 153 :: 0 :: 34 :: 28 :: 7 :: 162 :: 0 :: 23 :: 42 :: 16 :: 10 :: 42 :: 180 :: 0 :: 163 :: 104 :: 42 :: 28 :: 182 :: 0 :: 152 :: 96 :: 16 :: 48 :: 100 :: 181 :: 0 :: 163 :: 132 :: 2 :: 1 :: 167 :: 255 :: 217 :: 42 :: 28 :: 7 :: 163 :: 0 :: 14 :: dS_cX11_token_3
def dS_cX11_token_1 : List UInt8 := 3 :: 181 :: 0 :: 166 :: 167 :: 0 :: 164 :: 27 :: 184 :: 0 :: 169 :: 153 :: 0 :: 62 :: 42 :: 28 :: 182 :: 0 :: 152 :: 184 :: 0 :: 169 :: 153 :: 0 :: 33 :: 28 :: 16 :: 8 :: 162 :: 0 :: 21 :: 42 :: 42 :: 180 :: 0 :: 159 :: 16 :: 8 :: 121 :: 42 :: 28 :: 182 :: 0 :: 152 :: 133 :: 129 :: 181 :: 0 :: 159 :: 132 :: 2 :: 1 :: 167 :: 255 :: 218 :: 42 :: 28 :: 16 :: 8 :: 164 :: 0 :: 7 :: 6 :: 167 :: dS_cX11_token_2
def dS_cX11_token_0 : List UInt8 := 42 :: 3 :: 182 :: 0 :: 152 :: 16 :: 32 :: 159 :: 0 :: 13 :: 42 :: 3 :: 182 :: 0 :: 152 :: 16 :: 10 :: 160 :: 0 :: 16 :: 42 :: 89 :: 180 :: 0 :: 146 :: 4 :: 96 :: 181 :: 0 :: 146 :: 167 :: 255 :: 226 :: 42 :: 42 :: 180 :: 0 :: 146 :: 181 :: 0 :: 156 :: 42 :: 3 :: 182 :: 0 :: 152 :: 60 :: 3 :: 61 :: 42 :: 9 :: 181 :: 0 :: 159 :: 42 :: 3 :: 181 :: 0 :: 163 :: 27 :: 156 :: 0 :: 11 :: 42 :: dS_cX11_token_1
theorem dT_cX11_token_0 : cX11_token.data.toList.drop 0 = dS_cX11_token_0 := by decide +kernel
theorem dT_cX11_token_1 : cX11_token.data.toList.drop 64 = dS_cX11_token_1 := ck_nx dT_cX11_token_0 (by decide +kernel) rfl
theorem dT_cX11_token_2 : cX11_token.data.toList.drop 128 = dS_cX11_token_2 := ck_nx dT_cX11_token_1 (by decide +kernel) rfl
theorem dT_cX11_token_3 : cX11_token.data.toList.drop 192 = dS_cX11_token_3 := ck_nx dT_cX11_token_2 (by decide +kernel) rfl
theorem dg_cX11_token_1006 : ck1L dS_cX11_token_1 0 3 = true ∧ ck3L dS_cX11_token_1 1 181 166 = true ∧ ck3sL dS_cX11_token_1 4 167 164 = true ∧ ck1L dS_cX11_token_1 7 27 = true ∧ ck3L dS_cX11_token_1 8 184 169 = true ∧ ck3sL dS_cX11_token_1 11 153 62 = true ∧ ck1L dS_cX11_token_1 14 42 = true ∧ ck1L dS_cX11_token_1 15 28 = true := by decide +kernel
theorem dX11_token_64 : decode cX11_token 64 = .ok (.iconst 0, 1) := dk_3 (ck1_s (r := 0) dT_cX11_token_1 rfl dg_cX11_token_1006.1)
theorem dX11_token_65 : decode cX11_token 65 = .ok (.putfield 166, 3) := dk_181 (ck3_s (r := 1) dT_cX11_token_1 rfl dg_cX11_token_1006.2.1)
theorem dX11_token_68 : decode cX11_token 68 = .ok (.goto 164, 3) := dk_167 (ck3s_s (r := 4) dT_cX11_token_1 rfl dg_cX11_token_1006.2.2.1)
theorem dX11_token_71 : decode cX11_token 71 = .ok (.iload_n 1, 1) := dk_27 (ck1_s (r := 7) dT_cX11_token_1 rfl dg_cX11_token_1006.2.2.2.1)
theorem dX11_token_72 : decode cX11_token 72 = .ok (.invokestatic 169, 3) := dk_184 (ck3_s (r := 8) dT_cX11_token_1 rfl dg_cX11_token_1006.2.2.2.2.1)
theorem dX11_token_75 : decode cX11_token 75 = .ok (.ifCond .eq 62, 3) := dk_153 (ck3s_s (r := 11) dT_cX11_token_1 rfl dg_cX11_token_1006.2.2.2.2.2.1)
theorem dX11_token_78 : decode cX11_token 78 = .ok (.aload_n 0, 1) := dk_42 (ck1_s (r := 14) dT_cX11_token_1 rfl dg_cX11_token_1006.2.2.2.2.2.2.1)
theorem dX11_token_79 : decode cX11_token 79 = .ok (.iload_n 2, 1) := dk_28 (ck1_s (r := 15) dT_cX11_token_1 rfl dg_cX11_token_1006.2.2.2.2.2.2.2)
theorem dg_cX11_token_1007 : ck3L dS_cX11_token_1 16 182 152 = true ∧ ck3L dS_cX11_token_1 19 184 169 = true ∧ ck3sL dS_cX11_token_1 22 153 33 = true ∧ ck1L dS_cX11_token_1 25 28 = true ∧ ck2sL dS_cX11_token_1 26 16 8 = true ∧ ck3sL dS_cX11_token_1 28 162 21 = true ∧ ck1L dS_cX11_token_1 31 42 = true ∧ ck1L dS_cX11_token_1 32 42 = true := by decide +kernel
theorem dX11_token_80 : decode cX11_token 80 = .ok (.invokevirtual 152, 3) := dk_182 (ck3_s (r := 16) dT_cX11_token_1 rfl dg_cX11_token_1007.1)
theorem dX11_token_83 : decode cX11_token 83 = .ok (.invokestatic 169, 3) := dk_184 (ck3_s (r := 19) dT_cX11_token_1 rfl dg_cX11_token_1007.2.1)
theorem dX11_token_86 : decode cX11_token 86 = .ok (.ifCond .eq 33, 3) := dk_153 (ck3s_s (r := 22) dT_cX11_token_1 rfl dg_cX11_token_1007.2.2.1)
theorem dX11_token_89 : decode cX11_token 89 = .ok (.iload_n 2, 1) := dk_28 (ck1_s (r := 25) dT_cX11_token_1 rfl dg_cX11_token_1007.2.2.2.1)
theorem dX11_token_90 : decode cX11_token 90 = .ok (.bipush 8, 2) := dk_16 (ck2s_s (r := 26) dT_cX11_token_1 rfl dg_cX11_token_1007.2.2.2.2.1)
theorem dX11_token_92 : decode cX11_token 92 = .ok (.if_icmp .ge 21, 3) := dk_162 (ck3s_s (r := 28) dT_cX11_token_1 rfl dg_cX11_token_1007.2.2.2.2.2.1)
theorem dX11_token_95 : decode cX11_token 95 = .ok (.aload_n 0, 1) := dk_42 (ck1_s (r := 31) dT_cX11_token_1 rfl dg_cX11_token_1007.2.2.2.2.2.2.1)
theorem dX11_token_96 : decode cX11_token 96 = .ok (.aload_n 0, 1) := dk_42 (ck1_s (r := 32) dT_cX11_token_1 rfl dg_cX11_token_1007.2.2.2.2.2.2.2)
theorem dg_cX11_token_1008 : ck3L dS_cX11_token_1 33 180 159 = true ∧ ck2sL dS_cX11_token_1 36 16 8 = true ∧ ck1L dS_cX11_token_1 38 121 = true ∧ ck1L dS_cX11_token_1 39 42 = true ∧ ck1L dS_cX11_token_1 40 28 = true ∧ ck3L dS_cX11_token_1 41 182 152 = true ∧ ck1L dS_cX11_token_1 44 133 = true ∧ ck1L dS_cX11_token_1 45 129 = true := by decide +kernel
theorem dX11_token_97 : decode cX11_token 97 = .ok (.getfield 159, 3) := dk_180 (ck3_s (r := 33) dT_cX11_token_1 rfl dg_cX11_token_1008.1)
theorem dX11_token_100 : decode cX11_token 100 = .ok (.bipush 8, 2) := dk_16 (ck2s_s (r := 36) dT_cX11_token_1 rfl dg_cX11_token_1008.2.1)
theorem dX11_token_102 : decode cX11_token 102 = .ok (.lshl, 1) := dk_121 (ck1_s (r := 38) dT_cX11_token_1 rfl dg_cX11_token_1008.2.2.1)
theorem dX11_token_103 : decode cX11_token 103 = .ok (.aload_n 0, 1) := dk_42 (ck1_s (r := 39) dT_cX11_token_1 rfl dg_cX11_token_1008.2.2.2.1)
theorem dX11_token_104 : decode cX11_token 104 = .ok (.iload_n 2, 1) := dk_28 (ck1_s (r := 40) dT_cX11_token_1 rfl dg_cX11_token_1008.2.2.2.2.1)
theorem dX11_token_105 : decode cX11_token 105 = .ok (.invokevirtual 152, 3) := dk_182 (ck3_s (r := 41) dT_cX11_token_1 rfl dg_cX11_token_1008.2.2.2.2.2.1)
theorem dX11_token_108 : decode cX11_token 108 = .ok (.i2l, 1) := dk_133 (ck1_s (r := 44) dT_cX11_token_1 rfl dg_cX11_token_1008.2.2.2.2.2.2.1)
theorem dX11_token_109 : decode cX11_token 109 = .ok (.lor, 1) := dk_129 (ck1_s (r := 45) dT_cX11_token_1 rfl dg_cX11_token_1008.2.2.2.2.2.2.2)
theorem dg_cX11_token_1009 : ck3L dS_cX11_token_1 46 181 159 = true ∧ ck3iL dS_cX11_token_1 49 132 2 1 = true ∧ ck3sL dS_cX11_token_1 52 167 (-38) = true ∧ ck1L dS_cX11_token_1 55 42 = true ∧ ck1L dS_cX11_token_1 56 28 = true ∧ ck2sL dS_cX11_token_1 57 16 8 = true ∧ ck3sL dS_cX11_token_1 59 164 7 = true ∧ ck1L dS_cX11_token_1 62 6 = true := by decide +kernel
theorem dX11_token_110 : decode cX11_token 110 = .ok (.putfield 159, 3) := dk_181 (ck3_s (r := 46) dT_cX11_token_1 rfl dg_cX11_token_1009.1)
theorem dX11_token_113 : decode cX11_token 113 = .ok (.iinc 2 1, 3) := dk_132 (ck3i_s (r := 49) dT_cX11_token_1 rfl dg_cX11_token_1009.2.1)
theorem dX11_token_116 : decode cX11_token 116 = .ok (.goto (-38), 3) := dk_167 (ck3s_s (r := 52) dT_cX11_token_1 rfl dg_cX11_token_1009.2.2.1)
theorem dX11_token_119 : decode cX11_token 119 = .ok (.aload_n 0, 1) := dk_42 (ck1_s (r := 55) dT_cX11_token_1 rfl dg_cX11_token_1009.2.2.2.1)
theorem dX11_token_120 : decode cX11_token 120 = .ok (.iload_n 2, 1) := dk_28 (ck1_s (r := 56) dT_cX11_token_1 rfl dg_cX11_token_1009.2.2.2.2.1)
theorem dX11_token_121 : decode cX11_token 121 = .ok (.bipush 8, 2) := dk_16 (ck2s_s (r := 57) dT_cX11_token_1 rfl dg_cX11_token_1009.2.2.2.2.2.1)
theorem dX11_token_123 : decode cX11_token 123 = .ok (.if_icmp .le 7, 3) := dk_164 (ck3s_s (r := 59) dT_cX11_token_1 rfl dg_cX11_token_1009.2.2.2.2.2.2.1)
theorem dX11_token_126 : decode cX11_token 126 = .ok (.iconst 3, 1) := dk_6 (ck1_s (r := 62) dT_cX11_token_1 rfl dg_cX11_token_1009.2.2.2.2.2.2.2)
theorem dg_cX11_token_1010 : ck3sL dS_cX11_token_1 63 167 4 = true ∧ ck1L dS_cX11_token_2 2 4 = true ∧ ck3L dS_cX11_token_2 3 181 166 = true ∧ ck3sL dS_cX11_token_2 6 167 98 = true ∧ ck1L dS_cX11_token_2 9 27 = true ∧ ck3L dS_cX11_token_2 10 184 173 = true ∧ ck3sL dS_cX11_token_2 13 153 73 = true ∧ ck1L dS_cX11_token_2 16 42 = true := by decide +kernel
theorem dX11_token_127 : decode cX11_token 127 = .ok (.goto 4, 3) := dk_167 (ck3s_s (r := 63) dT_cX11_token_1 rfl dg_cX11_token_1010.1)
theorem dX11_token_130 : decode cX11_token 130 = .ok (.iconst 1, 1) := dk_4 (ck1_s (r := 2) dT_cX11_token_2 rfl dg_cX11_token_1010.2.1)
theorem dX11_token_131 : decode cX11_token 131 = .ok (.putfield 166, 3) := dk_181 (ck3_s (r := 3) dT_cX11_token_2 rfl dg_cX11_token_1010.2.2.1)
theorem dX11_token_134 : decode cX11_token 134 = .ok (.goto 98, 3) := dk_167 (ck3s_s (r := 6) dT_cX11_token_2 rfl dg_cX11_token_1010.2.2.2.1)
theorem dX11_token_137 : decode cX11_token 137 = .ok (.iload_n 1, 1) := dk_27 (ck1_s (r := 9) dT_cX11_token_2 rfl dg_cX11_token_1010.2.2.2.2.1)
theorem dX11_token_138 : decode cX11_token 138 = .ok (.invokestatic 173, 3) := dk_184 (ck3_s (r := 10) dT_cX11_token_2 rfl dg_cX11_token_1010.2.2.2.2.2.1)
theorem dX11_token_141 : decode cX11_token 141 = .ok (.ifCond .eq 73, 3) := dk_153 (ck3s_s (r := 13) dT_cX11_token_2 rfl dg_cX11_token_1010.2.2.2.2.2.2.1)
theorem dX11_token_144 : decode cX11_token 144 = .ok (.aload_n 0, 1) := dk_42 (ck1_s (r := 16) dT_cX11_token_2 rfl dg_cX11_token_1010.2.2.2.2.2.2.2)
theorem dg_cX11_token_1011 : ck1L dS_cX11_token_2 17 28 = true ∧ ck3L dS_cX11_token_2 18 182 152 = true ∧ ck3L dS_cX11_token_2 21 184 173 = true ∧ ck3sL dS_cX11_token_2 24 153 34 = true ∧ ck1L dS_cX11_token_2 27 28 = true ∧ ck1L dS_cX11_token_2 28 7 = true ∧ ck3sL dS_cX11_token_2 29 162 23 = true ∧ ck1L dS_cX11_token_2 32 42 = true := by decide +kernel
theorem dX11_token_145 : decode cX11_token 145 = .ok (.iload_n 2, 1) := dk_28 (ck1_s (r := 17) dT_cX11_token_2 rfl dg_cX11_token_1011.1)
theorem dX11_token_146 : decode cX11_token 146 = .ok (.invokevirtual 152, 3) := dk_182 (ck3_s (r := 18) dT_cX11_token_2 rfl dg_cX11_token_1011.2.1)
theorem dX11_token_149 : decode cX11_token 149 = .ok (.invokestatic 173, 3) := dk_184 (ck3_s (r := 21) dT_cX11_token_2 rfl dg_cX11_token_1011.2.2.1)
theorem dX11_token_152 : decode cX11_token 152 = .ok (.ifCond .eq 34, 3) := dk_153 (ck3s_s (r := 24) dT_cX11_token_2 rfl dg_cX11_token_1011.2.2.2.1)
theorem dX11_token_155 : decode cX11_token 155 = .ok (.iload_n 2, 1) := dk_28 (ck1_s (r := 27) dT_cX11_token_2 rfl dg_cX11_token_1011.2.2.2.2.1)
theorem dX11_token_156 : decode cX11_token 156 = .ok (.iconst 4, 1) := dk_7 (ck1_s (r := 28) dT_cX11_token_2 rfl dg_cX11_token_1011.2.2.2.2.2.1)
theorem dX11_token_157 : decode cX11_token 157 = .ok (.if_icmp .ge 23, 3) := dk_162 (ck3s_s (r := 29) dT_cX11_token_2 rfl dg_cX11_token_1011.2.2.2.2.2.2.1)
theorem dX11_token_160 : decode cX11_token 160 = .ok (.aload_n 0, 1) := dk_42 (ck1_s (r := 32) dT_cX11_token_2 rfl dg_cX11_token_1011.2.2.2.2.2.2.2)
theorem dg_cX11_token_1012 : ck2sL dS_cX11_token_2 33 16 10 = true ∧ ck1L dS_cX11_token_2 35 42 = true ∧ ck3L dS_cX11_token_2 36 180 163 = true ∧ ck1L dS_cX11_token_2 39 104 = true ∧ ck1L dS_cX11_token_2 40 42 = true ∧ ck1L dS_cX11_token_2 41 28 = true ∧ ck3L dS_cX11_token_2 42 182 152 = true ∧ ck1L dS_cX11_token_2 45 96 = true := by decide +kernel
theorem dX11_token_161 : decode cX11_token 161 = .ok (.bipush 10, 2) := dk_16 (ck2s_s (r := 33) dT_cX11_token_2 rfl dg_cX11_token_1012.1)
theorem dX11_token_163 : decode cX11_token 163 = .ok (.aload_n 0, 1) := dk_42 (ck1_s (r := 35) dT_cX11_token_2 rfl dg_cX11_token_1012.2.1)
theorem dX11_token_164 : decode cX11_token 164 = .ok (.getfield 163, 3) := dk_180 (ck3_s (r := 36) dT_cX11_token_2 rfl dg_cX11_token_1012.2.2.1)
theorem dX11_token_167 : decode cX11_token 167 = .ok (.imul, 1) := dk_104 (ck1_s (r := 39) dT_cX11_token_2 rfl dg_cX11_token_1012.2.2.2.1)
theorem dX11_token_168 : decode cX11_token 168 = .ok (.aload_n 0, 1) := dk_42 (ck1_s (r := 40) dT_cX11_token_2 rfl dg_cX11_token_1012.2.2.2.2.1)
theorem dX11_token_169 : decode cX11_token 169 = .ok (.iload_n 2, 1) := dk_28 (ck1_s (r := 41) dT_cX11_token_2 rfl dg_cX11_token_1012.2.2.2.2.2.1)
theorem dX11_token_170 : decode cX11_token 170 = .ok (.invokevirtual 152, 3) := dk_182 (ck3_s (r := 42) dT_cX11_token_2 rfl dg_cX11_token_1012.2.2.2.2.2.2.1)
theorem dX11_token_173 : decode cX11_token 173 = .ok (.iadd, 1) := dk_96 (ck1_s (r := 45) dT_cX11_token_2 rfl dg_cX11_token_1012.2.2.2.2.2.2.2)
theorem dg_cX11_token_1013 : ck2sL dS_cX11_token_2 46 16 48 = true ∧ ck1L dS_cX11_token_2 48 100 = true ∧ ck3L dS_cX11_token_2 49 181 163 = true ∧ ck3iL dS_cX11_token_2 52 132 2 1 = true ∧ ck3sL dS_cX11_token_2 55 167 (-39) = true ∧ ck1L dS_cX11_token_2 58 42 = true ∧ ck1L dS_cX11_token_2 59 28 = true ∧ ck1L dS_cX11_token_2 60 7 = true := by decide +kernel
theorem dX11_token_174 : decode cX11_token 174 = .ok (.bipush 48, 2) := dk_16 (ck2s_s (r := 46) dT_cX11_token_2 rfl dg_cX11_token_1013.1)
theorem dX11_token_176 : decode cX11_token 176 = .ok (.isub, 1) := dk_100 (ck1_s (r := 48) dT_cX11_token_2 rfl dg_cX11_token_1013.2.1)
theorem dX11_token_177 : decode cX11_token 177 = .ok (.putfield 163, 3) := dk_181 (ck3_s (r := 49) dT_cX11_token_2 rfl dg_cX11_token_1013.2.2.1)
theorem dX11_token_180 : decode cX11_token 180 = .ok (.iinc 2 1, 3) := dk_132 (ck3i_s (r := 52) dT_cX11_token_2 rfl dg_cX11_token_1013.2.2.2.1)
theorem dX11_token_183 : decode cX11_token 183 = .ok (.goto (-39), 3) := dk_167 (ck3s_s (r := 55) dT_cX11_token_2 rfl dg_cX11_token_1013.2.2.2.2.1)
theorem dX11_token_186 : decode cX11_token 186 = .ok (.aload_n 0, 1) := dk_42 (ck1_s (r := 58) dT_cX11_token_2 rfl dg_cX11_token_1013.2.2.2.2.2.1)
theorem dX11_token_187 : decode cX11_token 187 = .ok (.iload_n 2, 1) := dk_28 (ck1_s (r := 59) dT_cX11_token_2 rfl dg_cX11_token_1013.2.2.2.2.2.2.1)
theorem dX11_token_188 : decode cX11_token 188 = .ok (.iconst 4, 1) := dk_7 (ck1_s (r := 60) dT_cX11_token_2 rfl dg_cX11_token_1013.2.2.2.2.2.2.2)
theorem dg_cX11_token_1014 : ck3sL dS_cX11_token_2 61 163 14 = true ∧ ck1L dS_cX11_token_3 0 42 = true ∧ ck1L dS_cX11_token_3 1 28 = true ∧ ck3L dS_cX11_token_3 2 182 152 = true ∧ ck3L dS_cX11_token_3 5 184 169 = true ∧ ck3sL dS_cX11_token_3 8 153 7 = true ∧ ck1L dS_cX11_token_3 11 6 = true ∧ ck3sL dS_cX11_token_3 12 167 4 = true := by decide +kernel
theorem dX11_token_189 : decode cX11_token 189 = .ok (.if_icmp .gt 14, 3) := dk_163 (ck3s_s (r := 61) dT_cX11_token_2 rfl dg_cX11_token_1014.1)
theorem dX11_token_192 : decode cX11_token 192 = .ok (.aload_n 0, 1) := dk_42 (ck1_s (r := 0) dT_cX11_token_3 rfl dg_cX11_token_1014.2.1)
theorem dX11_token_193 : decode cX11_token 193 = .ok (.iload_n 2, 1) := dk_28 (ck1_s (r := 1) dT_cX11_token_3 rfl dg_cX11_token_1014.2.2.1)
theorem dX11_token_194 : decode cX11_token 194 = .ok (.invokevirtual 152, 3) := dk_182 (ck3_s (r := 2) dT_cX11_token_3 rfl dg_cX11_token_1014.2.2.2.1)
theorem dX11_token_197 : decode cX11_token 197 = .ok (.invokestatic 169, 3) := dk_184 (ck3_s (r := 5) dT_cX11_token_3 rfl dg_cX11_token_1014.2.2.2.2.1)
theorem dX11_token_200 : decode cX11_token 200 = .ok (.ifCond .eq 7, 3) := dk_153 (ck3s_s (r := 8) dT_cX11_token_3 rfl dg_cX11_token_1014.2.2.2.2.2.1)
theorem dX11_token_203 : decode cX11_token 203 = .ok (.iconst 3, 1) := dk_6 (ck1_s (r := 11) dT_cX11_token_3 rfl dg_cX11_token_1014.2.2.2.2.2.2.1)
theorem dX11_token_204 : decode cX11_token 204 = .ok (.goto 4, 3) := dk_167 (ck3s_s (r := 12) dT_cX11_token_3 rfl dg_cX11_token_1014.2.2.2.2.2.2.2)
theorem dg_cX11_token_1015 : ck1L dS_cX11_token_3 15 5 = true ∧ ck3L dS_cX11_token_3 16 181 166 = true ∧ ck3sL dS_cX11_token_3 19 167 21 = true ∧ ck1L dS_cX11_token_3 22 4 = true ∧ ck1L dS_cX11_token_3 23 61 = true ∧ ck1L dS_cX11_token_3 24 42 = true ∧ ck1L dS_cX11_token_3 25 27 = true ∧ ck3L dS_cX11_token_3 26 184 176 = true := by decide +kernel
theorem dX11_token_207 : decode cX11_token 207 = .ok (.iconst 2, 1) := dk_5 (ck1_s (r := 15) dT_cX11_token_3 rfl dg_cX11_token_1015.1)
theorem dX11_token_208 : decode cX11_token 208 = .ok (.putfield 166, 3) := dk_181 (ck3_s (r := 16) dT_cX11_token_3 rfl dg_cX11_token_1015.2.1)
theorem dX11_token_211 : decode cX11_token 211 = .ok (.goto 21, 3) := dk_167 (ck3s_s (r := 19) dT_cX11_token_3 rfl dg_cX11_token_1015.2.2.1)
theorem dX11_token_214 : decode cX11_token 214 = .ok (.iconst 1, 1) := dk_4 (ck1_s (r := 22) dT_cX11_token_3 rfl dg_cX11_token_1015.2.2.2.1)
theorem dX11_token_215 : decode cX11_token 215 = .ok (.istore_n 2, 1) := dk_61 (ck1_s (r := 23) dT_cX11_token_3 rfl dg_cX11_token_1015.2.2.2.2.1)
theorem dX11_token_216 : decode cX11_token 216 = .ok (.aload_n 0, 1) := dk_42 (ck1_s (r := 24) dT_cX11_token_3 rfl dg_cX11_token_1015.2.2.2.2.2.1)
theorem dX11_token_217 : decode cX11_token 217 = .ok (.iload_n 1, 1) := dk_27 (ck1_s (r := 25) dT_cX11_token_3 rfl dg_cX11_token_1015.2.2.2.2.2.2.1)
theorem dX11_token_218 : decode cX11_token 218 = .ok (.invokestatic 176, 3) := dk_184 (ck3_s (r := 26) dT_cX11_token_3 rfl dg_cX11_token_1015.2.2.2.2.2.2.2)
theorem dg_cX11_token_1016 : ck3sL dS_cX11_token_3 29 153 7 = true ∧ ck1L dS_cX11_token_3 32 27 = true ∧ ck3sL dS_cX11_token_3 33 167 4 = true ∧ ck1L dS_cX11_token_3 36 6 = true ∧ ck3L dS_cX11_token_3 37 181 166 = true ∧ ck1L dS_cX11_token_3 40 42 = true ∧ ck3L dS_cX11_token_3 41 180 166 = true ∧ ck1L dS_cX11_token_3 44 6 = true := by decide +kernel
theorem dX11_token_221 : decode cX11_token 221 = .ok (.ifCond .eq 7, 3) := dk_153 (ck3s_s (r := 29) dT_cX11_token_3 rfl dg_cX11_token_1016.1)
theorem dX11_token_224 : decode cX11_token 224 = .ok (.iload_n 1, 1) := dk_27 (ck1_s (r := 32) dT_cX11_token_3 rfl dg_cX11_token_1016.2.1)
theorem dX11_token_225 : decode cX11_token 225 = .ok (.goto 4, 3) := dk_167 (ck3s_s (r := 33) dT_cX11_token_3 rfl dg_cX11_token_1016.2.2.1)
theorem dX11_token_228 : decode cX11_token 228 = .ok (.iconst 3, 1) := dk_6 (ck1_s (r := 36) dT_cX11_token_3 rfl dg_cX11_token_1016.2.2.2.1)
theorem dX11_token_229 : decode cX11_token 229 = .ok (.putfield 166, 3) := dk_181 (ck3_s (r := 37) dT_cX11_token_3 rfl dg_cX11_token_1016.2.2.2.2.1)
theorem dX11_token_232 : decode cX11_token 232 = .ok (.aload_n 0, 1) := dk_42 (ck1_s (r := 40) dT_cX11_token_3 rfl dg_cX11_token_1016.2.2.2.2.2.1)
theorem dX11_token_233 : decode cX11_token 233 = .ok (.getfield 166, 3) := dk_180 (ck3_s (r := 41) dT_cX11_token_3 rfl dg_cX11_token_1016.2.2.2.2.2.2.1)
theorem dX11_token_236 : decode cX11_token 236 = .ok (.iconst 3, 1) := dk_6 (ck1_s (r := 44) dT_cX11_token_3 rfl dg_cX11_token_1016.2.2.2.2.2.2.2)
theorem dg_cX11_token_1017 : ck3sL dS_cX11_token_3 45 159 13 = true ∧ ck1L dS_cX11_token_3 48 42 = true ∧ ck1L dS_cX11_token_3 49 89 = true ∧ ck3L dS_cX11_token_3 50 180 146 = true ∧ ck1L dS_cX11_token_3 53 28 = true ∧ ck1L dS_cX11_token_3 54 96 = true ∧ ck3L dS_cX11_token_3 55 181 146 = true ∧ ck1L dS_cX11_token_3 58 177 = true := by decide +kernel
theorem dX11_token_237 : decode cX11_token 237 = .ok (.if_icmp .eq 13, 3) := dk_159 (ck3s_s (r := 45) dT_cX11_token_3 rfl dg_cX11_token_1017.1)
theorem dX11_token_240 : decode cX11_token 240 = .ok (.aload_n 0, 1) := dk_42 (ck1_s (r := 48) dT_cX11_token_3 rfl dg_cX11_token_1017.2.1)
theorem dX11_token_241 : decode cX11_token 241 = .ok (.dup, 1) := dk_89 (ck1_s (r := 49) dT_cX11_token_3 rfl dg_cX11_token_1017.2.2.1)
theorem dX11_token_242 : decode cX11_token 242 = .ok (.getfield 146, 3) := dk_180 (ck3_s (r := 50) dT_cX11_token_3 rfl dg_cX11_token_1017.2.2.2.1)
theorem dX11_token_245 : decode cX11_token 245 = .ok (.iload_n 2, 1) := dk_28 (ck1_s (r := 53) dT_cX11_token_3 rfl dg_cX11_token_1017.2.2.2.2.1)
theorem dX11_token_246 : decode cX11_token 246 = .ok (.iadd, 1) := dk_96 (ck1_s (r := 54) dT_cX11_token_3 rfl dg_cX11_token_1017.2.2.2.2.2.1)
theorem dX11_token_247 : decode cX11_token 247 = .ok (.putfield 146, 3) := dk_181 (ck3_s (r := 55) dT_cX11_token_3 rfl dg_cX11_token_1017.2.2.2.2.2.2.1)
theorem dX11_token_250 : decode cX11_token 250 = .ok (.return_, 1) := dk_177 (ck1_s (r := 58) dT_cX11_token_3 rfl dg_cX11_token_1017.2.2.2.2.2.2.2)
theorem dg_cX11_told_1018 : ck1 cX11_told 0 42 = true ∧ ck1 cX11_told 1 31 = true ∧ ck3 cX11_told 2 182 238 = true ∧ ck1 cX11_told 5 42 = true ∧ ck1 cX11_told 6 3 = true ∧ ck1 cX11_told 7 29 = true ∧ ck3 cX11_told 8 182 242 = true ∧ ck1 cX11_told 11 172 = true := by decide +kernel
theorem dX11_told_0 : decode cX11_told 0 = .ok (.aload_n 0, 1) := dk_42 dg_cX11_told_1018.1
theorem dX11_told_1 : decode cX11_told 1 = .ok (.lload_n 1, 1) := dk_31 dg_cX11_told_1018.2.1
theorem dX11_told_2 : decode cX11_told 2 = .ok (.invokevirtual 238, 3) := dk_182 dg_cX11_told_1018.2.2.1
theorem dX11_told_5 : decode cX11_told 5 = .ok (.aload_n 0, 1) := dk_42 dg_cX11_told_1018.2.2.2.1
theorem dX11_told_6 : decode cX11_told 6 = .ok (.iconst 0, 1) := dk_3 dg_cX11_told_1018.2.2.2.2.1
theorem dX11_told_7 : decode cX11_told 7 = .ok (.iload_n 3, 1) := dk_29 dg_cX11_told_1018.2.2.2.2.2.1
theorem dX11_told_8 : decode cX11_told 8 = .ok (.invokevirtual 242, 3) := dk_182 dg_cX11_told_1018.2.2.2.2.2.2.1
theorem dX11_told_11 : decode cX11_told 11 = .ok (.ireturn, 1) := dk_172 dg_cX11_told_1018.2.2.2.2.2.2.2
theorem dg_cX11_toldNumber_1019 : ck1 cX11_toldNumber 0 42 = true ∧ ck3 cX11_toldNumber 1 180 179 = true ∧ ck3s cX11_toldNumber 4 158 5 = true ∧ ck1 cX11_toldNumber 7 3 = true ∧ ck1 cX11_toldNumber 8 172 = true ∧ ck1 cX11_toldNumber 9 42 = true ∧ ck3 cX11_toldNumber 10 180 166 = true ∧ ck1 cX11_toldNumber 13 5 = true := by decide +kernel
theorem dX11_toldNumber_0 : decode cX11_toldNumber 0 = .ok (.aload_n 0, 1) := dk_42 dg_cX11_toldNumber_1019.1
theorem dX11_toldNumber_1 : decode cX11_toldNumber 1 = .ok (.getfield 179, 3) := dk_180 dg_cX11_toldNumber_1019.2.1
theorem dX11_toldNumber_4 : decode cX11_toldNumber 4 = .ok (.ifCond .le 5, 3) := dk_158 dg_cX11_toldNumber_1019.2.2.1
theorem dX11_toldNumber_7 : decode cX11_toldNumber 7 = .ok (.iconst 0, 1) := dk_3 dg_cX11_toldNumber_1019.2.2.2.1
theorem dX11_toldNumber_8 : decode cX11_toldNumber 8 = .ok (.ireturn, 1) := dk_172 dg_cX11_toldNumber_1019.2.2.2.2.1
theorem dX11_toldNumber_9 : decode cX11_toldNumber 9 = .ok (.aload_n 0, 1) := dk_42 dg_cX11_toldNumber_1019.2.2.2.2.2.1
theorem dX11_toldNumber_10 : decode cX11_toldNumber 10 = .ok (.getfield 166, 3) := dk_180 dg_cX11_toldNumber_1019.2.2.2.2.2.2.1
theorem dX11_toldNumber_13 : decode cX11_toldNumber 13 = .ok (.iconst 2, 1) := dk_5 dg_cX11_toldNumber_1019.2.2.2.2.2.2.2
theorem dg_cX11_toldNumber_1020 : ck3s cX11_toldNumber 14 159 11 = true ∧ ck1 cX11_toldNumber 17 42 = true ∧ ck1 cX11_toldNumber 18 5 = true ∧ ck3 cX11_toldNumber 19 182 232 = true ∧ ck3s cX11_toldNumber 22 167 24 = true ∧ ck1 cX11_toldNumber 25 42 = true ∧ ck3 cX11_toldNumber 26 180 163 = true ∧ ck1 cX11_toldNumber 29 27 = true := by decide +kernel
theorem dX11_toldNumber_14 : decode cX11_toldNumber 14 = .ok (.if_icmp .eq 11, 3) := dk_159 dg_cX11_toldNumber_1020.1
theorem dX11_toldNumber_17 : decode cX11_toldNumber 17 = .ok (.aload_n 0, 1) := dk_42 dg_cX11_toldNumber_1020.2.1
theorem dX11_toldNumber_18 : decode cX11_toldNumber 18 = .ok (.iconst 2, 1) := dk_5 dg_cX11_toldNumber_1020.2.2.1
theorem dX11_toldNumber_19 : decode cX11_toldNumber 19 = .ok (.invokevirtual 232, 3) := dk_182 dg_cX11_toldNumber_1020.2.2.2.1
theorem dX11_toldNumber_22 : decode cX11_toldNumber 22 = .ok (.goto 24, 3) := dk_167 dg_cX11_toldNumber_1020.2.2.2.2.1
theorem dX11_toldNumber_25 : decode cX11_toldNumber 25 = .ok (.aload_n 0, 1) := dk_42 dg_cX11_toldNumber_1020.2.2.2.2.2.1
theorem dX11_toldNumber_26 : decode cX11_toldNumber 26 = .ok (.getfield 163, 3) := dk_180 dg_cX11_toldNumber_1020.2.2.2.2.2.2.1
theorem dX11_toldNumber_29 : decode cX11_toldNumber 29 = .ok (.iload_n 1, 1) := dk_27 dg_cX11_toldNumber_1020.2.2.2.2.2.2.2
theorem dg_cX11_toldNumber_1021 : ck3s cX11_toldNumber 30 161 11 = true ∧ ck1 cX11_toldNumber 33 42 = true ∧ ck3 cX11_toldNumber 34 180 163 = true ∧ ck1 cX11_toldNumber 37 28 = true ∧ ck3s cX11_toldNumber 38 164 8 = true ∧ ck1 cX11_toldNumber 41 42 = true ∧ ck1 cX11_toldNumber 42 7 = true ∧ ck3 cX11_toldNumber 43 182 232 = true := by decide +kernel
theorem dX11_toldNumber_30 : decode cX11_toldNumber 30 = .ok (.if_icmp .lt 11, 3) := dk_161 dg_cX11_toldNumber_1021.1
theorem dX11_toldNumber_33 : decode cX11_toldNumber 33 = .ok (.aload_n 0, 1) := dk_42 dg_cX11_toldNumber_1021.2.1
theorem dX11_toldNumber_34 : decode cX11_toldNumber 34 = .ok (.getfield 163, 3) := dk_180 dg_cX11_toldNumber_1021.2.2.1
theorem dX11_toldNumber_37 : decode cX11_toldNumber 37 = .ok (.iload_n 2, 1) := dk_28 dg_cX11_toldNumber_1021.2.2.2.1
theorem dX11_toldNumber_38 : decode cX11_toldNumber 38 = .ok (.if_icmp .le 8, 3) := dk_164 dg_cX11_toldNumber_1021.2.2.2.2.1
theorem dX11_toldNumber_41 : decode cX11_toldNumber 41 = .ok (.aload_n 0, 1) := dk_42 dg_cX11_toldNumber_1021.2.2.2.2.2.1
theorem dX11_toldNumber_42 : decode cX11_toldNumber 42 = .ok (.iconst 4, 1) := dk_7 dg_cX11_toldNumber_1021.2.2.2.2.2.2.1
theorem dX11_toldNumber_43 : decode cX11_toldNumber 43 = .ok (.invokevirtual 232, 3) := dk_182 dg_cX11_toldNumber_1021.2.2.2.2.2.2.2
theorem dg_cX11_toldNumber_1022 : ck1 cX11_toldNumber 46 42 = true ∧ ck3 cX11_toldNumber 47 180 163 = true ∧ ck1 cX11_toldNumber 50 62 = true ∧ ck1 cX11_toldNumber 51 42 = true ∧ ck3 cX11_toldNumber 52 180 179 = true ∧ ck3s cX11_toldNumber 55 154 7 = true ∧ ck1 cX11_toldNumber 58 42 = true ∧ ck3 cX11_toldNumber 59 182 235 = true := by decide +kernel
theorem dX11_toldNumber_46 : decode cX11_toldNumber 46 = .ok (.aload_n 0, 1) := dk_42 dg_cX11_toldNumber_1022.1
theorem dX11_toldNumber_47 : decode cX11_toldNumber 47 = .ok (.getfield 163, 3) := dk_180 dg_cX11_toldNumber_1022.2.1
theorem dX11_toldNumber_50 : decode cX11_toldNumber 50 = .ok (.istore_n 3, 1) := dk_62 dg_cX11_toldNumber_1022.2.2.1
theorem dX11_toldNumber_51 : decode cX11_toldNumber 51 = .ok (.aload_n 0, 1) := dk_42 dg_cX11_toldNumber_1022.2.2.2.1
theorem dX11_toldNumber_52 : decode cX11_toldNumber 52 = .ok (.getfield 179, 3) := dk_180 dg_cX11_toldNumber_1022.2.2.2.2.1
theorem dX11_toldNumber_55 : decode cX11_toldNumber 55 = .ok (.ifCond .ne 7, 3) := dk_154 dg_cX11_toldNumber_1022.2.2.2.2.2.1
theorem dX11_toldNumber_58 : decode cX11_toldNumber 58 = .ok (.aload_n 0, 1) := dk_42 dg_cX11_toldNumber_1022.2.2.2.2.2.2.1
theorem dX11_toldNumber_59 : decode cX11_toldNumber 59 = .ok (.invokevirtual 235, 3) := dk_182 dg_cX11_toldNumber_1022.2.2.2.2.2.2.2
theorem dg_cX11_toldNumber_1023 : ck1 cX11_toldNumber 62 29 = true ∧ ck1 cX11_toldNumber 63 172 = true := by decide +kernel
theorem dX11_toldNumber_62 : decode cX11_toldNumber 62 = .ok (.iload_n 3, 1) := dk_29 dg_cX11_toldNumber_1023.1
theorem dX11_toldNumber_63 : decode cX11_toldNumber 63 = .ok (.ireturn, 1) := dk_172 dg_cX11_toldNumber_1023.2
theorem dg_cX11_truth_1024 : ck1 cX11_truth 0 26 = true ∧ ck3s cX11_truth 1 153 7 = true ∧ ck1 cX11_truth 4 4 = true ∧ ck3s cX11_truth 5 167 4 = true ∧ ck1 cX11_truth 8 3 = true ∧ ck1 cX11_truth 9 172 = true := by decide +kernel
theorem dX11_truth_0 : decode cX11_truth 0 = .ok (.iload_n 0, 1) := dk_26 dg_cX11_truth_1024.1
theorem dX11_truth_1 : decode cX11_truth 1 = .ok (.ifCond .eq 7, 3) := dk_153 dg_cX11_truth_1024.2.1
theorem dX11_truth_4 : decode cX11_truth 4 = .ok (.iconst 1, 1) := dk_4 dg_cX11_truth_1024.2.2.1
theorem dX11_truth_5 : decode cX11_truth 5 = .ok (.goto 4, 3) := dk_167 dg_cX11_truth_1024.2.2.2.1
theorem dX11_truth_8 : decode cX11_truth 8 = .ok (.iconst 0, 1) := dk_3 dg_cX11_truth_1024.2.2.2.2.1
theorem dX11_truth_9 : decode cX11_truth 9 = .ok (.ireturn, 1) := dk_172 dg_cX11_truth_1024.2.2.2.2.2
theorem dg_cX11_turn_1025 : ck1 cX11_turn 0 42 = true ∧ ck1 cX11_turn 1 27 = true ∧ ck3 cX11_turn 2 182 455 = true ∧ ck3s cX11_turn 5 153 18 = true ∧ ck1 cX11_turn 8 42 = true ∧ ck3 cX11_turn 9 180 93 = true ∧ ck2s cX11_turn 12 16 36 = true ∧ ck1 cX11_turn 14 46 = true := by decide +kernel
theorem dX11_turn_0 : decode cX11_turn 0 = .ok (.aload_n 0, 1) := dk_42 dg_cX11_turn_1025.1
theorem dX11_turn_1 : decode cX11_turn 1 = .ok (.iload_n 1, 1) := dk_27 dg_cX11_turn_1025.2.1
theorem dX11_turn_2 : decode cX11_turn 2 = .ok (.invokevirtual 455, 3) := dk_182 dg_cX11_turn_1025.2.2.1
theorem dX11_turn_5 : decode cX11_turn 5 = .ok (.ifCond .eq 18, 3) := dk_153 dg_cX11_turn_1025.2.2.2.1
theorem dX11_turn_8 : decode cX11_turn 8 = .ok (.aload_n 0, 1) := dk_42 dg_cX11_turn_1025.2.2.2.2.1
theorem dX11_turn_9 : decode cX11_turn 9 = .ok (.getfield 93, 3) := dk_180 dg_cX11_turn_1025.2.2.2.2.2.1
theorem dX11_turn_12 : decode cX11_turn 12 = .ok (.bipush 36, 2) := dk_16 dg_cX11_turn_1025.2.2.2.2.2.2.1
theorem dX11_turn_14 : decode cX11_turn 14 = .ok (.iaload, 1) := dk_46 dg_cX11_turn_1025.2.2.2.2.2.2.2
theorem dg_cX11_turn_1026 : ck1 cX11_turn 15 27 = true ∧ ck1 cX11_turn 16 122 = true ∧ ck1 cX11_turn 17 4 = true ∧ ck1 cX11_turn 18 126 = true ∧ ck1 cX11_turn 19 4 = true ∧ ck3s cX11_turn 20 160 5 = true ∧ ck1 cX11_turn 23 2 = true ∧ ck1 cX11_turn 24 172 = true := by decide +kernel
theorem dX11_turn_15 : decode cX11_turn 15 = .ok (.iload_n 1, 1) := dk_27 dg_cX11_turn_1026.1
theorem dX11_turn_16 : decode cX11_turn 16 = .ok (.ishr, 1) := dk_122 dg_cX11_turn_1026.2.1
theorem dX11_turn_17 : decode cX11_turn 17 = .ok (.iconst 1, 1) := dk_4 dg_cX11_turn_1026.2.2.1
theorem dX11_turn_18 : decode cX11_turn 18 = .ok (.iand, 1) := dk_126 dg_cX11_turn_1026.2.2.2.1
theorem dX11_turn_19 : decode cX11_turn 19 = .ok (.iconst 1, 1) := dk_4 dg_cX11_turn_1026.2.2.2.2.1
theorem dX11_turn_20 : decode cX11_turn 20 = .ok (.if_icmp .ne 5, 3) := dk_160 dg_cX11_turn_1026.2.2.2.2.2.1
theorem dX11_turn_23 : decode cX11_turn 23 = .ok (.iconst (-1), 1) := dk_2 dg_cX11_turn_1026.2.2.2.2.2.2.1
theorem dX11_turn_24 : decode cX11_turn 24 = .ok (.ireturn, 1) := dk_172 dg_cX11_turn_1026.2.2.2.2.2.2.2
theorem dg_cX11_turn_1027 : ck1 cX11_turn 25 42 = true ∧ ck3 cX11_turn 26 182 458 = true ∧ ck1 cX11_turn 29 42 = true ∧ ck3 cX11_turn 30 180 93 = true ∧ ck2s cX11_turn 33 16 30 = true ∧ ck1 cX11_turn 35 27 = true ∧ ck1 cX11_turn 36 96 = true ∧ ck1 cX11_turn 37 46 = true := by decide +kernel
theorem dX11_turn_25 : decode cX11_turn 25 = .ok (.aload_n 0, 1) := dk_42 dg_cX11_turn_1027.1
theorem dX11_turn_26 : decode cX11_turn 26 = .ok (.invokevirtual 458, 3) := dk_182 dg_cX11_turn_1027.2.1
theorem dX11_turn_29 : decode cX11_turn 29 = .ok (.aload_n 0, 1) := dk_42 dg_cX11_turn_1027.2.2.1
theorem dX11_turn_30 : decode cX11_turn 30 = .ok (.getfield 93, 3) := dk_180 dg_cX11_turn_1027.2.2.2.1
theorem dX11_turn_33 : decode cX11_turn 33 = .ok (.bipush 30, 2) := dk_16 dg_cX11_turn_1027.2.2.2.2.1
theorem dX11_turn_35 : decode cX11_turn 35 = .ok (.iload_n 1, 1) := dk_27 dg_cX11_turn_1027.2.2.2.2.2.1
theorem dX11_turn_36 : decode cX11_turn 36 = .ok (.iadd, 1) := dk_96 dg_cX11_turn_1027.2.2.2.2.2.2.1
theorem dX11_turn_37 : decode cX11_turn 37 = .ok (.iaload, 1) := dk_46 dg_cX11_turn_1027.2.2.2.2.2.2.2
theorem dg_cX11_turn_1028 : ck1 cX11_turn 38 61 = true ∧ ck1 cX11_turn 39 42 = true ∧ ck3 cX11_turn 40 180 93 = true ∧ ck2s cX11_turn 43 16 30 = true ∧ ck1 cX11_turn 45 27 = true ∧ ck1 cX11_turn 46 96 = true ∧ ck1 cX11_turn 47 3 = true ∧ ck1 cX11_turn 48 79 = true := by decide +kernel
theorem dX11_turn_38 : decode cX11_turn 38 = .ok (.istore_n 2, 1) := dk_61 dg_cX11_turn_1028.1
theorem dX11_turn_39 : decode cX11_turn 39 = .ok (.aload_n 0, 1) := dk_42 dg_cX11_turn_1028.2.1
theorem dX11_turn_40 : decode cX11_turn 40 = .ok (.getfield 93, 3) := dk_180 dg_cX11_turn_1028.2.2.1
theorem dX11_turn_43 : decode cX11_turn 43 = .ok (.bipush 30, 2) := dk_16 dg_cX11_turn_1028.2.2.2.1
theorem dX11_turn_45 : decode cX11_turn 45 = .ok (.iload_n 1, 1) := dk_27 dg_cX11_turn_1028.2.2.2.2.1
theorem dX11_turn_46 : decode cX11_turn 46 = .ok (.iadd, 1) := dk_96 dg_cX11_turn_1028.2.2.2.2.2.1
theorem dX11_turn_47 : decode cX11_turn 47 = .ok (.iconst 0, 1) := dk_3 dg_cX11_turn_1028.2.2.2.2.2.2.1
theorem dX11_turn_48 : decode cX11_turn 48 = .ok (.iastore, 1) := dk_79 dg_cX11_turn_1028.2.2.2.2.2.2.2
theorem dg_cX11_turn_1029 : ck1 cX11_turn 49 42 = true ∧ ck3 cX11_turn 50 180 93 = true ∧ ck2s cX11_turn 53 16 36 = true ∧ ck1 cX11_turn 55 92 = true ∧ ck1 cX11_turn 56 46 = true ∧ ck1 cX11_turn 57 4 = true ∧ ck1 cX11_turn 58 27 = true ∧ ck1 cX11_turn 59 120 = true := by decide +kernel
theorem dX11_turn_49 : decode cX11_turn 49 = .ok (.aload_n 0, 1) := dk_42 dg_cX11_turn_1029.1
theorem dX11_turn_50 : decode cX11_turn 50 = .ok (.getfield 93, 3) := dk_180 dg_cX11_turn_1029.2.1
theorem dX11_turn_53 : decode cX11_turn 53 = .ok (.bipush 36, 2) := dk_16 dg_cX11_turn_1029.2.2.1
theorem dX11_turn_55 : decode cX11_turn 55 = .ok (.dup2, 1) := dk_92 dg_cX11_turn_1029.2.2.2.1
theorem dX11_turn_56 : decode cX11_turn 56 = .ok (.iaload, 1) := dk_46 dg_cX11_turn_1029.2.2.2.2.1
theorem dX11_turn_57 : decode cX11_turn 57 = .ok (.iconst 1, 1) := dk_4 dg_cX11_turn_1029.2.2.2.2.2.1
theorem dX11_turn_58 : decode cX11_turn 58 = .ok (.iload_n 1, 1) := dk_27 dg_cX11_turn_1029.2.2.2.2.2.2.1
theorem dX11_turn_59 : decode cX11_turn 59 = .ok (.ishl, 1) := dk_120 dg_cX11_turn_1029.2.2.2.2.2.2.2
theorem dg_cX11_turn_1030 : ck1 cX11_turn 60 128 = true ∧ ck1 cX11_turn 61 79 = true ∧ ck1 cX11_turn 62 28 = true ∧ ck1 cX11_turn 63 172 = true := by decide +kernel
theorem dX11_turn_60 : decode cX11_turn 60 = .ok (.ior, 1) := dk_128 dg_cX11_turn_1030.1
theorem dX11_turn_61 : decode cX11_turn 61 = .ok (.iastore, 1) := dk_79 dg_cX11_turn_1030.2.1
theorem dX11_turn_62 : decode cX11_turn 62 = .ok (.iload_n 2, 1) := dk_28 dg_cX11_turn_1030.2.2.1
theorem dX11_turn_63 : decode cX11_turn 63 = .ok (.ireturn, 1) := dk_172 dg_cX11_turn_1030.2.2.2
theorem dg_cX11_turning_1031 : ck1 cX11_turning 0 2 = true ∧ ck1 cX11_turning 1 60 = true ∧ ck1 cX11_turning 2 2 = true ∧ ck1 cX11_turning 3 61 = true ∧ ck1 cX11_turning 4 3 = true ∧ ck1 cX11_turning 5 62 = true ∧ ck1 cX11_turning 6 29 = true ∧ ck1 cX11_turning 7 42 = true := by decide +kernel
theorem dX11_turning_0 : decode cX11_turning 0 = .ok (.iconst (-1), 1) := dk_2 dg_cX11_turning_1031.1
theorem dX11_turning_1 : decode cX11_turning 1 = .ok (.istore_n 1, 1) := dk_60 dg_cX11_turning_1031.2.1
theorem dX11_turning_2 : decode cX11_turning 2 = .ok (.iconst (-1), 1) := dk_2 dg_cX11_turning_1031.2.2.1
theorem dX11_turning_3 : decode cX11_turning 3 = .ok (.istore_n 2, 1) := dk_61 dg_cX11_turning_1031.2.2.2.1
theorem dX11_turning_4 : decode cX11_turning 4 = .ok (.iconst 0, 1) := dk_3 dg_cX11_turning_1031.2.2.2.2.1
theorem dX11_turning_5 : decode cX11_turning 5 = .ok (.istore_n 3, 1) := dk_62 dg_cX11_turning_1031.2.2.2.2.2.1
theorem dX11_turning_6 : decode cX11_turning 6 = .ok (.iload_n 3, 1) := dk_29 dg_cX11_turning_1031.2.2.2.2.2.2.1
theorem dX11_turning_7 : decode cX11_turning 7 = .ok (.aload_n 0, 1) := dk_42 dg_cX11_turning_1031.2.2.2.2.2.2.2
theorem dg_cX11_turning_1032 : ck3 cX11_turning 8 180 390 = true ∧ ck3s cX11_turning 11 162 64 = true ∧ ck1 cX11_turning 14 42 = true ∧ ck3 cX11_turning 15 182 449 = true ∧ ck1 cX11_turning 18 42 = true ∧ ck3 cX11_turning 19 180 96 = true ∧ ck2s cX11_turning 22 16 36 = true ∧ ck1 cX11_turning 24 46 = true := by decide +kernel
theorem dX11_turning_8 : decode cX11_turning 8 = .ok (.getfield 390, 3) := dk_180 dg_cX11_turning_1032.1
theorem dX11_turning_11 : decode cX11_turning 11 = .ok (.if_icmp .ge 64, 3) := dk_162 dg_cX11_turning_1032.2.1
theorem dX11_turning_14 : decode cX11_turning 14 = .ok (.aload_n 0, 1) := dk_42 dg_cX11_turning_1032.2.2.1
theorem dX11_turning_15 : decode cX11_turning 15 = .ok (.invokevirtual 449, 3) := dk_182 dg_cX11_turning_1032.2.2.2.1
theorem dX11_turning_18 : decode cX11_turning 18 = .ok (.aload_n 0, 1) := dk_42 dg_cX11_turning_1032.2.2.2.2.1
theorem dX11_turning_19 : decode cX11_turning 19 = .ok (.getfield 96, 3) := dk_180 dg_cX11_turning_1032.2.2.2.2.2.1
theorem dX11_turning_22 : decode cX11_turning 22 = .ok (.bipush 36, 2) := dk_16 dg_cX11_turning_1032.2.2.2.2.2.2.1
theorem dX11_turning_24 : decode cX11_turning 24 = .ok (.iaload, 1) := dk_46 dg_cX11_turning_1032.2.2.2.2.2.2.2
theorem dg_cX11_turning_1033 : ck1 cX11_turning 25 29 = true ∧ ck1 cX11_turning 26 122 = true ∧ ck1 cX11_turning 27 4 = true ∧ ck1 cX11_turning 28 126 = true ∧ ck1 cX11_turning 29 4 = true ∧ ck3s cX11_turning 30 160 6 = true ∧ ck3s cX11_turning 33 167 36 = true ∧ ck1 cX11_turning 36 42 = true := by decide +kernel
theorem dX11_turning_25 : decode cX11_turning 25 = .ok (.iload_n 3, 1) := dk_29 dg_cX11_turning_1033.1
theorem dX11_turning_26 : decode cX11_turning 26 = .ok (.ishr, 1) := dk_122 dg_cX11_turning_1033.2.1
theorem dX11_turning_27 : decode cX11_turning 27 = .ok (.iconst 1, 1) := dk_4 dg_cX11_turning_1033.2.2.1
theorem dX11_turning_28 : decode cX11_turning 28 = .ok (.iand, 1) := dk_126 dg_cX11_turning_1033.2.2.2.1
theorem dX11_turning_29 : decode cX11_turning 29 = .ok (.iconst 1, 1) := dk_4 dg_cX11_turning_1033.2.2.2.2.1
theorem dX11_turning_30 : decode cX11_turning 30 = .ok (.if_icmp .ne 6, 3) := dk_160 dg_cX11_turning_1033.2.2.2.2.2.1
theorem dX11_turning_33 : decode cX11_turning 33 = .ok (.goto 36, 3) := dk_167 dg_cX11_turning_1033.2.2.2.2.2.2.1
theorem dX11_turning_36 : decode cX11_turning 36 = .ok (.aload_n 0, 1) := dk_42 dg_cX11_turning_1033.2.2.2.2.2.2.2
theorem dg_cX11_turning_1034 : ck3 cX11_turning 37 180 96 = true ∧ ck2s cX11_turning 40 16 30 = true ∧ ck1 cX11_turning 42 29 = true ∧ ck1 cX11_turning 43 96 = true ∧ ck1 cX11_turning 44 3 = true ∧ ck1 cX11_turning 45 79 = true ∧ ck1 cX11_turning 46 42 = true ∧ ck3 cX11_turning 47 182 443 = true := by decide +kernel
theorem dX11_turning_37 : decode cX11_turning 37 = .ok (.getfield 96, 3) := dk_180 dg_cX11_turning_1034.1
theorem dX11_turning_40 : decode cX11_turning 40 = .ok (.bipush 30, 2) := dk_16 dg_cX11_turning_1034.2.1
theorem dX11_turning_42 : decode cX11_turning 42 = .ok (.iload_n 3, 1) := dk_29 dg_cX11_turning_1034.2.2.1
theorem dX11_turning_43 : decode cX11_turning 43 = .ok (.iadd, 1) := dk_96 dg_cX11_turning_1034.2.2.2.1
theorem dX11_turning_44 : decode cX11_turning 44 = .ok (.iconst 0, 1) := dk_3 dg_cX11_turning_1034.2.2.2.2.1
theorem dX11_turning_45 : decode cX11_turning 45 = .ok (.iastore, 1) := dk_79 dg_cX11_turning_1034.2.2.2.2.2.1
theorem dX11_turning_46 : decode cX11_turning 46 = .ok (.aload_n 0, 1) := dk_42 dg_cX11_turning_1034.2.2.2.2.2.2.1
theorem dX11_turning_47 : decode cX11_turning 47 = .ok (.invokevirtual 443, 3) := dk_182 dg_cX11_turning_1034.2.2.2.2.2.2.2
theorem dg_cX11_turning_1035 : ck3 cX11_turning 50 184 486 = true ∧ ck2 cX11_turning 53 54 4 = true ∧ ck2 cX11_turning 55 21 4 = true ∧ ck1 cX11_turning 57 28 = true ∧ ck3s cX11_turning 58 163 6 = true ∧ ck3s cX11_turning 61 167 8 = true := by decide +kernel
theorem dX11_turning_50 : decode cX11_turning 50 = .ok (.invokestatic 486, 3) := dk_184 dg_cX11_turning_1035.1
theorem dX11_turning_53 : decode cX11_turning 53 = .ok (.istore 4, 2) := dk_54 dg_cX11_turning_1035.2.1
theorem dX11_turning_55 : decode cX11_turning 55 = .ok (.iload 4, 2) := dk_21 dg_cX11_turning_1035.2.2.1
theorem dX11_turning_57 : decode cX11_turning 57 = .ok (.iload_n 2, 1) := dk_28 dg_cX11_turning_1035.2.2.2.1
theorem dX11_turning_58 : decode cX11_turning 58 = .ok (.if_icmp .gt 6, 3) := dk_163 dg_cX11_turning_1035.2.2.2.2.1
theorem dX11_turning_61 : decode cX11_turning 61 = .ok (.goto 8, 3) := dk_167 dg_cX11_turning_1035.2.2.2.2.2
def dS_cX11_turning_1 : List UInt8 := 29 :: 60 :: 21 :: 4 :: 61 :: 132 :: 3 :: 1 :: 167 :: 255 :: 190 :: 27 :: 172 :: []
def dS_cX11_turning_0 : List UInt8 := 2 :: 60 :: 2 :: 61 :: 3 :: 62 :: 29 :: 42 :: 180 :: 1 :: 134 :: 162 :: 0 :: 64 :: 42 :: 182 :: 1 :: 193 :: 42 :: 180 :: 0 :: 96 :: 16 :: 36 :: 46 :: 29 :: 122 :: 4 :: 126 :: 4 :: 160 :: 0 :: 6 :: 167 :: 0 :: 36 :: 42 :: 180 :: 0 :: 96 :: 16 :: 30 :: 29 :: 96 :: 3 :: 79 :: 42 :: 182 :: 1 :: 187 :: 184 :: 1 :: 230 :: 54 :: 4 :: 21 :: 4 :: 28 :: 163 :: 0 :: 6 :: 167 :: 0 :: 8 :: dS_cX11_turning_1
theorem dT_cX11_turning_0 : cX11_turning.data.toList.drop 0 = dS_cX11_turning_0 := by decide +kernel
theorem dT_cX11_turning_1 : cX11_turning.data.toList.drop 64 = dS_cX11_turning_1 := ck_nx dT_cX11_turning_0 (by decide +kernel) rfl
theorem dg_cX11_turning_1036 : ck1L dS_cX11_turning_1 0 29 = true ∧ ck1L dS_cX11_turning_1 1 60 = true ∧ ck2L dS_cX11_turning_1 2 21 4 = true ∧ ck1L dS_cX11_turning_1 4 61 = true ∧ ck3iL dS_cX11_turning_1 5 132 3 1 = true ∧ ck3sL dS_cX11_turning_1 8 167 (-66) = true ∧ ck1L dS_cX11_turning_1 11 27 = true ∧ ck1L dS_cX11_turning_1 12 172 = true := by decide +kernel
theorem dX11_turning_64 : decode cX11_turning 64 = .ok (.iload_n 3, 1) := dk_29 (ck1_s (r := 0) dT_cX11_turning_1 rfl dg_cX11_turning_1036.1)
theorem dX11_turning_65 : decode cX11_turning 65 = .ok (.istore_n 1, 1) := dk_60 (ck1_s (r := 1) dT_cX11_turning_1 rfl dg_cX11_turning_1036.2.1)
theorem dX11_turning_66 : decode cX11_turning 66 = .ok (.iload 4, 2) := dk_21 (ck2_s (r := 2) dT_cX11_turning_1 rfl dg_cX11_turning_1036.2.2.1)
theorem dX11_turning_68 : decode cX11_turning 68 = .ok (.istore_n 2, 1) := dk_61 (ck1_s (r := 4) dT_cX11_turning_1 rfl dg_cX11_turning_1036.2.2.2.1)
theorem dX11_turning_69 : decode cX11_turning 69 = .ok (.iinc 3 1, 3) := dk_132 (ck3i_s (r := 5) dT_cX11_turning_1 rfl dg_cX11_turning_1036.2.2.2.2.1)
theorem dX11_turning_72 : decode cX11_turning 72 = .ok (.goto (-66), 3) := dk_167 (ck3s_s (r := 8) dT_cX11_turning_1 rfl dg_cX11_turning_1036.2.2.2.2.2.1)
theorem dX11_turning_75 : decode cX11_turning 75 = .ok (.iload_n 1, 1) := dk_27 (ck1_s (r := 11) dT_cX11_turning_1 rfl dg_cX11_turning_1036.2.2.2.2.2.2.1)
theorem dX11_turning_76 : decode cX11_turning 76 = .ok (.ireturn, 1) := dk_172 (ck1_s (r := 12) dT_cX11_turning_1 rfl dg_cX11_turning_1036.2.2.2.2.2.2.2)
theorem dg_cX11_undo_1037 : ck1 cX11_undo 0 42 = true ∧ ck3 cX11_undo 1 180 405 = true ∧ ck3s cX11_undo 4 154 5 = true ∧ ck1 cX11_undo 7 3 = true ∧ ck1 cX11_undo 8 172 = true ∧ ck1 cX11_undo 9 42 = true ∧ ck1 cX11_undo 10 89 = true ∧ ck3 cX11_undo 11 180 405 = true := by decide +kernel
theorem dX11_undo_0 : decode cX11_undo 0 = .ok (.aload_n 0, 1) := dk_42 dg_cX11_undo_1037.1
theorem dX11_undo_1 : decode cX11_undo 1 = .ok (.getfield 405, 3) := dk_180 dg_cX11_undo_1037.2.1
theorem dX11_undo_4 : decode cX11_undo 4 = .ok (.ifCond .ne 5, 3) := dk_154 dg_cX11_undo_1037.2.2.1
theorem dX11_undo_7 : decode cX11_undo 7 = .ok (.iconst 0, 1) := dk_3 dg_cX11_undo_1037.2.2.2.1
theorem dX11_undo_8 : decode cX11_undo 8 = .ok (.ireturn, 1) := dk_172 dg_cX11_undo_1037.2.2.2.2.1
theorem dX11_undo_9 : decode cX11_undo 9 = .ok (.aload_n 0, 1) := dk_42 dg_cX11_undo_1037.2.2.2.2.2.1
theorem dX11_undo_10 : decode cX11_undo 10 = .ok (.dup, 1) := dk_89 dg_cX11_undo_1037.2.2.2.2.2.2.1
theorem dX11_undo_11 : decode cX11_undo 11 = .ok (.getfield 405, 3) := dk_180 dg_cX11_undo_1037.2.2.2.2.2.2.2
theorem dg_cX11_undo_1038 : ck1 cX11_undo 14 4 = true ∧ ck1 cX11_undo 15 100 = true ∧ ck3 cX11_undo 16 181 405 = true ∧ ck1 cX11_undo 19 42 = true ∧ ck1 cX11_undo 20 89 = true ∧ ck3 cX11_undo 21 180 408 = true ∧ ck1 cX11_undo 24 4 = true ∧ ck1 cX11_undo 25 96 = true := by decide +kernel
theorem dX11_undo_14 : decode cX11_undo 14 = .ok (.iconst 1, 1) := dk_4 dg_cX11_undo_1038.1
theorem dX11_undo_15 : decode cX11_undo 15 = .ok (.isub, 1) := dk_100 dg_cX11_undo_1038.2.1
theorem dX11_undo_16 : decode cX11_undo 16 = .ok (.putfield 405, 3) := dk_181 dg_cX11_undo_1038.2.2.1
theorem dX11_undo_19 : decode cX11_undo 19 = .ok (.aload_n 0, 1) := dk_42 dg_cX11_undo_1038.2.2.2.1
theorem dX11_undo_20 : decode cX11_undo 20 = .ok (.dup, 1) := dk_89 dg_cX11_undo_1038.2.2.2.2.1
theorem dX11_undo_21 : decode cX11_undo 21 = .ok (.getfield 408, 3) := dk_180 dg_cX11_undo_1038.2.2.2.2.2.1
theorem dX11_undo_24 : decode cX11_undo 24 = .ok (.iconst 1, 1) := dk_4 dg_cX11_undo_1038.2.2.2.2.2.2.1
theorem dX11_undo_25 : decode cX11_undo 25 = .ok (.iadd, 1) := dk_96 dg_cX11_undo_1038.2.2.2.2.2.2.2
theorem dg_cX11_undo_1039 : ck3 cX11_undo 26 181 408 = true ∧ ck1 cX11_undo 29 42 = true ∧ ck2s cX11_undo 30 16 39 = true ∧ ck1 cX11_undo 32 42 = true ∧ ck3 cX11_undo 33 180 405 = true ∧ ck1 cX11_undo 36 104 = true ∧ ck3 cX11_undo 37 182 467 = true ∧ ck1 cX11_undo 40 4 = true := by decide +kernel
theorem dX11_undo_26 : decode cX11_undo 26 = .ok (.putfield 408, 3) := dk_181 dg_cX11_undo_1039.1
theorem dX11_undo_29 : decode cX11_undo 29 = .ok (.aload_n 0, 1) := dk_42 dg_cX11_undo_1039.2.1
theorem dX11_undo_30 : decode cX11_undo 30 = .ok (.bipush 39, 2) := dk_16 dg_cX11_undo_1039.2.2.1
theorem dX11_undo_32 : decode cX11_undo 32 = .ok (.aload_n 0, 1) := dk_42 dg_cX11_undo_1039.2.2.2.1
theorem dX11_undo_33 : decode cX11_undo 33 = .ok (.getfield 405, 3) := dk_180 dg_cX11_undo_1039.2.2.2.2.1
theorem dX11_undo_36 : decode cX11_undo 36 = .ok (.imul, 1) := dk_104 dg_cX11_undo_1039.2.2.2.2.2.1
theorem dX11_undo_37 : decode cX11_undo 37 = .ok (.invokevirtual 467, 3) := dk_182 dg_cX11_undo_1039.2.2.2.2.2.2.1
theorem dX11_undo_40 : decode cX11_undo 40 = .ok (.iconst 1, 1) := dk_4 dg_cX11_undo_1039.2.2.2.2.2.2.2
theorem dg_cX11_undo_1040 : ck1 cX11_undo 41 172 = true := by decide +kernel
theorem dX11_undo_41 : decode cX11_undo 41 = .ok (.ireturn, 1) := dk_172 dg_cX11_undo_1040
theorem dg_cX11_unit_1041 : ck1 cX11_unit 0 4 = true ∧ ck1 cX11_unit 1 60 = true ∧ ck1 cX11_unit 2 27 = true ∧ ck3s cX11_unit 3 153 98 = true ∧ ck1 cX11_unit 6 42 = true ∧ ck3 cX11_unit 7 180 179 = true ∧ ck3s cX11_unit 10 154 91 = true ∧ ck1 cX11_unit 13 42 = true := by decide +kernel
theorem dX11_unit_0 : decode cX11_unit 0 = .ok (.iconst 1, 1) := dk_4 dg_cX11_unit_1041.1
theorem dX11_unit_1 : decode cX11_unit 1 = .ok (.istore_n 1, 1) := dk_60 dg_cX11_unit_1041.2.1
theorem dX11_unit_2 : decode cX11_unit 2 = .ok (.iload_n 1, 1) := dk_27 dg_cX11_unit_1041.2.2.1
theorem dX11_unit_3 : decode cX11_unit 3 = .ok (.ifCond .eq 98, 3) := dk_153 dg_cX11_unit_1041.2.2.2.1
theorem dX11_unit_6 : decode cX11_unit 6 = .ok (.aload_n 0, 1) := dk_42 dg_cX11_unit_1041.2.2.2.2.1
theorem dX11_unit_7 : decode cX11_unit 7 = .ok (.getfield 179, 3) := dk_180 dg_cX11_unit_1041.2.2.2.2.2.1
theorem dX11_unit_10 : decode cX11_unit 10 = .ok (.ifCond .ne 91, 3) := dk_154 dg_cX11_unit_1041.2.2.2.2.2.2.1
theorem dX11_unit_13 : decode cX11_unit 13 = .ok (.aload_n 0, 1) := dk_42 dg_cX11_unit_1041.2.2.2.2.2.2.2
theorem dg_cX11_unit_1042 : ck3 cX11_unit 14 20 222 = true ∧ ck3 cX11_unit 17 182 228 = true ∧ ck3s cX11_unit 20 153 33 = true ∧ ck1 cX11_unit 23 42 = true ∧ ck3 cX11_unit 24 182 275 = true ∧ ck3s cX11_unit 27 153 26 = true ∧ ck1 cX11_unit 30 42 = true ∧ ck3 cX11_unit 31 180 266 = true := by decide +kernel
theorem dX11_unit_14 : decode cX11_unit 14 = .ok (.ldc2_w 222, 3) := dk_20 dg_cX11_unit_1042.1
theorem dX11_unit_17 : decode cX11_unit 17 = .ok (.invokevirtual 228, 3) := dk_182 dg_cX11_unit_1042.2.1
theorem dX11_unit_20 : decode cX11_unit 20 = .ok (.ifCond .eq 33, 3) := dk_153 dg_cX11_unit_1042.2.2.1
theorem dX11_unit_23 : decode cX11_unit 23 = .ok (.aload_n 0, 1) := dk_42 dg_cX11_unit_1042.2.2.2.1
theorem dX11_unit_24 : decode cX11_unit 24 = .ok (.invokevirtual 275, 3) := dk_182 dg_cX11_unit_1042.2.2.2.2.1
theorem dX11_unit_27 : decode cX11_unit 27 = .ok (.ifCond .eq 26, 3) := dk_153 dg_cX11_unit_1042.2.2.2.2.2.1
theorem dX11_unit_30 : decode cX11_unit 30 = .ok (.aload_n 0, 1) := dk_42 dg_cX11_unit_1042.2.2.2.2.2.2.1
theorem dX11_unit_31 : decode cX11_unit 31 = .ok (.getfield 266, 3) := dk_180 dg_cX11_unit_1042.2.2.2.2.2.2.2
theorem dg_cX11_unit_1043 : ck2s cX11_unit 34 16 6 = true ∧ ck3s cX11_unit 36 164 8 = true ∧ ck1 cX11_unit 39 42 = true ∧ ck1 cX11_unit 40 5 = true ∧ ck3 cX11_unit 41 182 232 = true ∧ ck1 cX11_unit 44 42 = true ∧ ck2s cX11_unit 45 16 21 = true ∧ ck3 cX11_unit 47 182 278 = true := by decide +kernel
theorem dX11_unit_34 : decode cX11_unit 34 = .ok (.bipush 6, 2) := dk_16 dg_cX11_unit_1043.1
theorem dX11_unit_36 : decode cX11_unit 36 = .ok (.if_icmp .le 8, 3) := dk_164 dg_cX11_unit_1043.2.1
theorem dX11_unit_39 : decode cX11_unit 39 = .ok (.aload_n 0, 1) := dk_42 dg_cX11_unit_1043.2.2.1
theorem dX11_unit_40 : decode cX11_unit 40 = .ok (.iconst 2, 1) := dk_5 dg_cX11_unit_1043.2.2.2.1
theorem dX11_unit_41 : decode cX11_unit 41 = .ok (.invokevirtual 232, 3) := dk_182 dg_cX11_unit_1043.2.2.2.2.1
theorem dX11_unit_44 : decode cX11_unit 44 = .ok (.aload_n 0, 1) := dk_42 dg_cX11_unit_1043.2.2.2.2.2.1
theorem dX11_unit_45 : decode cX11_unit 45 = .ok (.bipush 21, 2) := dk_16 dg_cX11_unit_1043.2.2.2.2.2.2.1
theorem dX11_unit_47 : decode cX11_unit 47 = .ok (.invokevirtual 278, 3) := dk_182 dg_cX11_unit_1043.2.2.2.2.2.2.2
theorem dg_cX11_unit_1044 : ck3s cX11_unit 50 167 (-48) = true ∧ ck1 cX11_unit 53 42 = true ∧ ck3 cX11_unit 54 180 166 = true ∧ ck2s cX11_unit 57 16 40 = true ∧ ck3s cX11_unit 59 160 37 = true ∧ ck1 cX11_unit 62 42 = true ∧ ck3 cX11_unit 63 182 281 = true := by decide +kernel
theorem dX11_unit_50 : decode cX11_unit 50 = .ok (.goto (-48), 3) := dk_167 dg_cX11_unit_1044.1
theorem dX11_unit_53 : decode cX11_unit 53 = .ok (.aload_n 0, 1) := dk_42 dg_cX11_unit_1044.2.1
theorem dX11_unit_54 : decode cX11_unit 54 = .ok (.getfield 166, 3) := dk_180 dg_cX11_unit_1044.2.2.1
theorem dX11_unit_57 : decode cX11_unit 57 = .ok (.bipush 40, 2) := dk_16 dg_cX11_unit_1044.2.2.2.1
theorem dX11_unit_59 : decode cX11_unit 59 = .ok (.if_icmp .ne 37, 3) := dk_160 dg_cX11_unit_1044.2.2.2.2.1
theorem dX11_unit_62 : decode cX11_unit 62 = .ok (.aload_n 0, 1) := dk_42 dg_cX11_unit_1044.2.2.2.2.2.1
theorem dX11_unit_63 : decode cX11_unit 63 = .ok (.invokevirtual 281, 3) := dk_182 dg_cX11_unit_1044.2.2.2.2.2.2
def dS_cX11_unit_2 : List UInt8 := 1 :: 25 :: 153 :: 0 :: 8 :: 42 :: 5 :: 182 :: 0 :: 232 :: 42 :: 180 :: 0 :: 179 :: 158 :: 0 :: 4 :: 177 :: 42 :: 182 :: 1 :: 28 :: 42 :: 28 :: 156 :: 0 :: 7 :: 3 :: 167 :: 0 :: 4 :: 4 :: 28 :: 156 :: 0 :: 10 :: 42 :: 180 :: 0 :: 163 :: 167 :: 0 :: 4 :: 28 :: 182 :: 1 :: 6 :: 42 :: 182 :: 0 :: 235 :: 177 :: []
def dS_cX11_unit_1 : List UInt8 := 1 :: 25 :: 154 :: 0 :: 12 :: 42 :: 180 :: 1 :: 10 :: 16 :: 6 :: 164 :: 0 :: 8 :: 42 :: 5 :: 182 :: 0 :: 232 :: 42 :: 182 :: 1 :: 28 :: 42 :: 16 :: 20 :: 182 :: 1 :: 22 :: 167 :: 255 :: 165 :: 3 :: 60 :: 167 :: 255 :: 160 :: 42 :: 180 :: 0 :: 179 :: 158 :: 0 :: 4 :: 177 :: 42 :: 182 :: 1 :: 31 :: 61 :: 42 :: 180 :: 0 :: 166 :: 5 :: 159 :: 0 :: 7 :: 28 :: 155 :: 0 :: 10 :: 42 :: 182 :: dS_cX11_unit_2
def dS_cX11_unit_0 : List UInt8 := 4 :: 60 :: 27 :: 153 :: 0 :: 98 :: 42 :: 180 :: 0 :: 179 :: 154 :: 0 :: 91 :: 42 :: 20 :: 0 :: 222 :: 182 :: 0 :: 228 :: 153 :: 0 :: 33 :: 42 :: 182 :: 1 :: 19 :: 153 :: 0 :: 26 :: 42 :: 180 :: 1 :: 10 :: 16 :: 6 :: 164 :: 0 :: 8 :: 42 :: 5 :: 182 :: 0 :: 232 :: 42 :: 16 :: 21 :: 182 :: 1 :: 22 :: 167 :: 255 :: 208 :: 42 :: 180 :: 0 :: 166 :: 16 :: 40 :: 160 :: 0 :: 37 :: 42 :: 182 :: dS_cX11_unit_1
theorem dT_cX11_unit_0 : cX11_unit.data.toList.drop 0 = dS_cX11_unit_0 := by decide +kernel
theorem dT_cX11_unit_1 : cX11_unit.data.toList.drop 64 = dS_cX11_unit_1 := ck_nx dT_cX11_unit_0 (by decide +kernel) rfl
theorem dT_cX11_unit_2 : cX11_unit.data.toList.drop 128 = dS_cX11_unit_2 := ck_nx dT_cX11_unit_1 (by decide +kernel) rfl
theorem dg_cX11_unit_1045 : ck3sL dS_cX11_unit_1 2 154 12 = true ∧ ck1L dS_cX11_unit_1 5 42 = true ∧ ck3L dS_cX11_unit_1 6 180 266 = true ∧ ck2sL dS_cX11_unit_1 9 16 6 = true ∧ ck3sL dS_cX11_unit_1 11 164 8 = true ∧ ck1L dS_cX11_unit_1 14 42 = true ∧ ck1L dS_cX11_unit_1 15 5 = true ∧ ck3L dS_cX11_unit_1 16 182 232 = true := by decide +kernel
theorem dX11_unit_66 : decode cX11_unit 66 = .ok (.ifCond .ne 12, 3) := dk_154 (ck3s_s (r := 2) dT_cX11_unit_1 rfl dg_cX11_unit_1045.1)
theorem dX11_unit_69 : decode cX11_unit 69 = .ok (.aload_n 0, 1) := dk_42 (ck1_s (r := 5) dT_cX11_unit_1 rfl dg_cX11_unit_1045.2.1)
theorem dX11_unit_70 : decode cX11_unit 70 = .ok (.getfield 266, 3) := dk_180 (ck3_s (r := 6) dT_cX11_unit_1 rfl dg_cX11_unit_1045.2.2.1)
theorem dX11_unit_73 : decode cX11_unit 73 = .ok (.bipush 6, 2) := dk_16 (ck2s_s (r := 9) dT_cX11_unit_1 rfl dg_cX11_unit_1045.2.2.2.1)
theorem dX11_unit_75 : decode cX11_unit 75 = .ok (.if_icmp .le 8, 3) := dk_164 (ck3s_s (r := 11) dT_cX11_unit_1 rfl dg_cX11_unit_1045.2.2.2.2.1)
theorem dX11_unit_78 : decode cX11_unit 78 = .ok (.aload_n 0, 1) := dk_42 (ck1_s (r := 14) dT_cX11_unit_1 rfl dg_cX11_unit_1045.2.2.2.2.2.1)
theorem dX11_unit_79 : decode cX11_unit 79 = .ok (.iconst 2, 1) := dk_5 (ck1_s (r := 15) dT_cX11_unit_1 rfl dg_cX11_unit_1045.2.2.2.2.2.2.1)
theorem dX11_unit_80 : decode cX11_unit 80 = .ok (.invokevirtual 232, 3) := dk_182 (ck3_s (r := 16) dT_cX11_unit_1 rfl dg_cX11_unit_1045.2.2.2.2.2.2.2)
theorem dg_cX11_unit_1046 : ck1L dS_cX11_unit_1 19 42 = true ∧ ck3L dS_cX11_unit_1 20 182 284 = true ∧ ck1L dS_cX11_unit_1 23 42 = true ∧ ck2sL dS_cX11_unit_1 24 16 20 = true ∧ ck3L dS_cX11_unit_1 26 182 278 = true ∧ ck3sL dS_cX11_unit_1 29 167 (-91) = true ∧ ck1L dS_cX11_unit_1 32 3 = true ∧ ck1L dS_cX11_unit_1 33 60 = true := by decide +kernel
theorem dX11_unit_83 : decode cX11_unit 83 = .ok (.aload_n 0, 1) := dk_42 (ck1_s (r := 19) dT_cX11_unit_1 rfl dg_cX11_unit_1046.1)
theorem dX11_unit_84 : decode cX11_unit 84 = .ok (.invokevirtual 284, 3) := dk_182 (ck3_s (r := 20) dT_cX11_unit_1 rfl dg_cX11_unit_1046.2.1)
theorem dX11_unit_87 : decode cX11_unit 87 = .ok (.aload_n 0, 1) := dk_42 (ck1_s (r := 23) dT_cX11_unit_1 rfl dg_cX11_unit_1046.2.2.1)
theorem dX11_unit_88 : decode cX11_unit 88 = .ok (.bipush 20, 2) := dk_16 (ck2s_s (r := 24) dT_cX11_unit_1 rfl dg_cX11_unit_1046.2.2.2.1)
theorem dX11_unit_90 : decode cX11_unit 90 = .ok (.invokevirtual 278, 3) := dk_182 (ck3_s (r := 26) dT_cX11_unit_1 rfl dg_cX11_unit_1046.2.2.2.2.1)
theorem dX11_unit_93 : decode cX11_unit 93 = .ok (.goto (-91), 3) := dk_167 (ck3s_s (r := 29) dT_cX11_unit_1 rfl dg_cX11_unit_1046.2.2.2.2.2.1)
theorem dX11_unit_96 : decode cX11_unit 96 = .ok (.iconst 0, 1) := dk_3 (ck1_s (r := 32) dT_cX11_unit_1 rfl dg_cX11_unit_1046.2.2.2.2.2.2.1)
theorem dX11_unit_97 : decode cX11_unit 97 = .ok (.istore_n 1, 1) := dk_60 (ck1_s (r := 33) dT_cX11_unit_1 rfl dg_cX11_unit_1046.2.2.2.2.2.2.2)
theorem dg_cX11_unit_1047 : ck3sL dS_cX11_unit_1 34 167 (-96) = true ∧ ck1L dS_cX11_unit_1 37 42 = true ∧ ck3L dS_cX11_unit_1 38 180 179 = true ∧ ck3sL dS_cX11_unit_1 41 158 4 = true ∧ ck1L dS_cX11_unit_1 44 177 = true ∧ ck1L dS_cX11_unit_1 45 42 = true ∧ ck3L dS_cX11_unit_1 46 182 287 = true ∧ ck1L dS_cX11_unit_1 49 61 = true := by decide +kernel
theorem dX11_unit_98 : decode cX11_unit 98 = .ok (.goto (-96), 3) := dk_167 (ck3s_s (r := 34) dT_cX11_unit_1 rfl dg_cX11_unit_1047.1)
theorem dX11_unit_101 : decode cX11_unit 101 = .ok (.aload_n 0, 1) := dk_42 (ck1_s (r := 37) dT_cX11_unit_1 rfl dg_cX11_unit_1047.2.1)
theorem dX11_unit_102 : decode cX11_unit 102 = .ok (.getfield 179, 3) := dk_180 (ck3_s (r := 38) dT_cX11_unit_1 rfl dg_cX11_unit_1047.2.2.1)
theorem dX11_unit_105 : decode cX11_unit 105 = .ok (.ifCond .le 4, 3) := dk_158 (ck3s_s (r := 41) dT_cX11_unit_1 rfl dg_cX11_unit_1047.2.2.2.1)
theorem dX11_unit_108 : decode cX11_unit 108 = .ok (.return_, 1) := dk_177 (ck1_s (r := 44) dT_cX11_unit_1 rfl dg_cX11_unit_1047.2.2.2.2.1)
theorem dX11_unit_109 : decode cX11_unit 109 = .ok (.aload_n 0, 1) := dk_42 (ck1_s (r := 45) dT_cX11_unit_1 rfl dg_cX11_unit_1047.2.2.2.2.2.1)
theorem dX11_unit_110 : decode cX11_unit 110 = .ok (.invokevirtual 287, 3) := dk_182 (ck3_s (r := 46) dT_cX11_unit_1 rfl dg_cX11_unit_1047.2.2.2.2.2.2.1)
theorem dX11_unit_113 : decode cX11_unit 113 = .ok (.istore_n 2, 1) := dk_61 (ck1_s (r := 49) dT_cX11_unit_1 rfl dg_cX11_unit_1047.2.2.2.2.2.2.2)
theorem dg_cX11_unit_1048 : ck1L dS_cX11_unit_1 50 42 = true ∧ ck3L dS_cX11_unit_1 51 180 166 = true ∧ ck1L dS_cX11_unit_1 54 5 = true ∧ ck3sL dS_cX11_unit_1 55 159 7 = true ∧ ck1L dS_cX11_unit_1 58 28 = true ∧ ck3sL dS_cX11_unit_1 59 155 10 = true ∧ ck1L dS_cX11_unit_1 62 42 = true ∧ ck3L dS_cX11_unit_1 63 182 281 = true := by decide +kernel
theorem dX11_unit_114 : decode cX11_unit 114 = .ok (.aload_n 0, 1) := dk_42 (ck1_s (r := 50) dT_cX11_unit_1 rfl dg_cX11_unit_1048.1)
theorem dX11_unit_115 : decode cX11_unit 115 = .ok (.getfield 166, 3) := dk_180 (ck3_s (r := 51) dT_cX11_unit_1 rfl dg_cX11_unit_1048.2.1)
theorem dX11_unit_118 : decode cX11_unit 118 = .ok (.iconst 2, 1) := dk_5 (ck1_s (r := 54) dT_cX11_unit_1 rfl dg_cX11_unit_1048.2.2.1)
theorem dX11_unit_119 : decode cX11_unit 119 = .ok (.if_icmp .eq 7, 3) := dk_159 (ck3s_s (r := 55) dT_cX11_unit_1 rfl dg_cX11_unit_1048.2.2.2.1)
theorem dX11_unit_122 : decode cX11_unit 122 = .ok (.iload_n 2, 1) := dk_28 (ck1_s (r := 58) dT_cX11_unit_1 rfl dg_cX11_unit_1048.2.2.2.2.1)
theorem dX11_unit_123 : decode cX11_unit 123 = .ok (.ifCond .lt 10, 3) := dk_155 (ck3s_s (r := 59) dT_cX11_unit_1 rfl dg_cX11_unit_1048.2.2.2.2.2.1)
theorem dX11_unit_126 : decode cX11_unit 126 = .ok (.aload_n 0, 1) := dk_42 (ck1_s (r := 62) dT_cX11_unit_1 rfl dg_cX11_unit_1048.2.2.2.2.2.2.1)
theorem dX11_unit_127 : decode cX11_unit 127 = .ok (.invokevirtual 281, 3) := dk_182 (ck3_s (r := 63) dT_cX11_unit_1 rfl dg_cX11_unit_1048.2.2.2.2.2.2.2)
theorem dg_cX11_unit_1049 : ck3sL dS_cX11_unit_2 2 153 8 = true ∧ ck1L dS_cX11_unit_2 5 42 = true ∧ ck1L dS_cX11_unit_2 6 5 = true ∧ ck3L dS_cX11_unit_2 7 182 232 = true ∧ ck1L dS_cX11_unit_2 10 42 = true ∧ ck3L dS_cX11_unit_2 11 180 179 = true ∧ ck3sL dS_cX11_unit_2 14 158 4 = true ∧ ck1L dS_cX11_unit_2 17 177 = true := by decide +kernel
theorem dX11_unit_130 : decode cX11_unit 130 = .ok (.ifCond .eq 8, 3) := dk_153 (ck3s_s (r := 2) dT_cX11_unit_2 rfl dg_cX11_unit_1049.1)
theorem dX11_unit_133 : decode cX11_unit 133 = .ok (.aload_n 0, 1) := dk_42 (ck1_s (r := 5) dT_cX11_unit_2 rfl dg_cX11_unit_1049.2.1)
theorem dX11_unit_134 : decode cX11_unit 134 = .ok (.iconst 2, 1) := dk_5 (ck1_s (r := 6) dT_cX11_unit_2 rfl dg_cX11_unit_1049.2.2.1)
theorem dX11_unit_135 : decode cX11_unit 135 = .ok (.invokevirtual 232, 3) := dk_182 (ck3_s (r := 7) dT_cX11_unit_2 rfl dg_cX11_unit_1049.2.2.2.1)
theorem dX11_unit_138 : decode cX11_unit 138 = .ok (.aload_n 0, 1) := dk_42 (ck1_s (r := 10) dT_cX11_unit_2 rfl dg_cX11_unit_1049.2.2.2.2.1)
theorem dX11_unit_139 : decode cX11_unit 139 = .ok (.getfield 179, 3) := dk_180 (ck3_s (r := 11) dT_cX11_unit_2 rfl dg_cX11_unit_1049.2.2.2.2.2.1)
theorem dX11_unit_142 : decode cX11_unit 142 = .ok (.ifCond .le 4, 3) := dk_158 (ck3s_s (r := 14) dT_cX11_unit_2 rfl dg_cX11_unit_1049.2.2.2.2.2.2.1)
theorem dX11_unit_145 : decode cX11_unit 145 = .ok (.return_, 1) := dk_177 (ck1_s (r := 17) dT_cX11_unit_2 rfl dg_cX11_unit_1049.2.2.2.2.2.2.2)
theorem dg_cX11_unit_1050 : ck1L dS_cX11_unit_2 18 42 = true ∧ ck3L dS_cX11_unit_2 19 182 284 = true ∧ ck1L dS_cX11_unit_2 22 42 = true ∧ ck1L dS_cX11_unit_2 23 28 = true ∧ ck3sL dS_cX11_unit_2 24 156 7 = true ∧ ck1L dS_cX11_unit_2 27 3 = true ∧ ck3sL dS_cX11_unit_2 28 167 4 = true ∧ ck1L dS_cX11_unit_2 31 4 = true := by decide +kernel
theorem dX11_unit_146 : decode cX11_unit 146 = .ok (.aload_n 0, 1) := dk_42 (ck1_s (r := 18) dT_cX11_unit_2 rfl dg_cX11_unit_1050.1)
theorem dX11_unit_147 : decode cX11_unit 147 = .ok (.invokevirtual 284, 3) := dk_182 (ck3_s (r := 19) dT_cX11_unit_2 rfl dg_cX11_unit_1050.2.1)
theorem dX11_unit_150 : decode cX11_unit 150 = .ok (.aload_n 0, 1) := dk_42 (ck1_s (r := 22) dT_cX11_unit_2 rfl dg_cX11_unit_1050.2.2.1)
theorem dX11_unit_151 : decode cX11_unit 151 = .ok (.iload_n 2, 1) := dk_28 (ck1_s (r := 23) dT_cX11_unit_2 rfl dg_cX11_unit_1050.2.2.2.1)
theorem dX11_unit_152 : decode cX11_unit 152 = .ok (.ifCond .ge 7, 3) := dk_156 (ck3s_s (r := 24) dT_cX11_unit_2 rfl dg_cX11_unit_1050.2.2.2.2.1)
theorem dX11_unit_155 : decode cX11_unit 155 = .ok (.iconst 0, 1) := dk_3 (ck1_s (r := 27) dT_cX11_unit_2 rfl dg_cX11_unit_1050.2.2.2.2.2.1)
theorem dX11_unit_156 : decode cX11_unit 156 = .ok (.goto 4, 3) := dk_167 (ck3s_s (r := 28) dT_cX11_unit_2 rfl dg_cX11_unit_1050.2.2.2.2.2.2.1)
theorem dX11_unit_159 : decode cX11_unit 159 = .ok (.iconst 1, 1) := dk_4 (ck1_s (r := 31) dT_cX11_unit_2 rfl dg_cX11_unit_1050.2.2.2.2.2.2.2)
theorem dg_cX11_unit_1051 : ck1L dS_cX11_unit_2 32 28 = true ∧ ck3sL dS_cX11_unit_2 33 156 10 = true ∧ ck1L dS_cX11_unit_2 36 42 = true ∧ ck3L dS_cX11_unit_2 37 180 163 = true ∧ ck3sL dS_cX11_unit_2 40 167 4 = true ∧ ck1L dS_cX11_unit_2 43 28 = true ∧ ck3L dS_cX11_unit_2 44 182 262 = true ∧ ck1L dS_cX11_unit_2 47 42 = true := by decide +kernel
theorem dX11_unit_160 : decode cX11_unit 160 = .ok (.iload_n 2, 1) := dk_28 (ck1_s (r := 32) dT_cX11_unit_2 rfl dg_cX11_unit_1051.1)
theorem dX11_unit_161 : decode cX11_unit 161 = .ok (.ifCond .ge 10, 3) := dk_156 (ck3s_s (r := 33) dT_cX11_unit_2 rfl dg_cX11_unit_1051.2.1)
theorem dX11_unit_164 : decode cX11_unit 164 = .ok (.aload_n 0, 1) := dk_42 (ck1_s (r := 36) dT_cX11_unit_2 rfl dg_cX11_unit_1051.2.2.1)
theorem dX11_unit_165 : decode cX11_unit 165 = .ok (.getfield 163, 3) := dk_180 (ck3_s (r := 37) dT_cX11_unit_2 rfl dg_cX11_unit_1051.2.2.2.1)
theorem dX11_unit_168 : decode cX11_unit 168 = .ok (.goto 4, 3) := dk_167 (ck3s_s (r := 40) dT_cX11_unit_2 rfl dg_cX11_unit_1051.2.2.2.2.1)
theorem dX11_unit_171 : decode cX11_unit 171 = .ok (.iload_n 2, 1) := dk_28 (ck1_s (r := 43) dT_cX11_unit_2 rfl dg_cX11_unit_1051.2.2.2.2.2.1)
theorem dX11_unit_172 : decode cX11_unit 172 = .ok (.invokevirtual 262, 3) := dk_182 (ck3_s (r := 44) dT_cX11_unit_2 rfl dg_cX11_unit_1051.2.2.2.2.2.2.1)
theorem dX11_unit_175 : decode cX11_unit 175 = .ok (.aload_n 0, 1) := dk_42 (ck1_s (r := 47) dT_cX11_unit_2 rfl dg_cX11_unit_1051.2.2.2.2.2.2.2)
theorem dg_cX11_unit_1052 : ck3L dS_cX11_unit_2 48 182 235 = true ∧ ck1L dS_cX11_unit_2 51 177 = true := by decide +kernel
theorem dX11_unit_176 : decode cX11_unit 176 = .ok (.invokevirtual 235, 3) := dk_182 (ck3_s (r := 48) dT_cX11_unit_2 rfl dg_cX11_unit_1052.1)
theorem dX11_unit_179 : decode cX11_unit 179 = .ok (.return_, 1) := dk_177 (ck1_s (r := 51) dT_cX11_unit_2 rfl dg_cX11_unit_1052.2)
theorem dg_cX11_untell_1053 : ck1 cX11_untell 0 27 = true ∧ ck1 cX11_untell 1 3 = true ∧ ck1 cX11_untell 2 42 = true ∧ ck3 cX11_untell 3 180 411 = true ∧ ck1 cX11_untell 6 4 = true ∧ ck1 cX11_untell 7 100 = true ∧ ck3 cX11_untell 8 184 417 = true ∧ ck3s cX11_untell 11 153 12 = true := by decide +kernel
theorem dX11_untell_0 : decode cX11_untell 0 = .ok (.iload_n 1, 1) := dk_27 dg_cX11_untell_1053.1
theorem dX11_untell_1 : decode cX11_untell 1 = .ok (.iconst 0, 1) := dk_3 dg_cX11_untell_1053.2.1
theorem dX11_untell_2 : decode cX11_untell 2 = .ok (.aload_n 0, 1) := dk_42 dg_cX11_untell_1053.2.2.1
theorem dX11_untell_3 : decode cX11_untell 3 = .ok (.getfield 411, 3) := dk_180 dg_cX11_untell_1053.2.2.2.1
theorem dX11_untell_6 : decode cX11_untell 6 = .ok (.iconst 1, 1) := dk_4 dg_cX11_untell_1053.2.2.2.2.1
theorem dX11_untell_7 : decode cX11_untell 7 = .ok (.isub, 1) := dk_100 dg_cX11_untell_1053.2.2.2.2.2.1
theorem dX11_untell_8 : decode cX11_untell 8 = .ok (.invokestatic 417, 3) := dk_184 dg_cX11_untell_1053.2.2.2.2.2.2.1
theorem dX11_untell_11 : decode cX11_untell 11 = .ok (.ifCond .eq 12, 3) := dk_153 dg_cX11_untell_1053.2.2.2.2.2.2.2
theorem dg_cX11_untell_1054 : ck1 cX11_untell 14 42 = true ∧ ck3 cX11_untell 15 180 120 = true ∧ ck1 cX11_untell 18 27 = true ∧ ck1 cX11_untell 19 46 = true ∧ ck3s cX11_untell 20 155 5 = true ∧ ck1 cX11_untell 23 3 = true ∧ ck1 cX11_untell 24 172 = true ∧ ck1 cX11_untell 25 42 = true := by decide +kernel
theorem dX11_untell_14 : decode cX11_untell 14 = .ok (.aload_n 0, 1) := dk_42 dg_cX11_untell_1054.1
theorem dX11_untell_15 : decode cX11_untell 15 = .ok (.getfield 120, 3) := dk_180 dg_cX11_untell_1054.2.1
theorem dX11_untell_18 : decode cX11_untell 18 = .ok (.iload_n 1, 1) := dk_27 dg_cX11_untell_1054.2.2.1
theorem dX11_untell_19 : decode cX11_untell 19 = .ok (.iaload, 1) := dk_46 dg_cX11_untell_1054.2.2.2.1
theorem dX11_untell_20 : decode cX11_untell 20 = .ok (.ifCond .lt 5, 3) := dk_155 dg_cX11_untell_1054.2.2.2.2.1
theorem dX11_untell_23 : decode cX11_untell 23 = .ok (.iconst 0, 1) := dk_3 dg_cX11_untell_1054.2.2.2.2.2.1
theorem dX11_untell_24 : decode cX11_untell 24 = .ok (.ireturn, 1) := dk_172 dg_cX11_untell_1054.2.2.2.2.2.2.1
theorem dX11_untell_25 : decode cX11_untell 25 = .ok (.aload_n 0, 1) := dk_42 dg_cX11_untell_1054.2.2.2.2.2.2.2
theorem dg_cX11_untell_1055 : ck3 cX11_untell 26 180 120 = true ∧ ck1 cX11_untell 29 27 = true ∧ ck1 cX11_untell 30 42 = true ∧ ck3 cX11_untell 31 180 527 = true ∧ ck1 cX11_untell 34 79 = true ∧ ck1 cX11_untell 35 4 = true ∧ ck1 cX11_untell 36 172 = true := by decide +kernel
theorem dX11_untell_26 : decode cX11_untell 26 = .ok (.getfield 120, 3) := dk_180 dg_cX11_untell_1055.1
theorem dX11_untell_29 : decode cX11_untell 29 = .ok (.iload_n 1, 1) := dk_27 dg_cX11_untell_1055.2.1
theorem dX11_untell_30 : decode cX11_untell 30 = .ok (.aload_n 0, 1) := dk_42 dg_cX11_untell_1055.2.2.1
theorem dX11_untell_31 : decode cX11_untell 31 = .ok (.getfield 527, 3) := dk_180 dg_cX11_untell_1055.2.2.2.1
theorem dX11_untell_34 : decode cX11_untell 34 = .ok (.iastore, 1) := dk_79 dg_cX11_untell_1055.2.2.2.2.1
theorem dX11_untell_35 : decode cX11_untell 35 = .ok (.iconst 1, 1) := dk_4 dg_cX11_untell_1055.2.2.2.2.2.1
theorem dX11_untell_36 : decode cX11_untell 36 = .ok (.ireturn, 1) := dk_172 dg_cX11_untell_1055.2.2.2.2.2.2
theorem dg_cX11_want_1056 : ck1 cX11_want 0 42 = true ∧ ck3 cX11_want 1 180 179 = true ∧ ck3s cX11_want 4 158 4 = true ∧ ck1 cX11_want 7 177 = true ∧ ck1 cX11_want 8 42 = true ∧ ck1 cX11_want 9 31 = true ∧ ck3 cX11_want 10 182 228 = true ∧ ck3s cX11_want 13 154 11 = true := by decide +kernel
theorem dX11_want_0 : decode cX11_want 0 = .ok (.aload_n 0, 1) := dk_42 dg_cX11_want_1056.1
theorem dX11_want_1 : decode cX11_want 1 = .ok (.getfield 179, 3) := dk_180 dg_cX11_want_1056.2.1
theorem dX11_want_4 : decode cX11_want 4 = .ok (.ifCond .le 4, 3) := dk_158 dg_cX11_want_1056.2.2.1
theorem dX11_want_7 : decode cX11_want 7 = .ok (.return_, 1) := dk_177 dg_cX11_want_1056.2.2.2.1
theorem dX11_want_8 : decode cX11_want 8 = .ok (.aload_n 0, 1) := dk_42 dg_cX11_want_1056.2.2.2.2.1
theorem dX11_want_9 : decode cX11_want 9 = .ok (.lload_n 1, 1) := dk_31 dg_cX11_want_1056.2.2.2.2.2.1
theorem dX11_want_10 : decode cX11_want 10 = .ok (.invokevirtual 228, 3) := dk_182 dg_cX11_want_1056.2.2.2.2.2.2.1
theorem dX11_want_13 : decode cX11_want 13 = .ok (.ifCond .ne 11, 3) := dk_154 dg_cX11_want_1056.2.2.2.2.2.2.2
theorem dg_cX11_want_1057 : ck1 cX11_want 16 42 = true ∧ ck1 cX11_want 17 5 = true ∧ ck3 cX11_want 18 182 232 = true ∧ ck3s cX11_want 21 167 7 = true ∧ ck1 cX11_want 24 42 = true ∧ ck3 cX11_want 25 182 235 = true ∧ ck1 cX11_want 28 177 = true := by decide +kernel
theorem dX11_want_16 : decode cX11_want 16 = .ok (.aload_n 0, 1) := dk_42 dg_cX11_want_1057.1
theorem dX11_want_17 : decode cX11_want 17 = .ok (.iconst 2, 1) := dk_5 dg_cX11_want_1057.2.1
theorem dX11_want_18 : decode cX11_want 18 = .ok (.invokevirtual 232, 3) := dk_182 dg_cX11_want_1057.2.2.1
theorem dX11_want_21 : decode cX11_want 21 = .ok (.goto 7, 3) := dk_167 dg_cX11_want_1057.2.2.2.1
theorem dX11_want_24 : decode cX11_want 24 = .ok (.aload_n 0, 1) := dk_42 dg_cX11_want_1057.2.2.2.2.1
theorem dX11_want_25 : decode cX11_want 25 = .ok (.invokevirtual 235, 3) := dk_182 dg_cX11_want_1057.2.2.2.2.2.1
theorem dX11_want_28 : decode cX11_want 28 = .ok (.return_, 1) := dk_177 dg_cX11_want_1057.2.2.2.2.2.2
theorem dg_cX11_wearer_1058 : ck1 cX11_wearer 0 2 = true ∧ ck1 cX11_wearer 1 61 = true ∧ ck1 cX11_wearer 2 3 = true ∧ ck1 cX11_wearer 3 62 = true ∧ ck1 cX11_wearer 4 29 = true ∧ ck1 cX11_wearer 5 42 = true ∧ ck3 cX11_wearer 6 180 387 = true ∧ ck3s cX11_wearer 9 162 28 = true := by decide +kernel
theorem dX11_wearer_0 : decode cX11_wearer 0 = .ok (.iconst (-1), 1) := dk_2 dg_cX11_wearer_1058.1
theorem dX11_wearer_1 : decode cX11_wearer 1 = .ok (.istore_n 2, 1) := dk_61 dg_cX11_wearer_1058.2.1
theorem dX11_wearer_2 : decode cX11_wearer 2 = .ok (.iconst 0, 1) := dk_3 dg_cX11_wearer_1058.2.2.1
theorem dX11_wearer_3 : decode cX11_wearer 3 = .ok (.istore_n 3, 1) := dk_62 dg_cX11_wearer_1058.2.2.2.1
theorem dX11_wearer_4 : decode cX11_wearer 4 = .ok (.iload_n 3, 1) := dk_29 dg_cX11_wearer_1058.2.2.2.2.1
theorem dX11_wearer_5 : decode cX11_wearer 5 = .ok (.aload_n 0, 1) := dk_42 dg_cX11_wearer_1058.2.2.2.2.2.1
theorem dX11_wearer_6 : decode cX11_wearer 6 = .ok (.getfield 387, 3) := dk_180 dg_cX11_wearer_1058.2.2.2.2.2.2.1
theorem dX11_wearer_9 : decode cX11_wearer 9 = .ok (.if_icmp .ge 28, 3) := dk_162 dg_cX11_wearer_1058.2.2.2.2.2.2.2
theorem dg_cX11_wearer_1059 : ck1 cX11_wearer 12 42 = true ∧ ck3 cX11_wearer 13 180 96 = true ∧ ck2s cX11_wearer 16 16 6 = true ∧ ck1 cX11_wearer 18 29 = true ∧ ck1 cX11_wearer 19 96 = true ∧ ck1 cX11_wearer 20 46 = true ∧ ck1 cX11_wearer 21 27 = true ∧ ck3s cX11_wearer 22 160 7 = true := by decide +kernel
theorem dX11_wearer_12 : decode cX11_wearer 12 = .ok (.aload_n 0, 1) := dk_42 dg_cX11_wearer_1059.1
theorem dX11_wearer_13 : decode cX11_wearer 13 = .ok (.getfield 96, 3) := dk_180 dg_cX11_wearer_1059.2.1
theorem dX11_wearer_16 : decode cX11_wearer 16 = .ok (.bipush 6, 2) := dk_16 dg_cX11_wearer_1059.2.2.1
theorem dX11_wearer_18 : decode cX11_wearer 18 = .ok (.iload_n 3, 1) := dk_29 dg_cX11_wearer_1059.2.2.2.1
theorem dX11_wearer_19 : decode cX11_wearer 19 = .ok (.iadd, 1) := dk_96 dg_cX11_wearer_1059.2.2.2.2.1
theorem dX11_wearer_20 : decode cX11_wearer 20 = .ok (.iaload, 1) := dk_46 dg_cX11_wearer_1059.2.2.2.2.2.1
theorem dX11_wearer_21 : decode cX11_wearer 21 = .ok (.iload_n 1, 1) := dk_27 dg_cX11_wearer_1059.2.2.2.2.2.2.1
theorem dX11_wearer_22 : decode cX11_wearer 22 = .ok (.if_icmp .ne 7, 3) := dk_160 dg_cX11_wearer_1059.2.2.2.2.2.2.2
theorem dg_cX11_wearer_1060 : ck1 cX11_wearer 25 29 = true ∧ ck3s cX11_wearer 26 167 4 = true ∧ ck1 cX11_wearer 29 28 = true ∧ ck1 cX11_wearer 30 61 = true ∧ ck3i cX11_wearer 31 132 3 1 = true ∧ ck3s cX11_wearer 34 167 (-30) = true ∧ ck1 cX11_wearer 37 28 = true ∧ ck1 cX11_wearer 38 172 = true := by decide +kernel
theorem dX11_wearer_25 : decode cX11_wearer 25 = .ok (.iload_n 3, 1) := dk_29 dg_cX11_wearer_1060.1
theorem dX11_wearer_26 : decode cX11_wearer 26 = .ok (.goto 4, 3) := dk_167 dg_cX11_wearer_1060.2.1
theorem dX11_wearer_29 : decode cX11_wearer 29 = .ok (.iload_n 2, 1) := dk_28 dg_cX11_wearer_1060.2.2.1
theorem dX11_wearer_30 : decode cX11_wearer 30 = .ok (.istore_n 2, 1) := dk_61 dg_cX11_wearer_1060.2.2.2.1
theorem dX11_wearer_31 : decode cX11_wearer 31 = .ok (.iinc 3 1, 3) := dk_132 dg_cX11_wearer_1060.2.2.2.2.1
theorem dX11_wearer_34 : decode cX11_wearer 34 = .ok (.goto (-30), 3) := dk_167 dg_cX11_wearer_1060.2.2.2.2.2.1
theorem dX11_wearer_37 : decode cX11_wearer 37 = .ok (.iload_n 2, 1) := dk_28 dg_cX11_wearer_1060.2.2.2.2.2.2.1
theorem dX11_wearer_38 : decode cX11_wearer 38 = .ok (.ireturn, 1) := dk_172 dg_cX11_wearer_1060.2.2.2.2.2.2.2
theorem dg_cX11_wearers_1061 : ck1 cX11_wearers 0 3 = true ∧ ck1 cX11_wearers 1 60 = true ∧ ck1 cX11_wearers 2 3 = true ∧ ck1 cX11_wearers 3 61 = true ∧ ck1 cX11_wearers 4 28 = true ∧ ck1 cX11_wearers 5 42 = true ∧ ck3 cX11_wearers 6 180 387 = true ∧ ck3s cX11_wearers 9 162 34 = true := by decide +kernel
theorem dX11_wearers_0 : decode cX11_wearers 0 = .ok (.iconst 0, 1) := dk_3 dg_cX11_wearers_1061.1
theorem dX11_wearers_1 : decode cX11_wearers 1 = .ok (.istore_n 1, 1) := dk_60 dg_cX11_wearers_1061.2.1
theorem dX11_wearers_2 : decode cX11_wearers 2 = .ok (.iconst 0, 1) := dk_3 dg_cX11_wearers_1061.2.2.1
theorem dX11_wearers_3 : decode cX11_wearers 3 = .ok (.istore_n 2, 1) := dk_61 dg_cX11_wearers_1061.2.2.2.1
theorem dX11_wearers_4 : decode cX11_wearers 4 = .ok (.iload_n 2, 1) := dk_28 dg_cX11_wearers_1061.2.2.2.2.1
theorem dX11_wearers_5 : decode cX11_wearers 5 = .ok (.aload_n 0, 1) := dk_42 dg_cX11_wearers_1061.2.2.2.2.2.1
theorem dX11_wearers_6 : decode cX11_wearers 6 = .ok (.getfield 387, 3) := dk_180 dg_cX11_wearers_1061.2.2.2.2.2.2.1
theorem dX11_wearers_9 : decode cX11_wearers 9 = .ok (.if_icmp .ge 34, 3) := dk_162 dg_cX11_wearers_1061.2.2.2.2.2.2.2
theorem dg_cX11_wearers_1062 : ck1 cX11_wearers 12 27 = true ∧ ck1 cX11_wearers 13 42 = true ∧ ck3 cX11_wearers 14 180 96 = true ∧ ck2s cX11_wearers 17 16 6 = true ∧ ck1 cX11_wearers 19 28 = true ∧ ck1 cX11_wearers 20 96 = true ∧ ck1 cX11_wearers 21 46 = true ∧ ck3s cX11_wearers 22 155 7 = true := by decide +kernel
theorem dX11_wearers_12 : decode cX11_wearers 12 = .ok (.iload_n 1, 1) := dk_27 dg_cX11_wearers_1062.1
theorem dX11_wearers_13 : decode cX11_wearers 13 = .ok (.aload_n 0, 1) := dk_42 dg_cX11_wearers_1062.2.1
theorem dX11_wearers_14 : decode cX11_wearers 14 = .ok (.getfield 96, 3) := dk_180 dg_cX11_wearers_1062.2.2.1
theorem dX11_wearers_17 : decode cX11_wearers 17 = .ok (.bipush 6, 2) := dk_16 dg_cX11_wearers_1062.2.2.2.1
theorem dX11_wearers_19 : decode cX11_wearers 19 = .ok (.iload_n 2, 1) := dk_28 dg_cX11_wearers_1062.2.2.2.2.1
theorem dX11_wearers_20 : decode cX11_wearers 20 = .ok (.iadd, 1) := dk_96 dg_cX11_wearers_1062.2.2.2.2.2.1
theorem dX11_wearers_21 : decode cX11_wearers 21 = .ok (.iaload, 1) := dk_46 dg_cX11_wearers_1062.2.2.2.2.2.2.1
theorem dX11_wearers_22 : decode cX11_wearers 22 = .ok (.ifCond .lt 7, 3) := dk_155 dg_cX11_wearers_1062.2.2.2.2.2.2.2
theorem dg_cX11_wearers_1063 : ck1 cX11_wearers 25 4 = true ∧ ck3s cX11_wearers 26 167 4 = true ∧ ck1 cX11_wearers 29 3 = true ∧ ck3 cX11_wearers 30 184 310 = true ∧ ck1 cX11_wearers 33 28 = true ∧ ck1 cX11_wearers 34 120 = true ∧ ck1 cX11_wearers 35 128 = true ∧ ck1 cX11_wearers 36 60 = true := by decide +kernel
theorem dX11_wearers_25 : decode cX11_wearers 25 = .ok (.iconst 1, 1) := dk_4 dg_cX11_wearers_1063.1
theorem dX11_wearers_26 : decode cX11_wearers 26 = .ok (.goto 4, 3) := dk_167 dg_cX11_wearers_1063.2.1
theorem dX11_wearers_29 : decode cX11_wearers 29 = .ok (.iconst 0, 1) := dk_3 dg_cX11_wearers_1063.2.2.1
theorem dX11_wearers_30 : decode cX11_wearers 30 = .ok (.invokestatic 310, 3) := dk_184 dg_cX11_wearers_1063.2.2.2.1
theorem dX11_wearers_33 : decode cX11_wearers 33 = .ok (.iload_n 2, 1) := dk_28 dg_cX11_wearers_1063.2.2.2.2.1
theorem dX11_wearers_34 : decode cX11_wearers 34 = .ok (.ishl, 1) := dk_120 dg_cX11_wearers_1063.2.2.2.2.2.1
theorem dX11_wearers_35 : decode cX11_wearers 35 = .ok (.ior, 1) := dk_128 dg_cX11_wearers_1063.2.2.2.2.2.2.1
theorem dX11_wearers_36 : decode cX11_wearers 36 = .ok (.istore_n 1, 1) := dk_60 dg_cX11_wearers_1063.2.2.2.2.2.2.2
theorem dg_cX11_wearers_1064 : ck3i cX11_wearers 37 132 2 1 = true ∧ ck3s cX11_wearers 40 167 (-36) = true ∧ ck1 cX11_wearers 43 27 = true ∧ ck1 cX11_wearers 44 172 = true := by decide +kernel
theorem dX11_wearers_37 : decode cX11_wearers 37 = .ok (.iinc 2 1, 3) := dk_132 dg_cX11_wearers_1064.1
theorem dX11_wearers_40 : decode cX11_wearers 40 = .ok (.goto (-36), 3) := dk_167 dg_cX11_wearers_1064.2.1
theorem dX11_wearers_43 : decode cX11_wearers 43 = .ok (.iload_n 1, 1) := dk_27 dg_cX11_wearers_1064.2.2.1
theorem dX11_wearers_44 : decode cX11_wearers 44 = .ok (.ireturn, 1) := dk_172 dg_cX11_wearers_1064.2.2.2
theorem dg_cX11_wideOf_1065 : ck1 cX11_wideOf 0 3 = true ∧ ck1 cX11_wideOf 1 61 = true ∧ ck1 cX11_wideOf 2 3 = true ∧ ck1 cX11_wideOf 3 62 = true ∧ ck1 cX11_wideOf 4 29 = true ∧ ck1 cX11_wideOf 5 42 = true ∧ ck3 cX11_wideOf 6 180 387 = true ∧ ck3s cX11_wideOf 9 162 42 = true := by decide +kernel
theorem dX11_wideOf_0 : decode cX11_wideOf 0 = .ok (.iconst 0, 1) := dk_3 dg_cX11_wideOf_1065.1
theorem dX11_wideOf_1 : decode cX11_wideOf 1 = .ok (.istore_n 2, 1) := dk_61 dg_cX11_wideOf_1065.2.1
theorem dX11_wideOf_2 : decode cX11_wideOf 2 = .ok (.iconst 0, 1) := dk_3 dg_cX11_wideOf_1065.2.2.1
theorem dX11_wideOf_3 : decode cX11_wideOf 3 = .ok (.istore_n 3, 1) := dk_62 dg_cX11_wideOf_1065.2.2.2.1
theorem dX11_wideOf_4 : decode cX11_wideOf 4 = .ok (.iload_n 3, 1) := dk_29 dg_cX11_wideOf_1065.2.2.2.2.1
theorem dX11_wideOf_5 : decode cX11_wideOf 5 = .ok (.aload_n 0, 1) := dk_42 dg_cX11_wideOf_1065.2.2.2.2.2.1
theorem dX11_wideOf_6 : decode cX11_wideOf 6 = .ok (.getfield 387, 3) := dk_180 dg_cX11_wideOf_1065.2.2.2.2.2.2.1
theorem dX11_wideOf_9 : decode cX11_wideOf 9 = .ok (.if_icmp .ge 42, 3) := dk_162 dg_cX11_wideOf_1065.2.2.2.2.2.2.2
theorem dg_cX11_wideOf_1066 : ck1 cX11_wideOf 12 28 = true ∧ ck1 cX11_wideOf 13 27 = true ∧ ck1 cX11_wideOf 14 29 = true ∧ ck1 cX11_wideOf 15 122 = true ∧ ck1 cX11_wideOf 16 4 = true ∧ ck1 cX11_wideOf 17 126 = true ∧ ck1 cX11_wideOf 18 4 = true ∧ ck3s cX11_wideOf 19 160 23 = true := by decide +kernel
theorem dX11_wideOf_12 : decode cX11_wideOf 12 = .ok (.iload_n 2, 1) := dk_28 dg_cX11_wideOf_1066.1
theorem dX11_wideOf_13 : decode cX11_wideOf 13 = .ok (.iload_n 1, 1) := dk_27 dg_cX11_wideOf_1066.2.1
theorem dX11_wideOf_14 : decode cX11_wideOf 14 = .ok (.iload_n 3, 1) := dk_29 dg_cX11_wideOf_1066.2.2.1
theorem dX11_wideOf_15 : decode cX11_wideOf 15 = .ok (.ishr, 1) := dk_122 dg_cX11_wideOf_1066.2.2.2.1
theorem dX11_wideOf_16 : decode cX11_wideOf 16 = .ok (.iconst 1, 1) := dk_4 dg_cX11_wideOf_1066.2.2.2.2.1
theorem dX11_wideOf_17 : decode cX11_wideOf 17 = .ok (.iand, 1) := dk_126 dg_cX11_wideOf_1066.2.2.2.2.2.1
theorem dX11_wideOf_18 : decode cX11_wideOf 18 = .ok (.iconst 1, 1) := dk_4 dg_cX11_wideOf_1066.2.2.2.2.2.2.1
theorem dX11_wideOf_19 : decode cX11_wideOf 19 = .ok (.if_icmp .ne 23, 3) := dk_160 dg_cX11_wideOf_1066.2.2.2.2.2.2.2
theorem dg_cX11_wideOf_1067 : ck1 cX11_wideOf 22 42 = true ∧ ck3 cX11_wideOf 23 180 96 = true ∧ ck2s cX11_wideOf 26 16 18 = true ∧ ck1 cX11_wideOf 28 42 = true ∧ ck3 cX11_wideOf 29 180 96 = true ∧ ck2s cX11_wideOf 32 16 6 = true ∧ ck1 cX11_wideOf 34 29 = true ∧ ck1 cX11_wideOf 35 96 = true := by decide +kernel
theorem dX11_wideOf_22 : decode cX11_wideOf 22 = .ok (.aload_n 0, 1) := dk_42 dg_cX11_wideOf_1067.1
theorem dX11_wideOf_23 : decode cX11_wideOf 23 = .ok (.getfield 96, 3) := dk_180 dg_cX11_wideOf_1067.2.1
theorem dX11_wideOf_26 : decode cX11_wideOf 26 = .ok (.bipush 18, 2) := dk_16 dg_cX11_wideOf_1067.2.2.1
theorem dX11_wideOf_28 : decode cX11_wideOf 28 = .ok (.aload_n 0, 1) := dk_42 dg_cX11_wideOf_1067.2.2.2.1
theorem dX11_wideOf_29 : decode cX11_wideOf 29 = .ok (.getfield 96, 3) := dk_180 dg_cX11_wideOf_1067.2.2.2.2.1
theorem dX11_wideOf_32 : decode cX11_wideOf 32 = .ok (.bipush 6, 2) := dk_16 dg_cX11_wideOf_1067.2.2.2.2.2.1
theorem dX11_wideOf_34 : decode cX11_wideOf 34 = .ok (.iload_n 3, 1) := dk_29 dg_cX11_wideOf_1067.2.2.2.2.2.2.1
theorem dX11_wideOf_35 : decode cX11_wideOf 35 = .ok (.iadd, 1) := dk_96 dg_cX11_wideOf_1067.2.2.2.2.2.2.2
theorem dg_cX11_wideOf_1068 : ck1 cX11_wideOf 36 46 = true ∧ ck1 cX11_wideOf 37 96 = true ∧ ck1 cX11_wideOf 38 46 = true ∧ ck3s cX11_wideOf 39 167 4 = true ∧ ck1 cX11_wideOf 42 3 = true ∧ ck1 cX11_wideOf 43 96 = true ∧ ck1 cX11_wideOf 44 61 = true ∧ ck3i cX11_wideOf 45 132 3 1 = true := by decide +kernel
theorem dX11_wideOf_36 : decode cX11_wideOf 36 = .ok (.iaload, 1) := dk_46 dg_cX11_wideOf_1068.1
theorem dX11_wideOf_37 : decode cX11_wideOf 37 = .ok (.iadd, 1) := dk_96 dg_cX11_wideOf_1068.2.1
theorem dX11_wideOf_38 : decode cX11_wideOf 38 = .ok (.iaload, 1) := dk_46 dg_cX11_wideOf_1068.2.2.1
theorem dX11_wideOf_39 : decode cX11_wideOf 39 = .ok (.goto 4, 3) := dk_167 dg_cX11_wideOf_1068.2.2.2.1
theorem dX11_wideOf_42 : decode cX11_wideOf 42 = .ok (.iconst 0, 1) := dk_3 dg_cX11_wideOf_1068.2.2.2.2.1
theorem dX11_wideOf_43 : decode cX11_wideOf 43 = .ok (.iadd, 1) := dk_96 dg_cX11_wideOf_1068.2.2.2.2.2.1
theorem dX11_wideOf_44 : decode cX11_wideOf 44 = .ok (.istore_n 2, 1) := dk_61 dg_cX11_wideOf_1068.2.2.2.2.2.2.1
theorem dX11_wideOf_45 : decode cX11_wideOf 45 = .ok (.iinc 3 1, 3) := dk_132 dg_cX11_wideOf_1068.2.2.2.2.2.2.2
theorem dg_cX11_wideOf_1069 : ck3s cX11_wideOf 48 167 (-44) = true ∧ ck1 cX11_wideOf 51 28 = true ∧ ck1 cX11_wideOf 52 172 = true := by decide +kernel
theorem dX11_wideOf_48 : decode cX11_wideOf 48 = .ok (.goto (-44), 3) := dk_167 dg_cX11_wideOf_1069.1
theorem dX11_wideOf_51 : decode cX11_wideOf 51 = .ok (.iload_n 2, 1) := dk_28 dg_cX11_wideOf_1069.2.1
theorem dX11_wideOf_52 : decode cX11_wideOf 52 = .ok (.ireturn, 1) := dk_172 dg_cX11_wideOf_1069.2.2
theorem dg_cX11_will_1070 : ck1 cX11_will 0 42 = true ∧ ck1 cX11_will 1 27 = true ∧ ck3 cX11_will 2 182 446 = true ∧ ck3s cX11_will 5 153 22 = true ∧ ck1 cX11_will 8 28 = true ∧ ck1 cX11_will 9 3 = true ∧ ck2s cX11_will 10 16 60 = true ∧ ck3 cX11_will 12 184 417 = true := by decide +kernel
theorem dX11_will_0 : decode cX11_will 0 = .ok (.aload_n 0, 1) := dk_42 dg_cX11_will_1070.1
theorem dX11_will_1 : decode cX11_will 1 = .ok (.iload_n 1, 1) := dk_27 dg_cX11_will_1070.2.1
theorem dX11_will_2 : decode cX11_will 2 = .ok (.invokevirtual 446, 3) := dk_182 dg_cX11_will_1070.2.2.1
theorem dX11_will_5 : decode cX11_will 5 = .ok (.ifCond .eq 22, 3) := dk_153 dg_cX11_will_1070.2.2.2.1
theorem dX11_will_8 : decode cX11_will 8 = .ok (.iload_n 2, 1) := dk_28 dg_cX11_will_1070.2.2.2.2.1
theorem dX11_will_9 : decode cX11_will 9 = .ok (.iconst 0, 1) := dk_3 dg_cX11_will_1070.2.2.2.2.2.1
theorem dX11_will_10 : decode cX11_will 10 = .ok (.bipush 60, 2) := dk_16 dg_cX11_will_1070.2.2.2.2.2.2.1
theorem dX11_will_12 : decode cX11_will 12 = .ok (.invokestatic 417, 3) := dk_184 dg_cX11_will_1070.2.2.2.2.2.2.2
theorem dg_cX11_will_1071 : ck3s cX11_will 15 153 12 = true ∧ ck1 cX11_will 18 29 = true ∧ ck1 cX11_will 19 3 = true ∧ ck1 cX11_will 20 4 = true ∧ ck3 cX11_will 21 184 417 = true ∧ ck3s cX11_will 24 154 6 = true ∧ ck2s cX11_will 27 16 (-2) = true ∧ ck1 cX11_will 29 172 = true := by decide +kernel
theorem dX11_will_15 : decode cX11_will 15 = .ok (.ifCond .eq 12, 3) := dk_153 dg_cX11_will_1071.1
theorem dX11_will_18 : decode cX11_will 18 = .ok (.iload_n 3, 1) := dk_29 dg_cX11_will_1071.2.1
theorem dX11_will_19 : decode cX11_will 19 = .ok (.iconst 0, 1) := dk_3 dg_cX11_will_1071.2.2.1
theorem dX11_will_20 : decode cX11_will 20 = .ok (.iconst 1, 1) := dk_4 dg_cX11_will_1071.2.2.2.1
theorem dX11_will_21 : decode cX11_will 21 = .ok (.invokestatic 417, 3) := dk_184 dg_cX11_will_1071.2.2.2.2.1
theorem dX11_will_24 : decode cX11_will 24 = .ok (.ifCond .ne 6, 3) := dk_154 dg_cX11_will_1071.2.2.2.2.2.1
theorem dX11_will_27 : decode cX11_will 27 = .ok (.bipush (-2), 2) := dk_16 dg_cX11_will_1071.2.2.2.2.2.2.1
theorem dX11_will_29 : decode cX11_will 29 = .ok (.ireturn, 1) := dk_172 dg_cX11_will_1071.2.2.2.2.2.2.2
theorem dg_cX11_will_1072 : ck1 cX11_will 30 42 = true ∧ ck3 cX11_will 31 182 449 = true ∧ ck1 cX11_will 34 3 = true ∧ ck2 cX11_will 35 54 4 = true ∧ ck2 cX11_will 37 21 4 = true ∧ ck1 cX11_will 39 28 = true ∧ ck3s cX11_will 40 162 31 = true ∧ ck1 cX11_will 43 42 = true := by decide +kernel
theorem dX11_will_30 : decode cX11_will 30 = .ok (.aload_n 0, 1) := dk_42 dg_cX11_will_1072.1
theorem dX11_will_31 : decode cX11_will 31 = .ok (.invokevirtual 449, 3) := dk_182 dg_cX11_will_1072.2.1
theorem dX11_will_34 : decode cX11_will 34 = .ok (.iconst 0, 1) := dk_3 dg_cX11_will_1072.2.2.1
theorem dX11_will_35 : decode cX11_will 35 = .ok (.istore 4, 2) := dk_54 dg_cX11_will_1072.2.2.2.1
theorem dX11_will_37 : decode cX11_will 37 = .ok (.iload 4, 2) := dk_21 dg_cX11_will_1072.2.2.2.2.1
theorem dX11_will_39 : decode cX11_will 39 = .ok (.iload_n 2, 1) := dk_28 dg_cX11_will_1072.2.2.2.2.2.1
theorem dX11_will_40 : decode cX11_will 40 = .ok (.if_icmp .ge 31, 3) := dk_162 dg_cX11_will_1072.2.2.2.2.2.2.1
theorem dX11_will_43 : decode cX11_will 43 = .ok (.aload_n 0, 1) := dk_42 dg_cX11_will_1072.2.2.2.2.2.2.2
theorem dg_cX11_will_1073 : ck1 cX11_will 44 29 = true ∧ ck1 cX11_will 45 4 = true ∧ ck3s cX11_will 46 160 14 = true ∧ ck1 cX11_will 49 42 = true ∧ ck3 cX11_will 50 182 461 = true ∧ ck3s cX11_will 53 153 7 = true ∧ ck1 cX11_will 56 4 = true ∧ ck3s cX11_will 57 167 4 = true := by decide +kernel
theorem dX11_will_44 : decode cX11_will 44 = .ok (.iload_n 3, 1) := dk_29 dg_cX11_will_1073.1
theorem dX11_will_45 : decode cX11_will 45 = .ok (.iconst 1, 1) := dk_4 dg_cX11_will_1073.2.1
theorem dX11_will_46 : decode cX11_will 46 = .ok (.if_icmp .ne 14, 3) := dk_160 dg_cX11_will_1073.2.2.1
theorem dX11_will_49 : decode cX11_will 49 = .ok (.aload_n 0, 1) := dk_42 dg_cX11_will_1073.2.2.2.1
theorem dX11_will_50 : decode cX11_will 50 = .ok (.invokevirtual 461, 3) := dk_182 dg_cX11_will_1073.2.2.2.2.1
theorem dX11_will_53 : decode cX11_will 53 = .ok (.ifCond .eq 7, 3) := dk_153 dg_cX11_will_1073.2.2.2.2.2.1
theorem dX11_will_56 : decode cX11_will 56 = .ok (.iconst 1, 1) := dk_4 dg_cX11_will_1073.2.2.2.2.2.2.1
theorem dX11_will_57 : decode cX11_will 57 = .ok (.goto 4, 3) := dk_167 dg_cX11_will_1073.2.2.2.2.2.2.2
theorem dg_cX11_will_1074 : ck1 cX11_will 60 3 = true ∧ ck3 cX11_will 61 182 464 = true := by decide +kernel
theorem dX11_will_60 : decode cX11_will 60 = .ok (.iconst 0, 1) := dk_3 dg_cX11_will_1074.1
theorem dX11_will_61 : decode cX11_will 61 = .ok (.invokevirtual 464, 3) := dk_182 dg_cX11_will_1074.2
def dS_cX11_will_1 : List UInt8 := 87 :: 132 :: 4 :: 1 :: 167 :: 255 :: 225 :: 42 :: 180 :: 0 :: 96 :: 16 :: 6 :: 27 :: 96 :: 46 :: 172 :: []
def dS_cX11_will_0 : List UInt8 := 42 :: 27 :: 182 :: 1 :: 190 :: 153 :: 0 :: 22 :: 28 :: 3 :: 16 :: 60 :: 184 :: 1 :: 161 :: 153 :: 0 :: 12 :: 29 :: 3 :: 4 :: 184 :: 1 :: 161 :: 154 :: 0 :: 6 :: 16 :: 254 :: 172 :: 42 :: 182 :: 1 :: 193 :: 3 :: 54 :: 4 :: 21 :: 4 :: 28 :: 162 :: 0 :: 31 :: 42 :: 29 :: 4 :: 160 :: 0 :: 14 :: 42 :: 182 :: 1 :: 205 :: 153 :: 0 :: 7 :: 4 :: 167 :: 0 :: 4 :: 3 :: 182 :: 1 :: 208 :: dS_cX11_will_1
theorem dT_cX11_will_0 : cX11_will.data.toList.drop 0 = dS_cX11_will_0 := by decide +kernel
theorem dT_cX11_will_1 : cX11_will.data.toList.drop 64 = dS_cX11_will_1 := ck_nx dT_cX11_will_0 (by decide +kernel) rfl
theorem dg_cX11_will_1075 : ck1L dS_cX11_will_1 0 87 = true ∧ ck3iL dS_cX11_will_1 1 132 4 1 = true ∧ ck3sL dS_cX11_will_1 4 167 (-31) = true ∧ ck1L dS_cX11_will_1 7 42 = true ∧ ck3L dS_cX11_will_1 8 180 96 = true ∧ ck2sL dS_cX11_will_1 11 16 6 = true ∧ ck1L dS_cX11_will_1 13 27 = true ∧ ck1L dS_cX11_will_1 14 96 = true := by decide +kernel
theorem dX11_will_64 : decode cX11_will 64 = .ok (.pop, 1) := dk_87 (ck1_s (r := 0) dT_cX11_will_1 rfl dg_cX11_will_1075.1)
theorem dX11_will_65 : decode cX11_will 65 = .ok (.iinc 4 1, 3) := dk_132 (ck3i_s (r := 1) dT_cX11_will_1 rfl dg_cX11_will_1075.2.1)
theorem dX11_will_68 : decode cX11_will 68 = .ok (.goto (-31), 3) := dk_167 (ck3s_s (r := 4) dT_cX11_will_1 rfl dg_cX11_will_1075.2.2.1)
theorem dX11_will_71 : decode cX11_will 71 = .ok (.aload_n 0, 1) := dk_42 (ck1_s (r := 7) dT_cX11_will_1 rfl dg_cX11_will_1075.2.2.2.1)
theorem dX11_will_72 : decode cX11_will 72 = .ok (.getfield 96, 3) := dk_180 (ck3_s (r := 8) dT_cX11_will_1 rfl dg_cX11_will_1075.2.2.2.2.1)
theorem dX11_will_75 : decode cX11_will 75 = .ok (.bipush 6, 2) := dk_16 (ck2s_s (r := 11) dT_cX11_will_1 rfl dg_cX11_will_1075.2.2.2.2.2.1)
theorem dX11_will_77 : decode cX11_will 77 = .ok (.iload_n 1, 1) := dk_27 (ck1_s (r := 13) dT_cX11_will_1 rfl dg_cX11_will_1075.2.2.2.2.2.2.1)
theorem dX11_will_78 : decode cX11_will 78 = .ok (.iadd, 1) := dk_96 (ck1_s (r := 14) dT_cX11_will_1 rfl dg_cX11_will_1075.2.2.2.2.2.2.2)
theorem dg_cX11_will_1076 : ck1L dS_cX11_will_1 15 46 = true ∧ ck1L dS_cX11_will_1 16 172 = true := by decide +kernel
theorem dX11_will_79 : decode cX11_will 79 = .ok (.iaload, 1) := dk_46 (ck1_s (r := 15) dT_cX11_will_1 rfl dg_cX11_will_1076.1)
theorem dX11_will_80 : decode cX11_will 80 = .ok (.ireturn, 1) := dk_172 (ck1_s (r := 16) dT_cX11_will_1 rfl dg_cX11_will_1076.2)
theorem dg_cX11_wings_1077 : ck1 cX11_wings 0 27 = true ∧ ck1 cX11_wings 1 3 = true ∧ ck1 cX11_wings 2 4 = true ∧ ck3 cX11_wings 3 184 417 = true ∧ ck3s cX11_wings 6 154 5 = true ∧ ck1 cX11_wings 9 2 = true ∧ ck1 cX11_wings 10 172 = true ∧ ck1 cX11_wings 11 42 = true := by decide +kernel
theorem dX11_wings_0 : decode cX11_wings 0 = .ok (.iload_n 1, 1) := dk_27 dg_cX11_wings_1077.1
theorem dX11_wings_1 : decode cX11_wings 1 = .ok (.iconst 0, 1) := dk_3 dg_cX11_wings_1077.2.1
theorem dX11_wings_2 : decode cX11_wings 2 = .ok (.iconst 1, 1) := dk_4 dg_cX11_wings_1077.2.2.1
theorem dX11_wings_3 : decode cX11_wings 3 = .ok (.invokestatic 417, 3) := dk_184 dg_cX11_wings_1077.2.2.2.1
theorem dX11_wings_6 : decode cX11_wings 6 = .ok (.ifCond .ne 5, 3) := dk_154 dg_cX11_wings_1077.2.2.2.2.1
theorem dX11_wings_9 : decode cX11_wings 9 = .ok (.iconst (-1), 1) := dk_2 dg_cX11_wings_1077.2.2.2.2.2.1
theorem dX11_wings_10 : decode cX11_wings 10 = .ok (.ireturn, 1) := dk_172 dg_cX11_wings_1077.2.2.2.2.2.2.1
theorem dX11_wings_11 : decode cX11_wings 11 = .ok (.aload_n 0, 1) := dk_42 dg_cX11_wings_1077.2.2.2.2.2.2.2
theorem dg_cX11_wings_1078 : ck3 cX11_wings 12 182 449 = true ∧ ck1 cX11_wings 15 42 = true ∧ ck3 cX11_wings 16 182 440 = true ∧ ck1 cX11_wings 19 61 = true ∧ ck1 cX11_wings 20 3 = true ∧ ck1 cX11_wings 21 62 = true ∧ ck1 cX11_wings 22 8 = true ∧ ck2 cX11_wings 23 54 4 = true := by decide +kernel
theorem dX11_wings_12 : decode cX11_wings 12 = .ok (.invokevirtual 449, 3) := dk_182 dg_cX11_wings_1078.1
theorem dX11_wings_15 : decode cX11_wings 15 = .ok (.aload_n 0, 1) := dk_42 dg_cX11_wings_1078.2.1
theorem dX11_wings_16 : decode cX11_wings 16 = .ok (.invokevirtual 440, 3) := dk_182 dg_cX11_wings_1078.2.2.1
theorem dX11_wings_19 : decode cX11_wings 19 = .ok (.istore_n 2, 1) := dk_61 dg_cX11_wings_1078.2.2.2.1
theorem dX11_wings_20 : decode cX11_wings 20 = .ok (.iconst 0, 1) := dk_3 dg_cX11_wings_1078.2.2.2.2.1
theorem dX11_wings_21 : decode cX11_wings 21 = .ok (.istore_n 3, 1) := dk_62 dg_cX11_wings_1078.2.2.2.2.2.1
theorem dX11_wings_22 : decode cX11_wings 22 = .ok (.iconst 5, 1) := dk_8 dg_cX11_wings_1078.2.2.2.2.2.2.1
theorem dX11_wings_23 : decode cX11_wings 23 = .ok (.istore 4, 2) := dk_54 dg_cX11_wings_1078.2.2.2.2.2.2.2
theorem dg_cX11_wings_1079 : ck2 cX11_wings 25 21 4 = true ∧ ck3s cX11_wings 27 155 28 = true ∧ ck1 cX11_wings 30 28 = true ∧ ck2 cX11_wings 31 21 4 = true ∧ ck1 cX11_wings 33 122 = true ∧ ck1 cX11_wings 34 4 = true ∧ ck1 cX11_wings 35 126 = true ∧ ck1 cX11_wings 36 4 = true := by decide +kernel
theorem dX11_wings_25 : decode cX11_wings 25 = .ok (.iload 4, 2) := dk_21 dg_cX11_wings_1079.1
theorem dX11_wings_27 : decode cX11_wings 27 = .ok (.ifCond .lt 28, 3) := dk_155 dg_cX11_wings_1079.2.1
