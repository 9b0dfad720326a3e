theorem dg_cJ6_bitCount_0f7a4_0 : ck1 cJ6_bitCount_0f7a4 0 26 = true ∧ ck1 cJ6_bitCount_0f7a4 1 26 = true ∧ ck1 cJ6_bitCount_0f7a4 2 4 = true ∧ ck1 cJ6_bitCount_0f7a4 3 124 = true ∧ ck3 cJ6_bitCount_0f7a4 4 19 265 = true ∧ ck1 cJ6_bitCount_0f7a4 7 126 = true ∧ ck1 cJ6_bitCount_0f7a4 8 100 = true ∧ ck1 cJ6_bitCount_0f7a4 9 59 = true := by decide +kernel
theorem dJ6_bitCount_0f7a4_0 : decode cJ6_bitCount_0f7a4 0 = .ok (.iload_n 0, 1) := dk_26 dg_cJ6_bitCount_0f7a4_0.1
theorem dJ6_bitCount_0f7a4_1 : decode cJ6_bitCount_0f7a4 1 = .ok (.iload_n 0, 1) := dk_26 dg_cJ6_bitCount_0f7a4_0.2.1
theorem dJ6_bitCount_0f7a4_2 : decode cJ6_bitCount_0f7a4 2 = .ok (.iconst 1, 1) := dk_4 dg_cJ6_bitCount_0f7a4_0.2.2.1
theorem dJ6_bitCount_0f7a4_3 : decode cJ6_bitCount_0f7a4 3 = .ok (.iushr, 1) := dk_124 dg_cJ6_bitCount_0f7a4_0.2.2.2.1
theorem dJ6_bitCount_0f7a4_4 : decode cJ6_bitCount_0f7a4 4 = .ok (.ldc_w 265, 3) := dk_19 dg_cJ6_bitCount_0f7a4_0.2.2.2.2.1
theorem dJ6_bitCount_0f7a4_7 : decode cJ6_bitCount_0f7a4 7 = .ok (.iand, 1) := dk_126 dg_cJ6_bitCount_0f7a4_0.2.2.2.2.2.1
theorem dJ6_bitCount_0f7a4_8 : decode cJ6_bitCount_0f7a4 8 = .ok (.isub, 1) := dk_100 dg_cJ6_bitCount_0f7a4_0.2.2.2.2.2.2.1
theorem dJ6_bitCount_0f7a4_9 : decode cJ6_bitCount_0f7a4 9 = .ok (.istore_n 0, 1) := dk_59 dg_cJ6_bitCount_0f7a4_0.2.2.2.2.2.2.2
theorem dg_cJ6_bitCount_0f7a4_1 : ck1 cJ6_bitCount_0f7a4 10 26 = true ∧ ck3 cJ6_bitCount_0f7a4 11 19 266 = true ∧ ck1 cJ6_bitCount_0f7a4 14 126 = true ∧ ck1 cJ6_bitCount_0f7a4 15 26 = true ∧ ck1 cJ6_bitCount_0f7a4 16 5 = true ∧ ck1 cJ6_bitCount_0f7a4 17 124 = true ∧ ck3 cJ6_bitCount_0f7a4 18 19 266 = true ∧ ck1 cJ6_bitCount_0f7a4 21 126 = true := by decide +kernel
theorem dJ6_bitCount_0f7a4_10 : decode cJ6_bitCount_0f7a4 10 = .ok (.iload_n 0, 1) := dk_26 dg_cJ6_bitCount_0f7a4_1.1
theorem dJ6_bitCount_0f7a4_11 : decode cJ6_bitCount_0f7a4 11 = .ok (.ldc_w 266, 3) := dk_19 dg_cJ6_bitCount_0f7a4_1.2.1
theorem dJ6_bitCount_0f7a4_14 : decode cJ6_bitCount_0f7a4 14 = .ok (.iand, 1) := dk_126 dg_cJ6_bitCount_0f7a4_1.2.2.1
theorem dJ6_bitCount_0f7a4_15 : decode cJ6_bitCount_0f7a4 15 = .ok (.iload_n 0, 1) := dk_26 dg_cJ6_bitCount_0f7a4_1.2.2.2.1
theorem dJ6_bitCount_0f7a4_16 : decode cJ6_bitCount_0f7a4 16 = .ok (.iconst 2, 1) := dk_5 dg_cJ6_bitCount_0f7a4_1.2.2.2.2.1
theorem dJ6_bitCount_0f7a4_17 : decode cJ6_bitCount_0f7a4 17 = .ok (.iushr, 1) := dk_124 dg_cJ6_bitCount_0f7a4_1.2.2.2.2.2.1
theorem dJ6_bitCount_0f7a4_18 : decode cJ6_bitCount_0f7a4 18 = .ok (.ldc_w 266, 3) := dk_19 dg_cJ6_bitCount_0f7a4_1.2.2.2.2.2.2.1
theorem dJ6_bitCount_0f7a4_21 : decode cJ6_bitCount_0f7a4 21 = .ok (.iand, 1) := dk_126 dg_cJ6_bitCount_0f7a4_1.2.2.2.2.2.2.2
theorem dg_cJ6_bitCount_0f7a4_2 : ck1 cJ6_bitCount_0f7a4 22 96 = true ∧ ck1 cJ6_bitCount_0f7a4 23 59 = true ∧ ck1 cJ6_bitCount_0f7a4 24 26 = true ∧ ck1 cJ6_bitCount_0f7a4 25 26 = true ∧ ck1 cJ6_bitCount_0f7a4 26 7 = true ∧ ck1 cJ6_bitCount_0f7a4 27 124 = true ∧ ck1 cJ6_bitCount_0f7a4 28 96 = true ∧ ck3 cJ6_bitCount_0f7a4 29 19 267 = true := by decide +kernel
theorem dJ6_bitCount_0f7a4_22 : decode cJ6_bitCount_0f7a4 22 = .ok (.iadd, 1) := dk_96 dg_cJ6_bitCount_0f7a4_2.1
theorem dJ6_bitCount_0f7a4_23 : decode cJ6_bitCount_0f7a4 23 = .ok (.istore_n 0, 1) := dk_59 dg_cJ6_bitCount_0f7a4_2.2.1
theorem dJ6_bitCount_0f7a4_24 : decode cJ6_bitCount_0f7a4 24 = .ok (.iload_n 0, 1) := dk_26 dg_cJ6_bitCount_0f7a4_2.2.2.1
theorem dJ6_bitCount_0f7a4_25 : decode cJ6_bitCount_0f7a4 25 = .ok (.iload_n 0, 1) := dk_26 dg_cJ6_bitCount_0f7a4_2.2.2.2.1
theorem dJ6_bitCount_0f7a4_26 : decode cJ6_bitCount_0f7a4 26 = .ok (.iconst 4, 1) := dk_7 dg_cJ6_bitCount_0f7a4_2.2.2.2.2.1
theorem dJ6_bitCount_0f7a4_27 : decode cJ6_bitCount_0f7a4 27 = .ok (.iushr, 1) := dk_124 dg_cJ6_bitCount_0f7a4_2.2.2.2.2.2.1
theorem dJ6_bitCount_0f7a4_28 : decode cJ6_bitCount_0f7a4 28 = .ok (.iadd, 1) := dk_96 dg_cJ6_bitCount_0f7a4_2.2.2.2.2.2.2.1
theorem dJ6_bitCount_0f7a4_29 : decode cJ6_bitCount_0f7a4 29 = .ok (.ldc_w 267, 3) := dk_19 dg_cJ6_bitCount_0f7a4_2.2.2.2.2.2.2.2
theorem dg_cJ6_bitCount_0f7a4_3 : ck1 cJ6_bitCount_0f7a4 32 126 = true ∧ ck1 cJ6_bitCount_0f7a4 33 59 = true ∧ ck1 cJ6_bitCount_0f7a4 34 26 = true ∧ ck1 cJ6_bitCount_0f7a4 35 26 = true ∧ ck2s cJ6_bitCount_0f7a4 36 16 8 = true ∧ ck1 cJ6_bitCount_0f7a4 38 124 = true ∧ ck1 cJ6_bitCount_0f7a4 39 96 = true ∧ ck1 cJ6_bitCount_0f7a4 40 59 = true := by decide +kernel
theorem dJ6_bitCount_0f7a4_32 : decode cJ6_bitCount_0f7a4 32 = .ok (.iand, 1) := dk_126 dg_cJ6_bitCount_0f7a4_3.1
theorem dJ6_bitCount_0f7a4_33 : decode cJ6_bitCount_0f7a4 33 = .ok (.istore_n 0, 1) := dk_59 dg_cJ6_bitCount_0f7a4_3.2.1
theorem dJ6_bitCount_0f7a4_34 : decode cJ6_bitCount_0f7a4 34 = .ok (.iload_n 0, 1) := dk_26 dg_cJ6_bitCount_0f7a4_3.2.2.1
theorem dJ6_bitCount_0f7a4_35 : decode cJ6_bitCount_0f7a4 35 = .ok (.iload_n 0, 1) := dk_26 dg_cJ6_bitCount_0f7a4_3.2.2.2.1
theorem dJ6_bitCount_0f7a4_36 : decode cJ6_bitCount_0f7a4 36 = .ok (.bipush 8, 2) := dk_16 dg_cJ6_bitCount_0f7a4_3.2.2.2.2.1
theorem dJ6_bitCount_0f7a4_38 : decode cJ6_bitCount_0f7a4 38 = .ok (.iushr, 1) := dk_124 dg_cJ6_bitCount_0f7a4_3.2.2.2.2.2.1
theorem dJ6_bitCount_0f7a4_39 : decode cJ6_bitCount_0f7a4 39 = .ok (.iadd, 1) := dk_96 dg_cJ6_bitCount_0f7a4_3.2.2.2.2.2.2.1
theorem dJ6_bitCount_0f7a4_40 : decode cJ6_bitCount_0f7a4 40 = .ok (.istore_n 0, 1) := dk_59 dg_cJ6_bitCount_0f7a4_3.2.2.2.2.2.2.2
theorem dg_cJ6_bitCount_0f7a4_4 : ck1 cJ6_bitCount_0f7a4 41 26 = true ∧ ck1 cJ6_bitCount_0f7a4 42 26 = true ∧ ck2s cJ6_bitCount_0f7a4 43 16 16 = true ∧ ck1 cJ6_bitCount_0f7a4 45 124 = true ∧ ck1 cJ6_bitCount_0f7a4 46 96 = true ∧ ck1 cJ6_bitCount_0f7a4 47 59 = true ∧ ck1 cJ6_bitCount_0f7a4 48 26 = true ∧ ck2s cJ6_bitCount_0f7a4 49 16 63 = true := by decide +kernel
theorem dJ6_bitCount_0f7a4_41 : decode cJ6_bitCount_0f7a4 41 = .ok (.iload_n 0, 1) := dk_26 dg_cJ6_bitCount_0f7a4_4.1
theorem dJ6_bitCount_0f7a4_42 : decode cJ6_bitCount_0f7a4 42 = .ok (.iload_n 0, 1) := dk_26 dg_cJ6_bitCount_0f7a4_4.2.1
theorem dJ6_bitCount_0f7a4_43 : decode cJ6_bitCount_0f7a4 43 = .ok (.bipush 16, 2) := dk_16 dg_cJ6_bitCount_0f7a4_4.2.2.1
theorem dJ6_bitCount_0f7a4_45 : decode cJ6_bitCount_0f7a4 45 = .ok (.iushr, 1) := dk_124 dg_cJ6_bitCount_0f7a4_4.2.2.2.1
theorem dJ6_bitCount_0f7a4_46 : decode cJ6_bitCount_0f7a4 46 = .ok (.iadd, 1) := dk_96 dg_cJ6_bitCount_0f7a4_4.2.2.2.2.1
theorem dJ6_bitCount_0f7a4_47 : decode cJ6_bitCount_0f7a4 47 = .ok (.istore_n 0, 1) := dk_59 dg_cJ6_bitCount_0f7a4_4.2.2.2.2.2.1
theorem dJ6_bitCount_0f7a4_48 : decode cJ6_bitCount_0f7a4 48 = .ok (.iload_n 0, 1) := dk_26 dg_cJ6_bitCount_0f7a4_4.2.2.2.2.2.2.1
theorem dJ6_bitCount_0f7a4_49 : decode cJ6_bitCount_0f7a4 49 = .ok (.bipush 63, 2) := dk_16 dg_cJ6_bitCount_0f7a4_4.2.2.2.2.2.2.2
theorem dg_cJ6_bitCount_0f7a4_5 : ck1 cJ6_bitCount_0f7a4 51 126 = true ∧ ck1 cJ6_bitCount_0f7a4 52 172 = true := by decide +kernel
theorem dJ6_bitCount_0f7a4_51 : decode cJ6_bitCount_0f7a4 51 = .ok (.iand, 1) := dk_126 dg_cJ6_bitCount_0f7a4_5.1
theorem dJ6_bitCount_0f7a4_52 : decode cJ6_bitCount_0f7a4 52 = .ok (.ireturn, 1) := dk_172 dg_cJ6_bitCount_0f7a4_5.2
theorem dg_cJ6_lowestOneBit_0f7a4_6 : ck1 cJ6_lowestOneBit_0f7a4 0 26 = true ∧ ck1 cJ6_lowestOneBit_0f7a4 1 26 = true ∧ ck1 cJ6_lowestOneBit_0f7a4 2 116 = true ∧ ck1 cJ6_lowestOneBit_0f7a4 3 126 = true ∧ ck1 cJ6_lowestOneBit_0f7a4 4 172 = true := by decide +kernel
theorem dJ6_lowestOneBit_0f7a4_0 : decode cJ6_lowestOneBit_0f7a4 0 = .ok (.iload_n 0, 1) := dk_26 dg_cJ6_lowestOneBit_0f7a4_6.1
theorem dJ6_lowestOneBit_0f7a4_1 : decode cJ6_lowestOneBit_0f7a4 1 = .ok (.iload_n 0, 1) := dk_26 dg_cJ6_lowestOneBit_0f7a4_6.2.1
theorem dJ6_lowestOneBit_0f7a4_2 : decode cJ6_lowestOneBit_0f7a4 2 = .ok (.ineg, 1) := dk_116 dg_cJ6_lowestOneBit_0f7a4_6.2.2.1
theorem dJ6_lowestOneBit_0f7a4_3 : decode cJ6_lowestOneBit_0f7a4 3 = .ok (.iand, 1) := dk_126 dg_cJ6_lowestOneBit_0f7a4_6.2.2.2.1
theorem dJ6_lowestOneBit_0f7a4_4 : decode cJ6_lowestOneBit_0f7a4 4 = .ok (.ireturn, 1) := dk_172 dg_cJ6_lowestOneBit_0f7a4_6.2.2.2.2
theorem dg_cJ6_numberOfLeadingZeros_0f7a4_7 : ck1 cJ6_numberOfLeadingZeros_0f7a4 0 26 = true ∧ ck3s cJ6_numberOfLeadingZeros_0f7a4 1 157 14 = true ∧ ck1 cJ6_numberOfLeadingZeros_0f7a4 4 26 = true ∧ ck3s cJ6_numberOfLeadingZeros_0f7a4 5 154 8 = true ∧ ck2s cJ6_numberOfLeadingZeros_0f7a4 8 16 32 = true ∧ ck3s cJ6_numberOfLeadingZeros_0f7a4 10 167 4 = true ∧ ck1 cJ6_numberOfLeadingZeros_0f7a4 13 3 = true ∧ ck1 cJ6_numberOfLeadingZeros_0f7a4 14 172 = true := by decide +kernel
theorem dJ6_numberOfLeadingZeros_0f7a4_0 : decode cJ6_numberOfLeadingZeros_0f7a4 0 = .ok (.iload_n 0, 1) := dk_26 dg_cJ6_numberOfLeadingZeros_0f7a4_7.1
theorem dJ6_numberOfLeadingZeros_0f7a4_1 : decode cJ6_numberOfLeadingZeros_0f7a4 1 = .ok (.ifCond .gt 14, 3) := dk_157 dg_cJ6_numberOfLeadingZeros_0f7a4_7.2.1
theorem dJ6_numberOfLeadingZeros_0f7a4_4 : decode cJ6_numberOfLeadingZeros_0f7a4 4 = .ok (.iload_n 0, 1) := dk_26 dg_cJ6_numberOfLeadingZeros_0f7a4_7.2.2.1
theorem dJ6_numberOfLeadingZeros_0f7a4_5 : decode cJ6_numberOfLeadingZeros_0f7a4 5 = .ok (.ifCond .ne 8, 3) := dk_154 dg_cJ6_numberOfLeadingZeros_0f7a4_7.2.2.2.1
theorem dJ6_numberOfLeadingZeros_0f7a4_8 : decode cJ6_numberOfLeadingZeros_0f7a4 8 = .ok (.bipush 32, 2) := dk_16 dg_cJ6_numberOfLeadingZeros_0f7a4_7.2.2.2.2.1
theorem dJ6_numberOfLeadingZeros_0f7a4_10 : decode cJ6_numberOfLeadingZeros_0f7a4 10 = .ok (.goto 4, 3) := dk_167 dg_cJ6_numberOfLeadingZeros_0f7a4_7.2.2.2.2.2.1
theorem dJ6_numberOfLeadingZeros_0f7a4_13 : decode cJ6_numberOfLeadingZeros_0f7a4 13 = .ok (.iconst 0, 1) := dk_3 dg_cJ6_numberOfLeadingZeros_0f7a4_7.2.2.2.2.2.2.1
theorem dJ6_numberOfLeadingZeros_0f7a4_14 : decode cJ6_numberOfLeadingZeros_0f7a4 14 = .ok (.ireturn, 1) := dk_172 dg_cJ6_numberOfLeadingZeros_0f7a4_7.2.2.2.2.2.2.2
theorem dg_cJ6_numberOfLeadingZeros_0f7a4_8 : ck2s cJ6_numberOfLeadingZeros_0f7a4 15 16 31 = true ∧ ck1 cJ6_numberOfLeadingZeros_0f7a4 17 60 = true ∧ ck1 cJ6_numberOfLeadingZeros_0f7a4 18 26 = true ∧ ck3 cJ6_numberOfLeadingZeros_0f7a4 19 19 264 = true ∧ ck3s cJ6_numberOfLeadingZeros_0f7a4 22 161 11 = true ∧ ck3i cJ6_numberOfLeadingZeros_0f7a4 25 132 1 (-16) = true ∧ ck1 cJ6_numberOfLeadingZeros_0f7a4 28 26 = true ∧ ck2s cJ6_numberOfLeadingZeros_0f7a4 29 16 16 = true := by decide +kernel
theorem dJ6_numberOfLeadingZeros_0f7a4_15 : decode cJ6_numberOfLeadingZeros_0f7a4 15 = .ok (.bipush 31, 2) := dk_16 dg_cJ6_numberOfLeadingZeros_0f7a4_8.1
theorem dJ6_numberOfLeadingZeros_0f7a4_17 : decode cJ6_numberOfLeadingZeros_0f7a4 17 = .ok (.istore_n 1, 1) := dk_60 dg_cJ6_numberOfLeadingZeros_0f7a4_8.2.1
theorem dJ6_numberOfLeadingZeros_0f7a4_18 : decode cJ6_numberOfLeadingZeros_0f7a4 18 = .ok (.iload_n 0, 1) := dk_26 dg_cJ6_numberOfLeadingZeros_0f7a4_8.2.2.1
theorem dJ6_numberOfLeadingZeros_0f7a4_19 : decode cJ6_numberOfLeadingZeros_0f7a4 19 = .ok (.ldc_w 264, 3) := dk_19 dg_cJ6_numberOfLeadingZeros_0f7a4_8.2.2.2.1
theorem dJ6_numberOfLeadingZeros_0f7a4_22 : decode cJ6_numberOfLeadingZeros_0f7a4 22 = .ok (.if_icmp .lt 11, 3) := dk_161 dg_cJ6_numberOfLeadingZeros_0f7a4_8.2.2.2.2.1
theorem dJ6_numberOfLeadingZeros_0f7a4_25 : decode cJ6_numberOfLeadingZeros_0f7a4 25 = .ok (.iinc 1 (-16), 3) := dk_132 dg_cJ6_numberOfLeadingZeros_0f7a4_8.2.2.2.2.2.1
theorem dJ6_numberOfLeadingZeros_0f7a4_28 : decode cJ6_numberOfLeadingZeros_0f7a4 28 = .ok (.iload_n 0, 1) := dk_26 dg_cJ6_numberOfLeadingZeros_0f7a4_8.2.2.2.2.2.2.1
theorem dJ6_numberOfLeadingZeros_0f7a4_29 : decode cJ6_numberOfLeadingZeros_0f7a4 29 = .ok (.bipush 16, 2) := dk_16 dg_cJ6_numberOfLeadingZeros_0f7a4_8.2.2.2.2.2.2.2
theorem dg_cJ6_numberOfLeadingZeros_0f7a4_9 : ck1 cJ6_numberOfLeadingZeros_0f7a4 31 124 = true ∧ ck1 cJ6_numberOfLeadingZeros_0f7a4 32 59 = true ∧ ck1 cJ6_numberOfLeadingZeros_0f7a4 33 26 = true ∧ ck3s cJ6_numberOfLeadingZeros_0f7a4 34 17 256 = true ∧ ck3s cJ6_numberOfLeadingZeros_0f7a4 37 161 11 = true ∧ ck3i cJ6_numberOfLeadingZeros_0f7a4 40 132 1 (-8) = true ∧ ck1 cJ6_numberOfLeadingZeros_0f7a4 43 26 = true ∧ ck2s cJ6_numberOfLeadingZeros_0f7a4 44 16 8 = true := by decide +kernel
theorem dJ6_numberOfLeadingZeros_0f7a4_31 : decode cJ6_numberOfLeadingZeros_0f7a4 31 = .ok (.iushr, 1) := dk_124 dg_cJ6_numberOfLeadingZeros_0f7a4_9.1
theorem dJ6_numberOfLeadingZeros_0f7a4_32 : decode cJ6_numberOfLeadingZeros_0f7a4 32 = .ok (.istore_n 0, 1) := dk_59 dg_cJ6_numberOfLeadingZeros_0f7a4_9.2.1
theorem dJ6_numberOfLeadingZeros_0f7a4_33 : decode cJ6_numberOfLeadingZeros_0f7a4 33 = .ok (.iload_n 0, 1) := dk_26 dg_cJ6_numberOfLeadingZeros_0f7a4_9.2.2.1
theorem dJ6_numberOfLeadingZeros_0f7a4_34 : decode cJ6_numberOfLeadingZeros_0f7a4 34 = .ok (.sipush 256, 3) := dk_17 dg_cJ6_numberOfLeadingZeros_0f7a4_9.2.2.2.1
theorem dJ6_numberOfLeadingZeros_0f7a4_37 : decode cJ6_numberOfLeadingZeros_0f7a4 37 = .ok (.if_icmp .lt 11, 3) := dk_161 dg_cJ6_numberOfLeadingZeros_0f7a4_9.2.2.2.2.1
theorem dJ6_numberOfLeadingZeros_0f7a4_40 : decode cJ6_numberOfLeadingZeros_0f7a4 40 = .ok (.iinc 1 (-8), 3) := dk_132 dg_cJ6_numberOfLeadingZeros_0f7a4_9.2.2.2.2.2.1
theorem dJ6_numberOfLeadingZeros_0f7a4_43 : decode cJ6_numberOfLeadingZeros_0f7a4 43 = .ok (.iload_n 0, 1) := dk_26 dg_cJ6_numberOfLeadingZeros_0f7a4_9.2.2.2.2.2.2.1
theorem dJ6_numberOfLeadingZeros_0f7a4_44 : decode cJ6_numberOfLeadingZeros_0f7a4 44 = .ok (.bipush 8, 2) := dk_16 dg_cJ6_numberOfLeadingZeros_0f7a4_9.2.2.2.2.2.2.2
theorem dg_cJ6_numberOfLeadingZeros_0f7a4_10 : ck1 cJ6_numberOfLeadingZeros_0f7a4 46 124 = true ∧ ck1 cJ6_numberOfLeadingZeros_0f7a4 47 59 = true ∧ ck1 cJ6_numberOfLeadingZeros_0f7a4 48 26 = true ∧ ck2s cJ6_numberOfLeadingZeros_0f7a4 49 16 16 = true ∧ ck3s cJ6_numberOfLeadingZeros_0f7a4 51 161 10 = true ∧ ck3i cJ6_numberOfLeadingZeros_0f7a4 54 132 1 (-4) = true ∧ ck1 cJ6_numberOfLeadingZeros_0f7a4 57 26 = true ∧ ck1 cJ6_numberOfLeadingZeros_0f7a4 58 7 = true := by decide +kernel
theorem dJ6_numberOfLeadingZeros_0f7a4_46 : decode cJ6_numberOfLeadingZeros_0f7a4 46 = .ok (.iushr, 1) := dk_124 dg_cJ6_numberOfLeadingZeros_0f7a4_10.1
theorem dJ6_numberOfLeadingZeros_0f7a4_47 : decode cJ6_numberOfLeadingZeros_0f7a4 47 = .ok (.istore_n 0, 1) := dk_59 dg_cJ6_numberOfLeadingZeros_0f7a4_10.2.1
theorem dJ6_numberOfLeadingZeros_0f7a4_48 : decode cJ6_numberOfLeadingZeros_0f7a4 48 = .ok (.iload_n 0, 1) := dk_26 dg_cJ6_numberOfLeadingZeros_0f7a4_10.2.2.1
theorem dJ6_numberOfLeadingZeros_0f7a4_49 : decode cJ6_numberOfLeadingZeros_0f7a4 49 = .ok (.bipush 16, 2) := dk_16 dg_cJ6_numberOfLeadingZeros_0f7a4_10.2.2.2.1
theorem dJ6_numberOfLeadingZeros_0f7a4_51 : decode cJ6_numberOfLeadingZeros_0f7a4 51 = .ok (.if_icmp .lt 10, 3) := dk_161 dg_cJ6_numberOfLeadingZeros_0f7a4_10.2.2.2.2.1
theorem dJ6_numberOfLeadingZeros_0f7a4_54 : decode cJ6_numberOfLeadingZeros_0f7a4 54 = .ok (.iinc 1 (-4), 3) := dk_132 dg_cJ6_numberOfLeadingZeros_0f7a4_10.2.2.2.2.2.1
theorem dJ6_numberOfLeadingZeros_0f7a4_57 : decode cJ6_numberOfLeadingZeros_0f7a4 57 = .ok (.iload_n 0, 1) := dk_26 dg_cJ6_numberOfLeadingZeros_0f7a4_10.2.2.2.2.2.2.1
theorem dJ6_numberOfLeadingZeros_0f7a4_58 : decode cJ6_numberOfLeadingZeros_0f7a4 58 = .ok (.iconst 4, 1) := dk_7 dg_cJ6_numberOfLeadingZeros_0f7a4_10.2.2.2.2.2.2.2
theorem dg_cJ6_numberOfLeadingZeros_0f7a4_11 : ck1 cJ6_numberOfLeadingZeros_0f7a4 59 124 = true ∧ ck1 cJ6_numberOfLeadingZeros_0f7a4 60 59 = true ∧ ck1 cJ6_numberOfLeadingZeros_0f7a4 61 26 = true ∧ ck1 cJ6_numberOfLeadingZeros_0f7a4 62 7 = true ∧ ck3s cJ6_numberOfLeadingZeros_0f7a4 63 161 10 = true := by decide +kernel
theorem dJ6_numberOfLeadingZeros_0f7a4_59 : decode cJ6_numberOfLeadingZeros_0f7a4 59 = .ok (.iushr, 1) := dk_124 dg_cJ6_numberOfLeadingZeros_0f7a4_11.1
theorem dJ6_numberOfLeadingZeros_0f7a4_60 : decode cJ6_numberOfLeadingZeros_0f7a4 60 = .ok (.istore_n 0, 1) := dk_59 dg_cJ6_numberOfLeadingZeros_0f7a4_11.2.1
theorem dJ6_numberOfLeadingZeros_0f7a4_61 : decode cJ6_numberOfLeadingZeros_0f7a4 61 = .ok (.iload_n 0, 1) := dk_26 dg_cJ6_numberOfLeadingZeros_0f7a4_11.2.2.1
theorem dJ6_numberOfLeadingZeros_0f7a4_62 : decode cJ6_numberOfLeadingZeros_0f7a4 62 = .ok (.iconst 4, 1) := dk_7 dg_cJ6_numberOfLeadingZeros_0f7a4_11.2.2.2.1
theorem dJ6_numberOfLeadingZeros_0f7a4_63 : decode cJ6_numberOfLeadingZeros_0f7a4 63 = .ok (.if_icmp .lt 10, 3) := dk_161 dg_cJ6_numberOfLeadingZeros_0f7a4_11.2.2.2.2
def dS_cJ6_numberOfLeadingZeros_0f7a4_1 : List UInt8 := 0 :: 10 :: 132 :: 1 :: 254 :: 26 :: 5 :: 124 :: 59 :: 27 :: 26 :: 4 :: 124 :: 100 :: 172 :: []
def dS_cJ6_numberOfLeadingZeros_0f7a4_0 : List UInt8 := 26 :: 157 :: 0 :: 14 :: 26 :: 154 :: 0 :: 8 :: 16 :: 32 :: 167 :: 0 :: 4 :: 3 :: 172 :: 16 :: 31 :: 60 :: 26 :: 19 :: 1 :: 8 :: 161 :: 0 :: 11 :: 132 :: 1 :: 240 :: 26 :: 16 :: 16 :: 124 :: 59 :: 26 :: 17 :: 1 :: 0 :: 161 :: 0 :: 11 :: 132 :: 1 :: 248 :: 26 :: 16 :: 8 :: 124 :: 59 :: 26 :: 16 :: 16 :: 161 :: 0 :: 10 :: 132 :: 1 :: 252 :: 26 :: 7 :: 124 :: 59 :: 26 :: 7 :: 161 :: dS_cJ6_numberOfLeadingZeros_0f7a4_1
theorem dT_cJ6_numberOfLeadingZeros_0f7a4_0 : cJ6_numberOfLeadingZeros_0f7a4.data.toList.drop 0 = dS_cJ6_numberOfLeadingZeros_0f7a4_0 := by decide +kernel
theorem dT_cJ6_numberOfLeadingZeros_0f7a4_1 : cJ6_numberOfLeadingZeros_0f7a4.data.toList.drop 64 = dS_cJ6_numberOfLeadingZeros_0f7a4_1 := ck_nx dT_cJ6_numberOfLeadingZeros_0f7a4_0 (by decide +kernel) rfl
theorem dg_cJ6_numberOfLeadingZeros_0f7a4_12 : ck3iL dS_cJ6_numberOfLeadingZeros_0f7a4_1 2 132 1 (-2) = true ∧ ck1L dS_cJ6_numberOfLeadingZeros_0f7a4_1 5 26 = true ∧ ck1L dS_cJ6_numberOfLeadingZeros_0f7a4_1 6 5 = true ∧ ck1L dS_cJ6_numberOfLeadingZeros_0f7a4_1 7 124 = true ∧ ck1L dS_cJ6_numberOfLeadingZeros_0f7a4_1 8 59 = true ∧ ck1L dS_cJ6_numberOfLeadingZeros_0f7a4_1 9 27 = true ∧ ck1L dS_cJ6_numberOfLeadingZeros_0f7a4_1 10 26 = true ∧ ck1L dS_cJ6_numberOfLeadingZeros_0f7a4_1 11 4 = true := by decide +kernel
theorem dJ6_numberOfLeadingZeros_0f7a4_66 : decode cJ6_numberOfLeadingZeros_0f7a4 66 = .ok (.iinc 1 (-2), 3) := dk_132 (ck3i_s (r := 2) dT_cJ6_numberOfLeadingZeros_0f7a4_1 rfl dg_cJ6_numberOfLeadingZeros_0f7a4_12.1)
theorem dJ6_numberOfLeadingZeros_0f7a4_69 : decode cJ6_numberOfLeadingZeros_0f7a4 69 = .ok (.iload_n 0, 1) := dk_26 (ck1_s (r := 5) dT_cJ6_numberOfLeadingZeros_0f7a4_1 rfl dg_cJ6_numberOfLeadingZeros_0f7a4_12.2.1)
theorem dJ6_numberOfLeadingZeros_0f7a4_70 : decode cJ6_numberOfLeadingZeros_0f7a4 70 = .ok (.iconst 2, 1) := dk_5 (ck1_s (r := 6) dT_cJ6_numberOfLeadingZeros_0f7a4_1 rfl dg_cJ6_numberOfLeadingZeros_0f7a4_12.2.2.1)
theorem dJ6_numberOfLeadingZeros_0f7a4_71 : decode cJ6_numberOfLeadingZeros_0f7a4 71 = .ok (.iushr, 1) := dk_124 (ck1_s (r := 7) dT_cJ6_numberOfLeadingZeros_0f7a4_1 rfl dg_cJ6_numberOfLeadingZeros_0f7a4_12.2.2.2.1)
theorem dJ6_numberOfLeadingZeros_0f7a4_72 : decode cJ6_numberOfLeadingZeros_0f7a4 72 = .ok (.istore_n 0, 1) := dk_59 (ck1_s (r := 8) dT_cJ6_numberOfLeadingZeros_0f7a4_1 rfl dg_cJ6_numberOfLeadingZeros_0f7a4_12.2.2.2.2.1)
theorem dJ6_numberOfLeadingZeros_0f7a4_73 : decode cJ6_numberOfLeadingZeros_0f7a4 73 = .ok (.iload_n 1, 1) := dk_27 (ck1_s (r := 9) dT_cJ6_numberOfLeadingZeros_0f7a4_1 rfl dg_cJ6_numberOfLeadingZeros_0f7a4_12.2.2.2.2.2.1)
theorem dJ6_numberOfLeadingZeros_0f7a4_74 : decode cJ6_numberOfLeadingZeros_0f7a4 74 = .ok (.iload_n 0, 1) := dk_26 (ck1_s (r := 10) dT_cJ6_numberOfLeadingZeros_0f7a4_1 rfl dg_cJ6_numberOfLeadingZeros_0f7a4_12.2.2.2.2.2.2.1)
theorem dJ6_numberOfLeadingZeros_0f7a4_75 : decode cJ6_numberOfLeadingZeros_0f7a4 75 = .ok (.iconst 1, 1) := dk_4 (ck1_s (r := 11) dT_cJ6_numberOfLeadingZeros_0f7a4_1 rfl dg_cJ6_numberOfLeadingZeros_0f7a4_12.2.2.2.2.2.2.2)
theorem dg_cJ6_numberOfLeadingZeros_0f7a4_13 : ck1L dS_cJ6_numberOfLeadingZeros_0f7a4_1 12 124 = true ∧ ck1L dS_cJ6_numberOfLeadingZeros_0f7a4_1 13 100 = true ∧ ck1L dS_cJ6_numberOfLeadingZeros_0f7a4_1 14 172 = true := by decide +kernel
theorem dJ6_numberOfLeadingZeros_0f7a4_76 : decode cJ6_numberOfLeadingZeros_0f7a4 76 = .ok (.iushr, 1) := dk_124 (ck1_s (r := 12) dT_cJ6_numberOfLeadingZeros_0f7a4_1 rfl dg_cJ6_numberOfLeadingZeros_0f7a4_13.1)
theorem dJ6_numberOfLeadingZeros_0f7a4_77 : decode cJ6_numberOfLeadingZeros_0f7a4 77 = .ok (.isub, 1) := dk_100 (ck1_s (r := 13) dT_cJ6_numberOfLeadingZeros_0f7a4_1 rfl dg_cJ6_numberOfLeadingZeros_0f7a4_13.2.1)
theorem dJ6_numberOfLeadingZeros_0f7a4_78 : decode cJ6_numberOfLeadingZeros_0f7a4 78 = .ok (.ireturn, 1) := dk_172 (ck1_s (r := 14) dT_cJ6_numberOfLeadingZeros_0f7a4_1 rfl dg_cJ6_numberOfLeadingZeros_0f7a4_13.2.2)
theorem dg_cJ6_numberOfTrailingZeros_0f7a4_14 : ck1 cJ6_numberOfTrailingZeros_0f7a4 0 26 = true ∧ ck1 cJ6_numberOfTrailingZeros_0f7a4 1 2 = true ∧ ck1 cJ6_numberOfTrailingZeros_0f7a4 2 130 = true ∧ ck1 cJ6_numberOfTrailingZeros_0f7a4 3 26 = true ∧ ck1 cJ6_numberOfTrailingZeros_0f7a4 4 4 = true ∧ ck1 cJ6_numberOfTrailingZeros_0f7a4 5 100 = true ∧ ck1 cJ6_numberOfTrailingZeros_0f7a4 6 126 = true ∧ ck1 cJ6_numberOfTrailingZeros_0f7a4 7 59 = true := by decide +kernel
theorem dJ6_numberOfTrailingZeros_0f7a4_0 : decode cJ6_numberOfTrailingZeros_0f7a4 0 = .ok (.iload_n 0, 1) := dk_26 dg_cJ6_numberOfTrailingZeros_0f7a4_14.1
theorem dJ6_numberOfTrailingZeros_0f7a4_1 : decode cJ6_numberOfTrailingZeros_0f7a4 1 = .ok (.iconst (-1), 1) := dk_2 dg_cJ6_numberOfTrailingZeros_0f7a4_14.2.1
theorem dJ6_numberOfTrailingZeros_0f7a4_2 : decode cJ6_numberOfTrailingZeros_0f7a4 2 = .ok (.ixor, 1) := dk_130 dg_cJ6_numberOfTrailingZeros_0f7a4_14.2.2.1
theorem dJ6_numberOfTrailingZeros_0f7a4_3 : decode cJ6_numberOfTrailingZeros_0f7a4 3 = .ok (.iload_n 0, 1) := dk_26 dg_cJ6_numberOfTrailingZeros_0f7a4_14.2.2.2.1
theorem dJ6_numberOfTrailingZeros_0f7a4_4 : decode cJ6_numberOfTrailingZeros_0f7a4 4 = .ok (.iconst 1, 1) := dk_4 dg_cJ6_numberOfTrailingZeros_0f7a4_14.2.2.2.2.1
theorem dJ6_numberOfTrailingZeros_0f7a4_5 : decode cJ6_numberOfTrailingZeros_0f7a4 5 = .ok (.isub, 1) := dk_100 dg_cJ6_numberOfTrailingZeros_0f7a4_14.2.2.2.2.2.1
theorem dJ6_numberOfTrailingZeros_0f7a4_6 : decode cJ6_numberOfTrailingZeros_0f7a4 6 = .ok (.iand, 1) := dk_126 dg_cJ6_numberOfTrailingZeros_0f7a4_14.2.2.2.2.2.2.1
theorem dJ6_numberOfTrailingZeros_0f7a4_7 : decode cJ6_numberOfTrailingZeros_0f7a4 7 = .ok (.istore_n 0, 1) := dk_59 dg_cJ6_numberOfTrailingZeros_0f7a4_14.2.2.2.2.2.2.2
theorem dg_cJ6_numberOfTrailingZeros_0f7a4_15 : ck1 cJ6_numberOfTrailingZeros_0f7a4 8 26 = true ∧ ck3s cJ6_numberOfTrailingZeros_0f7a4 9 157 8 = true ∧ ck1 cJ6_numberOfTrailingZeros_0f7a4 12 26 = true ∧ ck2s cJ6_numberOfTrailingZeros_0f7a4 13 16 32 = true ∧ ck1 cJ6_numberOfTrailingZeros_0f7a4 15 126 = true ∧ ck1 cJ6_numberOfTrailingZeros_0f7a4 16 172 = true ∧ ck1 cJ6_numberOfTrailingZeros_0f7a4 17 4 = true ∧ ck1 cJ6_numberOfTrailingZeros_0f7a4 18 60 = true := by decide +kernel
theorem dJ6_numberOfTrailingZeros_0f7a4_8 : decode cJ6_numberOfTrailingZeros_0f7a4 8 = .ok (.iload_n 0, 1) := dk_26 dg_cJ6_numberOfTrailingZeros_0f7a4_15.1
theorem dJ6_numberOfTrailingZeros_0f7a4_9 : decode cJ6_numberOfTrailingZeros_0f7a4 9 = .ok (.ifCond .gt 8, 3) := dk_157 dg_cJ6_numberOfTrailingZeros_0f7a4_15.2.1
theorem dJ6_numberOfTrailingZeros_0f7a4_12 : decode cJ6_numberOfTrailingZeros_0f7a4 12 = .ok (.iload_n 0, 1) := dk_26 dg_cJ6_numberOfTrailingZeros_0f7a4_15.2.2.1
theorem dJ6_numberOfTrailingZeros_0f7a4_13 : decode cJ6_numberOfTrailingZeros_0f7a4 13 = .ok (.bipush 32, 2) := dk_16 dg_cJ6_numberOfTrailingZeros_0f7a4_15.2.2.2.1
theorem dJ6_numberOfTrailingZeros_0f7a4_15 : decode cJ6_numberOfTrailingZeros_0f7a4 15 = .ok (.iand, 1) := dk_126 dg_cJ6_numberOfTrailingZeros_0f7a4_15.2.2.2.2.1
theorem dJ6_numberOfTrailingZeros_0f7a4_16 : decode cJ6_numberOfTrailingZeros_0f7a4 16 = .ok (.ireturn, 1) := dk_172 dg_cJ6_numberOfTrailingZeros_0f7a4_15.2.2.2.2.2.1
theorem dJ6_numberOfTrailingZeros_0f7a4_17 : decode cJ6_numberOfTrailingZeros_0f7a4 17 = .ok (.iconst 1, 1) := dk_4 dg_cJ6_numberOfTrailingZeros_0f7a4_15.2.2.2.2.2.2.1
theorem dJ6_numberOfTrailingZeros_0f7a4_18 : decode cJ6_numberOfTrailingZeros_0f7a4 18 = .ok (.istore_n 1, 1) := dk_60 dg_cJ6_numberOfTrailingZeros_0f7a4_15.2.2.2.2.2.2.2
theorem dg_cJ6_numberOfTrailingZeros_0f7a4_16 : ck1 cJ6_numberOfTrailingZeros_0f7a4 19 26 = true ∧ ck3 cJ6_numberOfTrailingZeros_0f7a4 20 19 264 = true ∧ ck3s cJ6_numberOfTrailingZeros_0f7a4 23 164 11 = true ∧ ck3i cJ6_numberOfTrailingZeros_0f7a4 26 132 1 16 = true ∧ ck1 cJ6_numberOfTrailingZeros_0f7a4 29 26 = true ∧ ck2s cJ6_numberOfTrailingZeros_0f7a4 30 16 16 = true ∧ ck1 cJ6_numberOfTrailingZeros_0f7a4 32 124 = true ∧ ck1 cJ6_numberOfTrailingZeros_0f7a4 33 59 = true := by decide +kernel
theorem dJ6_numberOfTrailingZeros_0f7a4_19 : decode cJ6_numberOfTrailingZeros_0f7a4 19 = .ok (.iload_n 0, 1) := dk_26 dg_cJ6_numberOfTrailingZeros_0f7a4_16.1
theorem dJ6_numberOfTrailingZeros_0f7a4_20 : decode cJ6_numberOfTrailingZeros_0f7a4 20 = .ok (.ldc_w 264, 3) := dk_19 dg_cJ6_numberOfTrailingZeros_0f7a4_16.2.1
theorem dJ6_numberOfTrailingZeros_0f7a4_23 : decode cJ6_numberOfTrailingZeros_0f7a4 23 = .ok (.if_icmp .le 11, 3) := dk_164 dg_cJ6_numberOfTrailingZeros_0f7a4_16.2.2.1
theorem dJ6_numberOfTrailingZeros_0f7a4_26 : decode cJ6_numberOfTrailingZeros_0f7a4 26 = .ok (.iinc 1 16, 3) := dk_132 dg_cJ6_numberOfTrailingZeros_0f7a4_16.2.2.2.1
theorem dJ6_numberOfTrailingZeros_0f7a4_29 : decode cJ6_numberOfTrailingZeros_0f7a4 29 = .ok (.iload_n 0, 1) := dk_26 dg_cJ6_numberOfTrailingZeros_0f7a4_16.2.2.2.2.1
theorem dJ6_numberOfTrailingZeros_0f7a4_30 : decode cJ6_numberOfTrailingZeros_0f7a4 30 = .ok (.bipush 16, 2) := dk_16 dg_cJ6_numberOfTrailingZeros_0f7a4_16.2.2.2.2.2.1
theorem dJ6_numberOfTrailingZeros_0f7a4_32 : decode cJ6_numberOfTrailingZeros_0f7a4 32 = .ok (.iushr, 1) := dk_124 dg_cJ6_numberOfTrailingZeros_0f7a4_16.2.2.2.2.2.2.1
theorem dJ6_numberOfTrailingZeros_0f7a4_33 : decode cJ6_numberOfTrailingZeros_0f7a4 33 = .ok (.istore_n 0, 1) := dk_59 dg_cJ6_numberOfTrailingZeros_0f7a4_16.2.2.2.2.2.2.2
theorem dg_cJ6_numberOfTrailingZeros_0f7a4_17 : ck1 cJ6_numberOfTrailingZeros_0f7a4 34 26 = true ∧ ck3s cJ6_numberOfTrailingZeros_0f7a4 35 17 256 = true ∧ ck3s cJ6_numberOfTrailingZeros_0f7a4 38 164 11 = true ∧ ck3i cJ6_numberOfTrailingZeros_0f7a4 41 132 1 8 = true ∧ ck1 cJ6_numberOfTrailingZeros_0f7a4 44 26 = true ∧ ck2s cJ6_numberOfTrailingZeros_0f7a4 45 16 8 = true ∧ ck1 cJ6_numberOfTrailingZeros_0f7a4 47 124 = true ∧ ck1 cJ6_numberOfTrailingZeros_0f7a4 48 59 = true := by decide +kernel
theorem dJ6_numberOfTrailingZeros_0f7a4_34 : decode cJ6_numberOfTrailingZeros_0f7a4 34 = .ok (.iload_n 0, 1) := dk_26 dg_cJ6_numberOfTrailingZeros_0f7a4_17.1
theorem dJ6_numberOfTrailingZeros_0f7a4_35 : decode cJ6_numberOfTrailingZeros_0f7a4 35 = .ok (.sipush 256, 3) := dk_17 dg_cJ6_numberOfTrailingZeros_0f7a4_17.2.1
theorem dJ6_numberOfTrailingZeros_0f7a4_38 : decode cJ6_numberOfTrailingZeros_0f7a4 38 = .ok (.if_icmp .le 11, 3) := dk_164 dg_cJ6_numberOfTrailingZeros_0f7a4_17.2.2.1
theorem dJ6_numberOfTrailingZeros_0f7a4_41 : decode cJ6_numberOfTrailingZeros_0f7a4 41 = .ok (.iinc 1 8, 3) := dk_132 dg_cJ6_numberOfTrailingZeros_0f7a4_17.2.2.2.1
theorem dJ6_numberOfTrailingZeros_0f7a4_44 : decode cJ6_numberOfTrailingZeros_0f7a4 44 = .ok (.iload_n 0, 1) := dk_26 dg_cJ6_numberOfTrailingZeros_0f7a4_17.2.2.2.2.1
theorem dJ6_numberOfTrailingZeros_0f7a4_45 : decode cJ6_numberOfTrailingZeros_0f7a4 45 = .ok (.bipush 8, 2) := dk_16 dg_cJ6_numberOfTrailingZeros_0f7a4_17.2.2.2.2.2.1
theorem dJ6_numberOfTrailingZeros_0f7a4_47 : decode cJ6_numberOfTrailingZeros_0f7a4 47 = .ok (.iushr, 1) := dk_124 dg_cJ6_numberOfTrailingZeros_0f7a4_17.2.2.2.2.2.2.1
theorem dJ6_numberOfTrailingZeros_0f7a4_48 : decode cJ6_numberOfTrailingZeros_0f7a4 48 = .ok (.istore_n 0, 1) := dk_59 dg_cJ6_numberOfTrailingZeros_0f7a4_17.2.2.2.2.2.2.2
theorem dg_cJ6_numberOfTrailingZeros_0f7a4_18 : ck1 cJ6_numberOfTrailingZeros_0f7a4 49 26 = true ∧ ck2s cJ6_numberOfTrailingZeros_0f7a4 50 16 16 = true ∧ ck3s cJ6_numberOfTrailingZeros_0f7a4 52 164 10 = true ∧ ck3i cJ6_numberOfTrailingZeros_0f7a4 55 132 1 4 = true ∧ ck1 cJ6_numberOfTrailingZeros_0f7a4 58 26 = true ∧ ck1 cJ6_numberOfTrailingZeros_0f7a4 59 7 = true ∧ ck1 cJ6_numberOfTrailingZeros_0f7a4 60 124 = true ∧ ck1 cJ6_numberOfTrailingZeros_0f7a4 61 59 = true := by decide +kernel
theorem dJ6_numberOfTrailingZeros_0f7a4_49 : decode cJ6_numberOfTrailingZeros_0f7a4 49 = .ok (.iload_n 0, 1) := dk_26 dg_cJ6_numberOfTrailingZeros_0f7a4_18.1
theorem dJ6_numberOfTrailingZeros_0f7a4_50 : decode cJ6_numberOfTrailingZeros_0f7a4 50 = .ok (.bipush 16, 2) := dk_16 dg_cJ6_numberOfTrailingZeros_0f7a4_18.2.1
theorem dJ6_numberOfTrailingZeros_0f7a4_52 : decode cJ6_numberOfTrailingZeros_0f7a4 52 = .ok (.if_icmp .le 10, 3) := dk_164 dg_cJ6_numberOfTrailingZeros_0f7a4_18.2.2.1
theorem dJ6_numberOfTrailingZeros_0f7a4_55 : decode cJ6_numberOfTrailingZeros_0f7a4 55 = .ok (.iinc 1 4, 3) := dk_132 dg_cJ6_numberOfTrailingZeros_0f7a4_18.2.2.2.1
theorem dJ6_numberOfTrailingZeros_0f7a4_58 : decode cJ6_numberOfTrailingZeros_0f7a4 58 = .ok (.iload_n 0, 1) := dk_26 dg_cJ6_numberOfTrailingZeros_0f7a4_18.2.2.2.2.1
theorem dJ6_numberOfTrailingZeros_0f7a4_59 : decode cJ6_numberOfTrailingZeros_0f7a4 59 = .ok (.iconst 4, 1) := dk_7 dg_cJ6_numberOfTrailingZeros_0f7a4_18.2.2.2.2.2.1
theorem dJ6_numberOfTrailingZeros_0f7a4_60 : decode cJ6_numberOfTrailingZeros_0f7a4 60 = .ok (.iushr, 1) := dk_124 dg_cJ6_numberOfTrailingZeros_0f7a4_18.2.2.2.2.2.2.1
theorem dJ6_numberOfTrailingZeros_0f7a4_61 : decode cJ6_numberOfTrailingZeros_0f7a4 61 = .ok (.istore_n 0, 1) := dk_59 dg_cJ6_numberOfTrailingZeros_0f7a4_18.2.2.2.2.2.2.2
theorem dg_cJ6_numberOfTrailingZeros_0f7a4_19 : ck1 cJ6_numberOfTrailingZeros_0f7a4 62 26 = true ∧ ck1 cJ6_numberOfTrailingZeros_0f7a4 63 7 = true := by decide +kernel
theorem dJ6_numberOfTrailingZeros_0f7a4_62 : decode cJ6_numberOfTrailingZeros_0f7a4 62 = .ok (.iload_n 0, 1) := dk_26 dg_cJ6_numberOfTrailingZeros_0f7a4_19.1
theorem dJ6_numberOfTrailingZeros_0f7a4_63 : decode cJ6_numberOfTrailingZeros_0f7a4 63 = .ok (.iconst 4, 1) := dk_7 dg_cJ6_numberOfTrailingZeros_0f7a4_19.2
def dS_cJ6_numberOfTrailingZeros_0f7a4_1 : List UInt8 := 164 :: 0 :: 10 :: 132 :: 1 :: 2 :: 26 :: 5 :: 124 :: 59 :: 27 :: 26 :: 4 :: 124 :: 96 :: 172 :: []
def dS_cJ6_numberOfTrailingZeros_0f7a4_0 : List UInt8 := 26 :: 2 :: 130 :: 26 :: 4 :: 100 :: 126 :: 59 :: 26 :: 157 :: 0 :: 8 :: 26 :: 16 :: 32 :: 126 :: 172 :: 4 :: 60 :: 26 :: 19 :: 1 :: 8 :: 164 :: 0 :: 11 :: 132 :: 1 :: 16 :: 26 :: 16 :: 16 :: 124 :: 59 :: 26 :: 17 :: 1 :: 0 :: 164 :: 0 :: 11 :: 132 :: 1 :: 8 :: 26 :: 16 :: 8 :: 124 :: 59 :: 26 :: 16 :: 16 :: 164 :: 0 :: 10 :: 132 :: 1 :: 4 :: 26 :: 7 :: 124 :: 59 :: 26 :: 7 :: dS_cJ6_numberOfTrailingZeros_0f7a4_1
theorem dT_cJ6_numberOfTrailingZeros_0f7a4_0 : cJ6_numberOfTrailingZeros_0f7a4.data.toList.drop 0 = dS_cJ6_numberOfTrailingZeros_0f7a4_0 := by decide +kernel
theorem dT_cJ6_numberOfTrailingZeros_0f7a4_1 : cJ6_numberOfTrailingZeros_0f7a4.data.toList.drop 64 = dS_cJ6_numberOfTrailingZeros_0f7a4_1 := ck_nx dT_cJ6_numberOfTrailingZeros_0f7a4_0 (by decide +kernel) rfl
theorem dg_cJ6_numberOfTrailingZeros_0f7a4_20 : ck3sL dS_cJ6_numberOfTrailingZeros_0f7a4_1 0 164 10 = true ∧ ck3iL dS_cJ6_numberOfTrailingZeros_0f7a4_1 3 132 1 2 = true ∧ ck1L dS_cJ6_numberOfTrailingZeros_0f7a4_1 6 26 = true ∧ ck1L dS_cJ6_numberOfTrailingZeros_0f7a4_1 7 5 = true ∧ ck1L dS_cJ6_numberOfTrailingZeros_0f7a4_1 8 124 = true ∧ ck1L dS_cJ6_numberOfTrailingZeros_0f7a4_1 9 59 = true ∧ ck1L dS_cJ6_numberOfTrailingZeros_0f7a4_1 10 27 = true ∧ ck1L dS_cJ6_numberOfTrailingZeros_0f7a4_1 11 26 = true := by decide +kernel
theorem dJ6_numberOfTrailingZeros_0f7a4_64 : decode cJ6_numberOfTrailingZeros_0f7a4 64 = .ok (.if_icmp .le 10, 3) := dk_164 (ck3s_s (r := 0) dT_cJ6_numberOfTrailingZeros_0f7a4_1 rfl dg_cJ6_numberOfTrailingZeros_0f7a4_20.1)
theorem dJ6_numberOfTrailingZeros_0f7a4_67 : decode cJ6_numberOfTrailingZeros_0f7a4 67 = .ok (.iinc 1 2, 3) := dk_132 (ck3i_s (r := 3) dT_cJ6_numberOfTrailingZeros_0f7a4_1 rfl dg_cJ6_numberOfTrailingZeros_0f7a4_20.2.1)
theorem dJ6_numberOfTrailingZeros_0f7a4_70 : decode cJ6_numberOfTrailingZeros_0f7a4 70 = .ok (.iload_n 0, 1) := dk_26 (ck1_s (r := 6) dT_cJ6_numberOfTrailingZeros_0f7a4_1 rfl dg_cJ6_numberOfTrailingZeros_0f7a4_20.2.2.1)
theorem dJ6_numberOfTrailingZeros_0f7a4_71 : decode cJ6_numberOfTrailingZeros_0f7a4 71 = .ok (.iconst 2, 1) := dk_5 (ck1_s (r := 7) dT_cJ6_numberOfTrailingZeros_0f7a4_1 rfl dg_cJ6_numberOfTrailingZeros_0f7a4_20.2.2.2.1)
theorem dJ6_numberOfTrailingZeros_0f7a4_72 : decode cJ6_numberOfTrailingZeros_0f7a4 72 = .ok (.iushr, 1) := dk_124 (ck1_s (r := 8) dT_cJ6_numberOfTrailingZeros_0f7a4_1 rfl dg_cJ6_numberOfTrailingZeros_0f7a4_20.2.2.2.2.1)
theorem dJ6_numberOfTrailingZeros_0f7a4_73 : decode cJ6_numberOfTrailingZeros_0f7a4 73 = .ok (.istore_n 0, 1) := dk_59 (ck1_s (r := 9) dT_cJ6_numberOfTrailingZeros_0f7a4_1 rfl dg_cJ6_numberOfTrailingZeros_0f7a4_20.2.2.2.2.2.1)
theorem dJ6_numberOfTrailingZeros_0f7a4_74 : decode cJ6_numberOfTrailingZeros_0f7a4 74 = .ok (.iload_n 1, 1) := dk_27 (ck1_s (r := 10) dT_cJ6_numberOfTrailingZeros_0f7a4_1 rfl dg_cJ6_numberOfTrailingZeros_0f7a4_20.2.2.2.2.2.2.1)
theorem dJ6_numberOfTrailingZeros_0f7a4_75 : decode cJ6_numberOfTrailingZeros_0f7a4 75 = .ok (.iload_n 0, 1) := dk_26 (ck1_s (r := 11) dT_cJ6_numberOfTrailingZeros_0f7a4_1 rfl dg_cJ6_numberOfTrailingZeros_0f7a4_20.2.2.2.2.2.2.2)
theorem dg_cJ6_numberOfTrailingZeros_0f7a4_21 : ck1L dS_cJ6_numberOfTrailingZeros_0f7a4_1 12 4 = true ∧ ck1L dS_cJ6_numberOfTrailingZeros_0f7a4_1 13 124 = true ∧ ck1L dS_cJ6_numberOfTrailingZeros_0f7a4_1 14 96 = true ∧ ck1L dS_cJ6_numberOfTrailingZeros_0f7a4_1 15 172 = true := by decide +kernel
theorem dJ6_numberOfTrailingZeros_0f7a4_76 : decode cJ6_numberOfTrailingZeros_0f7a4 76 = .ok (.iconst 1, 1) := dk_4 (ck1_s (r := 12) dT_cJ6_numberOfTrailingZeros_0f7a4_1 rfl dg_cJ6_numberOfTrailingZeros_0f7a4_21.1)
theorem dJ6_numberOfTrailingZeros_0f7a4_77 : decode cJ6_numberOfTrailingZeros_0f7a4 77 = .ok (.iushr, 1) := dk_124 (ck1_s (r := 13) dT_cJ6_numberOfTrailingZeros_0f7a4_1 rfl dg_cJ6_numberOfTrailingZeros_0f7a4_21.2.1)
theorem dJ6_numberOfTrailingZeros_0f7a4_78 : decode cJ6_numberOfTrailingZeros_0f7a4 78 = .ok (.iadd, 1) := dk_96 (ck1_s (r := 14) dT_cJ6_numberOfTrailingZeros_0f7a4_1 rfl dg_cJ6_numberOfTrailingZeros_0f7a4_21.2.2.1)
theorem dJ6_numberOfTrailingZeros_0f7a4_79 : decode cJ6_numberOfTrailingZeros_0f7a4 79 = .ok (.ireturn, 1) := dk_172 (ck1_s (r := 15) dT_cJ6_numberOfTrailingZeros_0f7a4_1 rfl dg_cJ6_numberOfTrailingZeros_0f7a4_21.2.2.2)
theorem dg_cJ7_fill_53178_22 : ck1 cJ7_fill_53178 0 3 = true ∧ ck1 cJ7_fill_53178 1 61 = true ∧ ck1 cJ7_fill_53178 2 42 = true ∧ ck1 cJ7_fill_53178 3 190 = true ∧ ck1 cJ7_fill_53178 4 62 = true ∧ ck1 cJ7_fill_53178 5 28 = true ∧ ck1 cJ7_fill_53178 6 29 = true ∧ ck3s cJ7_fill_53178 7 162 13 = true := by decide +kernel
theorem dJ7_fill_53178_0 : decode cJ7_fill_53178 0 = .ok (.iconst 0, 1) := dk_3 dg_cJ7_fill_53178_22.1
theorem dJ7_fill_53178_1 : decode cJ7_fill_53178 1 = .ok (.istore_n 2, 1) := dk_61 dg_cJ7_fill_53178_22.2.1
theorem dJ7_fill_53178_2 : decode cJ7_fill_53178 2 = .ok (.aload_n 0, 1) := dk_42 dg_cJ7_fill_53178_22.2.2.1
theorem dJ7_fill_53178_3 : decode cJ7_fill_53178 3 = .ok (.arraylength, 1) := dk_190 dg_cJ7_fill_53178_22.2.2.2.1
theorem dJ7_fill_53178_4 : decode cJ7_fill_53178 4 = .ok (.istore_n 3, 1) := dk_62 dg_cJ7_fill_53178_22.2.2.2.2.1
theorem dJ7_fill_53178_5 : decode cJ7_fill_53178 5 = .ok (.iload_n 2, 1) := dk_28 dg_cJ7_fill_53178_22.2.2.2.2.2.1
theorem dJ7_fill_53178_6 : decode cJ7_fill_53178 6 = .ok (.iload_n 3, 1) := dk_29 dg_cJ7_fill_53178_22.2.2.2.2.2.2.1
theorem dJ7_fill_53178_7 : decode cJ7_fill_53178 7 = .ok (.if_icmp .ge 13, 3) := dk_162 dg_cJ7_fill_53178_22.2.2.2.2.2.2.2
theorem dg_cJ7_fill_53178_23 : ck1 cJ7_fill_53178 10 42 = true ∧ ck1 cJ7_fill_53178 11 28 = true ∧ ck1 cJ7_fill_53178 12 27 = true ∧ ck1 cJ7_fill_53178 13 79 = true ∧ ck3i cJ7_fill_53178 14 132 2 1 = true ∧ ck3s cJ7_fill_53178 17 167 (-12) = true ∧ ck1 cJ7_fill_53178 20 177 = true := by decide +kernel
theorem dJ7_fill_53178_10 : decode cJ7_fill_53178 10 = .ok (.aload_n 0, 1) := dk_42 dg_cJ7_fill_53178_23.1
theorem dJ7_fill_53178_11 : decode cJ7_fill_53178 11 = .ok (.iload_n 2, 1) := dk_28 dg_cJ7_fill_53178_23.2.1
theorem dJ7_fill_53178_12 : decode cJ7_fill_53178 12 = .ok (.iload_n 1, 1) := dk_27 dg_cJ7_fill_53178_23.2.2.1
theorem dJ7_fill_53178_13 : decode cJ7_fill_53178 13 = .ok (.iastore, 1) := dk_79 dg_cJ7_fill_53178_23.2.2.2.1
theorem dJ7_fill_53178_14 : decode cJ7_fill_53178 14 = .ok (.iinc 2 1, 3) := dk_132 dg_cJ7_fill_53178_23.2.2.2.2.1
theorem dJ7_fill_53178_17 : decode cJ7_fill_53178 17 = .ok (.goto (-12), 3) := dk_167 dg_cJ7_fill_53178_23.2.2.2.2.2.1
theorem dJ7_fill_53178_20 : decode cJ7_fill_53178 20 = .ok (.return_, 1) := dk_177 dg_cJ7_fill_53178_23.2.2.2.2.2.2
theorem dg_cL_law_24 : ck3 cL_law 0 187 7 = true ∧ ck1 cL_law 3 89 = true ∧ ck3 cL_law 4 183 9 = true ∧ ck1 cL_law 7 76 = true ∧ ck3 cL_law 8 187 10 = true ∧ ck1 cL_law 11 89 = true ∧ ck3 cL_law 12 183 12 = true ∧ ck1 cL_law 15 77 = true := by decide +kernel
theorem dL_law_0 : decode cL_law 0 = .ok (.new 7, 3) := dk_187 dg_cL_law_24.1
theorem dL_law_3 : decode cL_law 3 = .ok (.dup, 1) := dk_89 dg_cL_law_24.2.1
theorem dL_law_4 : decode cL_law 4 = .ok (.invokespecial 9, 3) := dk_183 dg_cL_law_24.2.2.1
theorem dL_law_7 : decode cL_law 7 = .ok (.astore_n 1, 1) := dk_76 dg_cL_law_24.2.2.2.1
theorem dL_law_8 : decode cL_law 8 = .ok (.new 10, 3) := dk_187 dg_cL_law_24.2.2.2.2.1
theorem dL_law_11 : decode cL_law 11 = .ok (.dup, 1) := dk_89 dg_cL_law_24.2.2.2.2.2.1
theorem dL_law_12 : decode cL_law 12 = .ok (.invokespecial 12, 3) := dk_183 dg_cL_law_24.2.2.2.2.2.2.1
theorem dL_law_15 : decode cL_law 15 = .ok (.astore_n 2, 1) := dk_77 dg_cL_law_24.2.2.2.2.2.2.2
theorem dg_cL_law_25 : ck1 cL_law 16 3 = true ∧ ck1 cL_law 17 62 = true ∧ ck1 cL_law 18 29 = true ∧ ck1 cL_law 19 42 = true ∧ ck1 cL_law 20 190 = true ∧ ck2s cL_law 21 16 6 = true ∧ ck1 cL_law 23 100 = true ∧ ck3s cL_law 24 163 1395 = true := by decide +kernel
theorem dL_law_16 : decode cL_law 16 = .ok (.iconst 0, 1) := dk_3 dg_cL_law_25.1
theorem dL_law_17 : decode cL_law 17 = .ok (.istore_n 3, 1) := dk_62 dg_cL_law_25.2.1
theorem dL_law_18 : decode cL_law 18 = .ok (.iload_n 3, 1) := dk_29 dg_cL_law_25.2.2.1
theorem dL_law_19 : decode cL_law 19 = .ok (.aload_n 0, 1) := dk_42 dg_cL_law_25.2.2.2.1
theorem dL_law_20 : decode cL_law 20 = .ok (.arraylength, 1) := dk_190 dg_cL_law_25.2.2.2.2.1
theorem dL_law_21 : decode cL_law 21 = .ok (.bipush 6, 2) := dk_16 dg_cL_law_25.2.2.2.2.2.1
theorem dL_law_23 : decode cL_law 23 = .ok (.isub, 1) := dk_100 dg_cL_law_25.2.2.2.2.2.2.1
theorem dL_law_24 : decode cL_law 24 = .ok (.if_icmp .gt 1395, 3) := dk_163 dg_cL_law_25.2.2.2.2.2.2.2
theorem dg_cL_law_26 : ck1 cL_law 27 42 = true ∧ ck1 cL_law 28 29 = true ∧ ck1 cL_law 29 46 = true ∧ ck2s cL_law 30 16 63 = true ∧ ck1 cL_law 32 126 = true := by decide +kernel
theorem dL_law_27 : decode cL_law 27 = .ok (.aload_n 0, 1) := dk_42 dg_cL_law_26.1
theorem dL_law_28 : decode cL_law 28 = .ok (.iload_n 3, 1) := dk_29 dg_cL_law_26.2.1
theorem dL_law_29 : decode cL_law 29 = .ok (.iaload, 1) := dk_46 dg_cL_law_26.2.2.1
theorem dL_law_30 : decode cL_law 30 = .ok (.bipush 63, 2) := dk_16 dg_cL_law_26.2.2.2.1
theorem dL_law_32 : decode cL_law 32 = .ok (.iand, 1) := dk_126 dg_cL_law_26.2.2.2.2
theorem dL_law_33 : decode cL_law 33 = .ok (.tableswitch 1380 0 46 #[203, 266, 289, 302, 325, 358, 391, 424, 437, 470, 493, 526, 559, 592, 615, 628, 641, 684, 707, 720, 743, 786, 809, 832, 865, 888, 901, 914, 947, 960, 973, 986, 1009, 1032, 1045, 1058, 1071, 1104, 1127, 1176, 1199, 1222, 1245, 1278, 1311, 1334, 1357], 203) := by decide +kernel
def dS_cL_law_22 : List UInt8 := 208 :: 87 :: 167 :: 0 :: 3 :: 132 :: 3 :: 6 :: 167 :: 250 :: 138 :: 4 :: 172 :: []
def dS_cL_law_21 : List UInt8 := 43 :: 42 :: 29 :: 4 :: 96 :: 46 :: 182 :: 0 :: 197 :: 87 :: 44 :: 42 :: 29 :: 4 :: 96 :: 46 :: 182 :: 0 :: 200 :: 87 :: 167 :: 0 :: 49 :: 43 :: 42 :: 29 :: 4 :: 96 :: 46 :: 182 :: 0 :: 201 :: 87 :: 44 :: 42 :: 29 :: 4 :: 96 :: 46 :: 182 :: 0 :: 204 :: 87 :: 167 :: 0 :: 26 :: 43 :: 42 :: 29 :: 4 :: 96 :: 46 :: 182 :: 0 :: 205 :: 87 :: 44 :: 42 :: 29 :: 4 :: 96 :: 46 :: 182 :: 0 :: dS_cL_law_22
def dS_cL_law_20 : List UInt8 := 29 :: 4 :: 96 :: 46 :: 42 :: 29 :: 5 :: 96 :: 46 :: 182 :: 0 :: 189 :: 87 :: 44 :: 42 :: 29 :: 4 :: 96 :: 46 :: 42 :: 29 :: 5 :: 96 :: 46 :: 182 :: 0 :: 192 :: 87 :: 167 :: 0 :: 105 :: 43 :: 42 :: 29 :: 4 :: 96 :: 46 :: 42 :: 29 :: 5 :: 96 :: 46 :: 182 :: 0 :: 193 :: 87 :: 44 :: 42 :: 29 :: 4 :: 96 :: 46 :: 42 :: 29 :: 5 :: 96 :: 46 :: 182 :: 0 :: 196 :: 87 :: 167 :: 0 :: 72 :: dS_cL_law_21
def dS_cL_law_19 : List UInt8 := 0 :: 176 :: 87 :: 44 :: 42 :: 29 :: 4 :: 96 :: 46 :: 182 :: 0 :: 180 :: 87 :: 167 :: 0 :: 184 :: 43 :: 42 :: 29 :: 4 :: 96 :: 46 :: 182 :: 0 :: 181 :: 87 :: 44 :: 42 :: 29 :: 4 :: 96 :: 46 :: 182 :: 0 :: 184 :: 87 :: 167 :: 0 :: 161 :: 43 :: 42 :: 29 :: 4 :: 96 :: 46 :: 182 :: 0 :: 185 :: 87 :: 44 :: 42 :: 29 :: 4 :: 96 :: 46 :: 182 :: 0 :: 188 :: 87 :: 167 :: 0 :: 138 :: 43 :: 42 :: dS_cL_law_20
def dS_cL_law_18 : List UInt8 := 46 :: 182 :: 0 :: 170 :: 87 :: 167 :: 1 :: 0 :: 43 :: 42 :: 29 :: 4 :: 96 :: 46 :: 42 :: 29 :: 5 :: 96 :: 46 :: 153 :: 0 :: 7 :: 4 :: 167 :: 0 :: 4 :: 3 :: 182 :: 0 :: 171 :: 87 :: 44 :: 42 :: 29 :: 4 :: 96 :: 46 :: 42 :: 29 :: 5 :: 96 :: 46 :: 153 :: 0 :: 7 :: 4 :: 167 :: 0 :: 4 :: 3 :: 182 :: 0 :: 175 :: 87 :: 167 :: 0 :: 207 :: 43 :: 42 :: 29 :: 4 :: 96 :: 46 :: 182 :: dS_cL_law_19
def dS_cL_law_17 : List UInt8 := 167 :: 1 :: 69 :: 43 :: 182 :: 0 :: 159 :: 87 :: 44 :: 182 :: 0 :: 162 :: 87 :: 167 :: 1 :: 56 :: 43 :: 42 :: 29 :: 4 :: 96 :: 46 :: 42 :: 29 :: 5 :: 96 :: 46 :: 182 :: 0 :: 163 :: 87 :: 44 :: 42 :: 29 :: 4 :: 96 :: 46 :: 42 :: 29 :: 5 :: 96 :: 46 :: 182 :: 0 :: 166 :: 87 :: 167 :: 1 :: 23 :: 43 :: 42 :: 29 :: 4 :: 96 :: 46 :: 182 :: 0 :: 167 :: 87 :: 44 :: 42 :: 29 :: 4 :: 96 :: dS_cL_law_18
def dS_cL_law_16 : List UInt8 := 46 :: 182 :: 0 :: 143 :: 87 :: 44 :: 42 :: 29 :: 4 :: 96 :: 46 :: 182 :: 0 :: 146 :: 87 :: 167 :: 1 :: 118 :: 43 :: 42 :: 29 :: 4 :: 96 :: 46 :: 182 :: 0 :: 147 :: 87 :: 44 :: 42 :: 29 :: 4 :: 96 :: 46 :: 182 :: 0 :: 150 :: 87 :: 167 :: 1 :: 95 :: 43 :: 182 :: 0 :: 151 :: 87 :: 44 :: 182 :: 0 :: 154 :: 87 :: 167 :: 1 :: 82 :: 43 :: 182 :: 0 :: 155 :: 87 :: 44 :: 182 :: 0 :: 158 :: 87 :: dS_cL_law_17
def dS_cL_law_15 : List UInt8 := 127 :: 87 :: 44 :: 42 :: 29 :: 4 :: 96 :: 46 :: 42 :: 29 :: 5 :: 96 :: 46 :: 182 :: 0 :: 130 :: 87 :: 167 :: 1 :: 180 :: 43 :: 182 :: 0 :: 131 :: 87 :: 44 :: 182 :: 0 :: 134 :: 87 :: 167 :: 1 :: 167 :: 43 :: 182 :: 0 :: 135 :: 87 :: 44 :: 182 :: 0 :: 138 :: 87 :: 167 :: 1 :: 154 :: 43 :: 182 :: 0 :: 139 :: 87 :: 44 :: 182 :: 0 :: 142 :: 87 :: 167 :: 1 :: 141 :: 43 :: 42 :: 29 :: 4 :: 96 :: dS_cL_law_16
def dS_cL_law_14 : List UInt8 := 2 :: 6 :: 43 :: 42 :: 29 :: 4 :: 96 :: 46 :: 182 :: 0 :: 115 :: 87 :: 44 :: 42 :: 29 :: 4 :: 96 :: 46 :: 182 :: 0 :: 118 :: 87 :: 167 :: 1 :: 239 :: 43 :: 182 :: 0 :: 119 :: 87 :: 44 :: 182 :: 0 :: 122 :: 87 :: 167 :: 1 :: 226 :: 43 :: 182 :: 0 :: 123 :: 87 :: 44 :: 182 :: 0 :: 126 :: 87 :: 167 :: 1 :: 213 :: 43 :: 42 :: 29 :: 4 :: 96 :: 46 :: 42 :: 29 :: 5 :: 96 :: 46 :: 182 :: 0 :: dS_cL_law_15
def dS_cL_law_13 : List UInt8 := 4 :: 96 :: 46 :: 182 :: 0 :: 106 :: 87 :: 167 :: 2 :: 62 :: 43 :: 42 :: 29 :: 4 :: 96 :: 46 :: 182 :: 0 :: 107 :: 87 :: 44 :: 42 :: 29 :: 4 :: 96 :: 46 :: 182 :: 0 :: 110 :: 87 :: 167 :: 2 :: 39 :: 43 :: 42 :: 29 :: 4 :: 96 :: 46 :: 42 :: 29 :: 5 :: 96 :: 46 :: 182 :: 0 :: 111 :: 87 :: 44 :: 42 :: 29 :: 4 :: 96 :: 46 :: 42 :: 29 :: 5 :: 96 :: 46 :: 182 :: 0 :: 114 :: 87 :: 167 :: dS_cL_law_14
def dS_cL_law_12 : List UInt8 := 46 :: 182 :: 0 :: 98 :: 87 :: 167 :: 2 :: 128 :: 43 :: 42 :: 29 :: 4 :: 96 :: 46 :: 42 :: 29 :: 5 :: 96 :: 46 :: 42 :: 29 :: 6 :: 96 :: 46 :: 182 :: 0 :: 99 :: 87 :: 44 :: 42 :: 29 :: 4 :: 96 :: 46 :: 42 :: 29 :: 5 :: 96 :: 46 :: 42 :: 29 :: 6 :: 96 :: 46 :: 182 :: 0 :: 102 :: 87 :: 167 :: 2 :: 85 :: 43 :: 42 :: 29 :: 4 :: 96 :: 46 :: 182 :: 0 :: 103 :: 87 :: 44 :: 42 :: 29 :: dS_cL_law_13
def dS_cL_law_11 : List UInt8 := 46 :: 42 :: 29 :: 6 :: 96 :: 46 :: 182 :: 0 :: 86 :: 87 :: 167 :: 2 :: 187 :: 43 :: 42 :: 29 :: 4 :: 96 :: 46 :: 182 :: 0 :: 87 :: 87 :: 44 :: 42 :: 29 :: 4 :: 96 :: 46 :: 182 :: 0 :: 90 :: 87 :: 167 :: 2 :: 164 :: 43 :: 182 :: 0 :: 91 :: 87 :: 44 :: 182 :: 0 :: 94 :: 87 :: 167 :: 2 :: 151 :: 43 :: 42 :: 29 :: 4 :: 96 :: 46 :: 182 :: 0 :: 95 :: 87 :: 44 :: 42 :: 29 :: 4 :: 96 :: dS_cL_law_12
def dS_cL_law_10 : List UInt8 := 46 :: 182 :: 0 :: 72 :: 87 :: 167 :: 3 :: 0 :: 43 :: 182 :: 0 :: 73 :: 87 :: 44 :: 182 :: 0 :: 77 :: 87 :: 167 :: 2 :: 243 :: 43 :: 182 :: 0 :: 78 :: 44 :: 182 :: 0 :: 81 :: 159 :: 2 :: 232 :: 3 :: 172 :: 43 :: 42 :: 29 :: 4 :: 96 :: 46 :: 42 :: 29 :: 5 :: 96 :: 46 :: 42 :: 29 :: 6 :: 96 :: 46 :: 182 :: 0 :: 82 :: 87 :: 44 :: 42 :: 29 :: 4 :: 96 :: 46 :: 42 :: 29 :: 5 :: 96 :: dS_cL_law_11
def dS_cL_law_9 : List UInt8 := 29 :: 4 :: 96 :: 46 :: 42 :: 29 :: 5 :: 96 :: 46 :: 182 :: 0 :: 64 :: 87 :: 167 :: 3 :: 56 :: 43 :: 42 :: 29 :: 4 :: 96 :: 46 :: 42 :: 29 :: 5 :: 96 :: 46 :: 182 :: 0 :: 65 :: 87 :: 44 :: 42 :: 29 :: 4 :: 96 :: 46 :: 42 :: 29 :: 5 :: 96 :: 46 :: 182 :: 0 :: 68 :: 87 :: 167 :: 3 :: 23 :: 43 :: 42 :: 29 :: 4 :: 96 :: 46 :: 182 :: 0 :: 69 :: 87 :: 44 :: 42 :: 29 :: 4 :: 96 :: dS_cL_law_10
def dS_cL_law_8 : List UInt8 := 87 :: 44 :: 42 :: 29 :: 4 :: 96 :: 46 :: 182 :: 0 :: 56 :: 87 :: 167 :: 3 :: 122 :: 43 :: 42 :: 29 :: 4 :: 96 :: 46 :: 42 :: 29 :: 5 :: 96 :: 46 :: 182 :: 0 :: 57 :: 87 :: 44 :: 42 :: 29 :: 4 :: 96 :: 46 :: 42 :: 29 :: 5 :: 96 :: 46 :: 182 :: 0 :: 60 :: 87 :: 167 :: 3 :: 89 :: 43 :: 42 :: 29 :: 4 :: 96 :: 46 :: 42 :: 29 :: 5 :: 96 :: 46 :: 182 :: 0 :: 61 :: 87 :: 44 :: 42 :: dS_cL_law_9
def dS_cL_law_7 : List UInt8 := 96 :: 46 :: 182 :: 0 :: 44 :: 87 :: 167 :: 3 :: 191 :: 43 :: 182 :: 0 :: 45 :: 87 :: 44 :: 182 :: 0 :: 48 :: 87 :: 167 :: 3 :: 178 :: 43 :: 42 :: 29 :: 4 :: 96 :: 46 :: 42 :: 29 :: 5 :: 96 :: 46 :: 182 :: 0 :: 49 :: 87 :: 44 :: 42 :: 29 :: 4 :: 96 :: 46 :: 42 :: 29 :: 5 :: 96 :: 46 :: 182 :: 0 :: 52 :: 87 :: 167 :: 3 :: 145 :: 43 :: 42 :: 29 :: 4 :: 96 :: 46 :: 182 :: 0 :: 53 :: dS_cL_law_8
def dS_cL_law_6 : List UInt8 := 182 :: 0 :: 36 :: 87 :: 167 :: 4 :: 1 :: 43 :: 42 :: 29 :: 4 :: 96 :: 46 :: 42 :: 29 :: 5 :: 96 :: 46 :: 182 :: 0 :: 37 :: 87 :: 44 :: 42 :: 29 :: 4 :: 96 :: 46 :: 42 :: 29 :: 5 :: 96 :: 46 :: 182 :: 0 :: 40 :: 87 :: 167 :: 3 :: 224 :: 43 :: 42 :: 29 :: 4 :: 96 :: 46 :: 42 :: 29 :: 5 :: 96 :: 46 :: 182 :: 0 :: 41 :: 87 :: 44 :: 42 :: 29 :: 4 :: 96 :: 46 :: 42 :: 29 :: 5 :: dS_cL_law_7
def dS_cL_law_5 : List UInt8 := 4 :: 70 :: 43 :: 182 :: 0 :: 23 :: 87 :: 44 :: 182 :: 0 :: 27 :: 87 :: 167 :: 4 :: 57 :: 43 :: 42 :: 29 :: 4 :: 96 :: 46 :: 182 :: 0 :: 28 :: 87 :: 44 :: 42 :: 29 :: 4 :: 96 :: 46 :: 182 :: 0 :: 31 :: 87 :: 167 :: 4 :: 34 :: 43 :: 42 :: 29 :: 4 :: 96 :: 46 :: 42 :: 29 :: 5 :: 96 :: 46 :: 182 :: 0 :: 32 :: 87 :: 44 :: 42 :: 29 :: 4 :: 96 :: 46 :: 42 :: 29 :: 5 :: 96 :: 46 :: dS_cL_law_6
def dS_cL_law_4 : List UInt8 := 46 :: 42 :: 29 :: 8 :: 96 :: 46 :: 182 :: 0 :: 13 :: 87 :: 44 :: 42 :: 29 :: 4 :: 96 :: 46 :: 42 :: 29 :: 5 :: 96 :: 46 :: 42 :: 29 :: 6 :: 96 :: 46 :: 42 :: 29 :: 7 :: 96 :: 46 :: 42 :: 29 :: 8 :: 96 :: 46 :: 182 :: 0 :: 17 :: 87 :: 167 :: 4 :: 93 :: 43 :: 42 :: 29 :: 4 :: 96 :: 46 :: 182 :: 0 :: 18 :: 87 :: 44 :: 42 :: 29 :: 4 :: 96 :: 46 :: 182 :: 0 :: 22 :: 87 :: 167 :: dS_cL_law_5
def dS_cL_law_3 : List UInt8 := 0 :: 0 :: 4 :: 47 :: 0 :: 0 :: 4 :: 80 :: 0 :: 0 :: 4 :: 103 :: 0 :: 0 :: 4 :: 152 :: 0 :: 0 :: 4 :: 175 :: 0 :: 0 :: 4 :: 198 :: 0 :: 0 :: 4 :: 221 :: 0 :: 0 :: 4 :: 254 :: 0 :: 0 :: 5 :: 31 :: 0 :: 0 :: 5 :: 54 :: 0 :: 0 :: 5 :: 77 :: 43 :: 42 :: 29 :: 4 :: 96 :: 46 :: 42 :: 29 :: 5 :: 96 :: 46 :: 42 :: 29 :: 6 :: 96 :: 46 :: 42 :: 29 :: 7 :: 96 :: dS_cL_law_4
def dS_cL_law_2 : List UInt8 := 0 :: 0 :: 2 :: 231 :: 0 :: 0 :: 3 :: 18 :: 0 :: 0 :: 3 :: 41 :: 0 :: 0 :: 3 :: 64 :: 0 :: 0 :: 3 :: 97 :: 0 :: 0 :: 3 :: 120 :: 0 :: 0 :: 3 :: 133 :: 0 :: 0 :: 3 :: 146 :: 0 :: 0 :: 3 :: 179 :: 0 :: 0 :: 3 :: 192 :: 0 :: 0 :: 3 :: 205 :: 0 :: 0 :: 3 :: 218 :: 0 :: 0 :: 3 :: 241 :: 0 :: 0 :: 4 :: 8 :: 0 :: 0 :: 4 :: 21 :: 0 :: 0 :: 4 :: 34 :: dS_cL_law_3
def dS_cL_law_1 : List UInt8 := 0 :: 0 :: 1 :: 69 :: 0 :: 0 :: 1 :: 102 :: 0 :: 0 :: 1 :: 135 :: 0 :: 0 :: 1 :: 168 :: 0 :: 0 :: 1 :: 181 :: 0 :: 0 :: 1 :: 214 :: 0 :: 0 :: 1 :: 237 :: 0 :: 0 :: 2 :: 14 :: 0 :: 0 :: 2 :: 47 :: 0 :: 0 :: 2 :: 80 :: 0 :: 0 :: 2 :: 103 :: 0 :: 0 :: 2 :: 116 :: 0 :: 0 :: 2 :: 129 :: 0 :: 0 :: 2 :: 172 :: 0 :: 0 :: 2 :: 195 :: 0 :: 0 :: 2 :: 208 :: dS_cL_law_2
def dS_cL_law_0 : List UInt8 := 187 :: 0 :: 7 :: 89 :: 183 :: 0 :: 9 :: 76 :: 187 :: 0 :: 10 :: 89 :: 183 :: 0 :: 12 :: 77 :: 3 :: 62 :: 29 :: 42 :: 190 :: 16 :: 6 :: 100 :: 163 :: 5 :: 115 :: 42 :: 29 :: 46 :: 16 :: 63 :: 126 :: 170 :: 0 :: 0 :: 0 :: 0 :: 5 :: 100 :: 0 :: 0 :: 0 :: 0 :: 0 :: 0 :: 0 :: 46 :: 0 :: 0 :: 0 :: 203 :: 0 :: 0 :: 1 :: 10 :: 0 :: 0 :: 1 :: 33 :: 0 :: 0 :: 1 :: 46 :: dS_cL_law_1
theorem dT_cL_law_0 : cL_law.data.toList.drop 0 = dS_cL_law_0 := by decide +kernel
theorem dT_cL_law_1 : cL_law.data.toList.drop 64 = dS_cL_law_1 := ck_nx dT_cL_law_0 (by decide +kernel) rfl
theorem dT_cL_law_2 : cL_law.data.toList.drop 128 = dS_cL_law_2 := ck_nx dT_cL_law_1 (by decide +kernel) rfl
theorem dT_cL_law_3 : cL_law.data.toList.drop 192 = dS_cL_law_3 := ck_nx dT_cL_law_2 (by decide +kernel) rfl
theorem dT_cL_law_4 : cL_law.data.toList.drop 256 = dS_cL_law_4 := ck_nx dT_cL_law_3 (by decide +kernel) rfl
theorem dT_cL_law_5 : cL_law.data.toList.drop 320 = dS_cL_law_5 := ck_nx dT_cL_law_4 (by decide +kernel) rfl
theorem dT_cL_law_6 : cL_law.data.toList.drop 384 = dS_cL_law_6 := ck_nx dT_cL_law_5 (by decide +kernel) rfl
theorem dT_cL_law_7 : cL_law.data.toList.drop 448 = dS_cL_law_7 := ck_nx dT_cL_law_6 (by decide +kernel) rfl
theorem dT_cL_law_8 : cL_law.data.toList.drop 512 = dS_cL_law_8 := ck_nx dT_cL_law_7 (by decide +kernel) rfl
theorem dT_cL_law_9 : cL_law.data.toList.drop 576 = dS_cL_law_9 := ck_nx dT_cL_law_8 (by decide +kernel) rfl
theorem dT_cL_law_10 : cL_law.data.toList.drop 640 = dS_cL_law_10 := ck_nx dT_cL_law_9 (by decide +kernel) rfl
theorem dT_cL_law_11 : cL_law.data.toList.drop 704 = dS_cL_law_11 := ck_nx dT_cL_law_10 (by decide +kernel) rfl
theorem dT_cL_law_12 : cL_law.data.toList.drop 768 = dS_cL_law_12 := ck_nx dT_cL_law_11 (by decide +kernel) rfl
theorem dT_cL_law_13 : cL_law.data.toList.drop 832 = dS_cL_law_13 := ck_nx dT_cL_law_12 (by decide +kernel) rfl
theorem dT_cL_law_14 : cL_law.data.toList.drop 896 = dS_cL_law_14 := ck_nx dT_cL_law_13 (by decide +kernel) rfl
theorem dT_cL_law_15 : cL_law.data.toList.drop 960 = dS_cL_law_15 := ck_nx dT_cL_law_14 (by decide +kernel) rfl
theorem dT_cL_law_16 : cL_law.data.toList.drop 1024 = dS_cL_law_16 := ck_nx dT_cL_law_15 (by decide +kernel) rfl
theorem dT_cL_law_17 : cL_law.data.toList.drop 1088 = dS_cL_law_17 := ck_nx dT_cL_law_16 (by decide +kernel) rfl
theorem dT_cL_law_18 : cL_law.data.toList.drop 1152 = dS_cL_law_18 := ck_nx dT_cL_law_17 (by decide +kernel) rfl
theorem dT_cL_law_19 : cL_law.data.toList.drop 1216 = dS_cL_law_19 := ck_nx dT_cL_law_18 (by decide +kernel) rfl
theorem dT_cL_law_20 : cL_law.data.toList.drop 1280 = dS_cL_law_20 := ck_nx dT_cL_law_19 (by decide +kernel) rfl
theorem dT_cL_law_21 : cL_law.data.toList.drop 1344 = dS_cL_law_21 := ck_nx dT_cL_law_20 (by decide +kernel) rfl
theorem dT_cL_law_22 : cL_law.data.toList.drop 1408 = dS_cL_law_22 := ck_nx dT_cL_law_21 (by decide +kernel) rfl
theorem dg_cL_law_27 : ck1L dS_cL_law_3 44 43 = true ∧ ck1L dS_cL_law_3 45 42 = true ∧ ck1L dS_cL_law_3 46 29 = true ∧ ck1L dS_cL_law_3 47 4 = true ∧ ck1L dS_cL_law_3 48 96 = true ∧ ck1L dS_cL_law_3 49 46 = true ∧ ck1L dS_cL_law_3 50 42 = true ∧ ck1L dS_cL_law_3 51 29 = true := by decide +kernel
theorem dL_law_236 : decode cL_law 236 = .ok (.aload_n 1, 1) := dk_43 (ck1_s (r := 44) dT_cL_law_3 rfl dg_cL_law_27.1)
theorem dL_law_237 : decode cL_law 237 = .ok (.aload_n 0, 1) := dk_42 (ck1_s (r := 45) dT_cL_law_3 rfl dg_cL_law_27.2.1)
theorem dL_law_238 : decode cL_law 238 = .ok (.iload_n 3, 1) := dk_29 (ck1_s (r := 46) dT_cL_law_3 rfl dg_cL_law_27.2.2.1)
theorem dL_law_239 : decode cL_law 239 = .ok (.iconst 1, 1) := dk_4 (ck1_s (r := 47) dT_cL_law_3 rfl dg_cL_law_27.2.2.2.1)
theorem dL_law_240 : decode cL_law 240 = .ok (.iadd, 1) := dk_96 (ck1_s (r := 48) dT_cL_law_3 rfl dg_cL_law_27.2.2.2.2.1)
theorem dL_law_241 : decode cL_law 241 = .ok (.iaload, 1) := dk_46 (ck1_s (r := 49) dT_cL_law_3 rfl dg_cL_law_27.2.2.2.2.2.1)
theorem dL_law_242 : decode cL_law 242 = .ok (.aload_n 0, 1) := dk_42 (ck1_s (r := 50) dT_cL_law_3 rfl dg_cL_law_27.2.2.2.2.2.2.1)
theorem dL_law_243 : decode cL_law 243 = .ok (.iload_n 3, 1) := dk_29 (ck1_s (r := 51) dT_cL_law_3 rfl dg_cL_law_27.2.2.2.2.2.2.2)
theorem dg_cL_law_28 : ck1L dS_cL_law_3 52 5 = true ∧ ck1L dS_cL_law_3 53 96 = true ∧ ck1L dS_cL_law_3 54 46 = true ∧ ck1L dS_cL_law_3 55 42 = true ∧ ck1L dS_cL_law_3 56 29 = true ∧ ck1L dS_cL_law_3 57 6 = true ∧ ck1L dS_cL_law_3 58 96 = true ∧ ck1L dS_cL_law_3 59 46 = true := by decide +kernel
theorem dL_law_244 : decode cL_law 244 = .ok (.iconst 2, 1) := dk_5 (ck1_s (r := 52) dT_cL_law_3 rfl dg_cL_law_28.1)
theorem dL_law_245 : decode cL_law 245 = .ok (.iadd, 1) := dk_96 (ck1_s (r := 53) dT_cL_law_3 rfl dg_cL_law_28.2.1)
theorem dL_law_246 : decode cL_law 246 = .ok (.iaload, 1) := dk_46 (ck1_s (r := 54) dT_cL_law_3 rfl dg_cL_law_28.2.2.1)
theorem dL_law_247 : decode cL_law 247 = .ok (.aload_n 0, 1) := dk_42 (ck1_s (r := 55) dT_cL_law_3 rfl dg_cL_law_28.2.2.2.1)
theorem dL_law_248 : decode cL_law 248 = .ok (.iload_n 3, 1) := dk_29 (ck1_s (r := 56) dT_cL_law_3 rfl dg_cL_law_28.2.2.2.2.1)
theorem dL_law_249 : decode cL_law 249 = .ok (.iconst 3, 1) := dk_6 (ck1_s (r := 57) dT_cL_law_3 rfl dg_cL_law_28.2.2.2.2.2.1)
theorem dL_law_250 : decode cL_law 250 = .ok (.iadd, 1) := dk_96 (ck1_s (r := 58) dT_cL_law_3 rfl dg_cL_law_28.2.2.2.2.2.2.1)
theorem dL_law_251 : decode cL_law 251 = .ok (.iaload, 1) := dk_46 (ck1_s (r := 59) dT_cL_law_3 rfl dg_cL_law_28.2.2.2.2.2.2.2)
theorem dg_cL_law_29 : ck1L dS_cL_law_3 60 42 = true ∧ ck1L dS_cL_law_3 61 29 = true ∧ ck1L dS_cL_law_3 62 7 = true ∧ ck1L dS_cL_law_3 63 96 = true ∧ ck1L dS_cL_law_4 0 46 = true ∧ ck1L dS_cL_law_4 1 42 = true ∧ ck1L dS_cL_law_4 2 29 = true ∧ ck1L dS_cL_law_4 3 8 = true := by decide +kernel
theorem dL_law_252 : decode cL_law 252 = .ok (.aload_n 0, 1) := dk_42 (ck1_s (r := 60) dT_cL_law_3 rfl dg_cL_law_29.1)
theorem dL_law_253 : decode cL_law 253 = .ok (.iload_n 3, 1) := dk_29 (ck1_s (r := 61) dT_cL_law_3 rfl dg_cL_law_29.2.1)
theorem dL_law_254 : decode cL_law 254 = .ok (.iconst 4, 1) := dk_7 (ck1_s (r := 62) dT_cL_law_3 rfl dg_cL_law_29.2.2.1)
theorem dL_law_255 : decode cL_law 255 = .ok (.iadd, 1) := dk_96 (ck1_s (r := 63) dT_cL_law_3 rfl dg_cL_law_29.2.2.2.1)
theorem dL_law_256 : decode cL_law 256 = .ok (.iaload, 1) := dk_46 (ck1_s (r := 0) dT_cL_law_4 rfl dg_cL_law_29.2.2.2.2.1)
theorem dL_law_257 : decode cL_law 257 = .ok (.aload_n 0, 1) := dk_42 (ck1_s (r := 1) dT_cL_law_4 rfl dg_cL_law_29.2.2.2.2.2.1)
theorem dL_law_258 : decode cL_law 258 = .ok (.iload_n 3, 1) := dk_29 (ck1_s (r := 2) dT_cL_law_4 rfl dg_cL_law_29.2.2.2.2.2.2.1)
theorem dL_law_259 : decode cL_law 259 = .ok (.iconst 5, 1) := dk_8 (ck1_s (r := 3) dT_cL_law_4 rfl dg_cL_law_29.2.2.2.2.2.2.2)
theorem dg_cL_law_30 : ck1L dS_cL_law_4 4 96 = true ∧ ck1L dS_cL_law_4 5 46 = true ∧ ck3L dS_cL_law_4 6 182 13 = true ∧ ck1L dS_cL_law_4 9 87 = true ∧ ck1L dS_cL_law_4 10 44 = true ∧ ck1L dS_cL_law_4 11 42 = true ∧ ck1L dS_cL_law_4 12 29 = true ∧ ck1L dS_cL_law_4 13 4 = true := by decide +kernel
theorem dL_law_260 : decode cL_law 260 = .ok (.iadd, 1) := dk_96 (ck1_s (r := 4) dT_cL_law_4 rfl dg_cL_law_30.1)
theorem dL_law_261 : decode cL_law 261 = .ok (.iaload, 1) := dk_46 (ck1_s (r := 5) dT_cL_law_4 rfl dg_cL_law_30.2.1)
theorem dL_law_262 : decode cL_law 262 = .ok (.invokevirtual 13, 3) := dk_182 (ck3_s (r := 6) dT_cL_law_4 rfl dg_cL_law_30.2.2.1)
theorem dL_law_265 : decode cL_law 265 = .ok (.pop, 1) := dk_87 (ck1_s (r := 9) dT_cL_law_4 rfl dg_cL_law_30.2.2.2.1)
theorem dL_law_266 : decode cL_law 266 = .ok (.aload_n 2, 1) := dk_44 (ck1_s (r := 10) dT_cL_law_4 rfl dg_cL_law_30.2.2.2.2.1)
theorem dL_law_267 : decode cL_law 267 = .ok (.aload_n 0, 1) := dk_42 (ck1_s (r := 11) dT_cL_law_4 rfl dg_cL_law_30.2.2.2.2.2.1)
theorem dL_law_268 : decode cL_law 268 = .ok (.iload_n 3, 1) := dk_29 (ck1_s (r := 12) dT_cL_law_4 rfl dg_cL_law_30.2.2.2.2.2.2.1)
theorem dL_law_269 : decode cL_law 269 = .ok (.iconst 1, 1) := dk_4 (ck1_s (r := 13) dT_cL_law_4 rfl dg_cL_law_30.2.2.2.2.2.2.2)
theorem dg_cL_law_31 : ck1L dS_cL_law_4 14 96 = true ∧ ck1L dS_cL_law_4 15 46 = true ∧ ck1L dS_cL_law_4 16 42 = true ∧ ck1L dS_cL_law_4 17 29 = true ∧ ck1L dS_cL_law_4 18 5 = true ∧ ck1L dS_cL_law_4 19 96 = true ∧ ck1L dS_cL_law_4 20 46 = true ∧ ck1L dS_cL_law_4 21 42 = true := by decide +kernel
theorem dL_law_270 : decode cL_law 270 = .ok (.iadd, 1) := dk_96 (ck1_s (r := 14) dT_cL_law_4 rfl dg_cL_law_31.1)
theorem dL_law_271 : decode cL_law 271 = .ok (.iaload, 1) := dk_46 (ck1_s (r := 15) dT_cL_law_4 rfl dg_cL_law_31.2.1)
theorem dL_law_272 : decode cL_law 272 = .ok (.aload_n 0, 1) := dk_42 (ck1_s (r := 16) dT_cL_law_4 rfl dg_cL_law_31.2.2.1)
theorem dL_law_273 : decode cL_law 273 = .ok (.iload_n 3, 1) := dk_29 (ck1_s (r := 17) dT_cL_law_4 rfl dg_cL_law_31.2.2.2.1)
theorem dL_law_274 : decode cL_law 274 = .ok (.iconst 2, 1) := dk_5 (ck1_s (r := 18) dT_cL_law_4 rfl dg_cL_law_31.2.2.2.2.1)
theorem dL_law_275 : decode cL_law 275 = .ok (.iadd, 1) := dk_96 (ck1_s (r := 19) dT_cL_law_4 rfl dg_cL_law_31.2.2.2.2.2.1)
theorem dL_law_276 : decode cL_law 276 = .ok (.iaload, 1) := dk_46 (ck1_s (r := 20) dT_cL_law_4 rfl dg_cL_law_31.2.2.2.2.2.2.1)
theorem dL_law_277 : decode cL_law 277 = .ok (.aload_n 0, 1) := dk_42 (ck1_s (r := 21) dT_cL_law_4 rfl dg_cL_law_31.2.2.2.2.2.2.2)
theorem dg_cL_law_32 : ck1L dS_cL_law_4 22 29 = true ∧ ck1L dS_cL_law_4 23 6 = true ∧ ck1L dS_cL_law_4 24 96 = true ∧ ck1L dS_cL_law_4 25 46 = true ∧ ck1L dS_cL_law_4 26 42 = true ∧ ck1L dS_cL_law_4 27 29 = true ∧ ck1L dS_cL_law_4 28 7 = true ∧ ck1L dS_cL_law_4 29 96 = true := by decide +kernel
theorem dL_law_278 : decode cL_law 278 = .ok (.iload_n 3, 1) := dk_29 (ck1_s (r := 22) dT_cL_law_4 rfl dg_cL_law_32.1)
theorem dL_law_279 : decode cL_law 279 = .ok (.iconst 3, 1) := dk_6 (ck1_s (r := 23) dT_cL_law_4 rfl dg_cL_law_32.2.1)
theorem dL_law_280 : decode cL_law 280 = .ok (.iadd, 1) := dk_96 (ck1_s (r := 24) dT_cL_law_4 rfl dg_cL_law_32.2.2.1)
theorem dL_law_281 : decode cL_law 281 = .ok (.iaload, 1) := dk_46 (ck1_s (r := 25) dT_cL_law_4 rfl dg_cL_law_32.2.2.2.1)
theorem dL_law_282 : decode cL_law 282 = .ok (.aload_n 0, 1) := dk_42 (ck1_s (r := 26) dT_cL_law_4 rfl dg_cL_law_32.2.2.2.2.1)
theorem dL_law_283 : decode cL_law 283 = .ok (.iload_n 3, 1) := dk_29 (ck1_s (r := 27) dT_cL_law_4 rfl dg_cL_law_32.2.2.2.2.2.1)
theorem dL_law_284 : decode cL_law 284 = .ok (.iconst 4, 1) := dk_7 (ck1_s (r := 28) dT_cL_law_4 rfl dg_cL_law_32.2.2.2.2.2.2.1)
theorem dL_law_285 : decode cL_law 285 = .ok (.iadd, 1) := dk_96 (ck1_s (r := 29) dT_cL_law_4 rfl dg_cL_law_32.2.2.2.2.2.2.2)
theorem dg_cL_law_33 : ck1L dS_cL_law_4 30 46 = true ∧ ck1L dS_cL_law_4 31 42 = true ∧ ck1L dS_cL_law_4 32 29 = true ∧ ck1L dS_cL_law_4 33 8 = true ∧ ck1L dS_cL_law_4 34 96 = true ∧ ck1L dS_cL_law_4 35 46 = true ∧ ck3L dS_cL_law_4 36 182 17 = true ∧ ck1L dS_cL_law_4 39 87 = true := by decide +kernel
theorem dL_law_286 : decode cL_law 286 = .ok (.iaload, 1) := dk_46 (ck1_s (r := 30) dT_cL_law_4 rfl dg_cL_law_33.1)
theorem dL_law_287 : decode cL_law 287 = .ok (.aload_n 0, 1) := dk_42 (ck1_s (r := 31) dT_cL_law_4 rfl dg_cL_law_33.2.1)
theorem dL_law_288 : decode cL_law 288 = .ok (.iload_n 3, 1) := dk_29 (ck1_s (r := 32) dT_cL_law_4 rfl dg_cL_law_33.2.2.1)
theorem dL_law_289 : decode cL_law 289 = .ok (.iconst 5, 1) := dk_8 (ck1_s (r := 33) dT_cL_law_4 rfl dg_cL_law_33.2.2.2.1)
theorem dL_law_290 : decode cL_law 290 = .ok (.iadd, 1) := dk_96 (ck1_s (r := 34) dT_cL_law_4 rfl dg_cL_law_33.2.2.2.2.1)
theorem dL_law_291 : decode cL_law 291 = .ok (.iaload, 1) := dk_46 (ck1_s (r := 35) dT_cL_law_4 rfl dg_cL_law_33.2.2.2.2.2.1)
theorem dL_law_292 : decode cL_law 292 = .ok (.invokevirtual 17, 3) := dk_182 (ck3_s (r := 36) dT_cL_law_4 rfl dg_cL_law_33.2.2.2.2.2.2.1)
theorem dL_law_295 : decode cL_law 295 = .ok (.pop, 1) := dk_87 (ck1_s (r := 39) dT_cL_law_4 rfl dg_cL_law_33.2.2.2.2.2.2.2)
theorem dg_cL_law_34 : ck3sL dS_cL_law_4 40 167 1117 = true ∧ ck1L dS_cL_law_4 43 43 = true ∧ ck1L dS_cL_law_4 44 42 = true ∧ ck1L dS_cL_law_4 45 29 = true ∧ ck1L dS_cL_law_4 46 4 = true ∧ ck1L dS_cL_law_4 47 96 = true ∧ ck1L dS_cL_law_4 48 46 = true ∧ ck3L dS_cL_law_4 49 182 18 = true := by decide +kernel
theorem dL_law_296 : decode cL_law 296 = .ok (.goto 1117, 3) := dk_167 (ck3s_s (r := 40) dT_cL_law_4 rfl dg_cL_law_34.1)
theorem dL_law_299 : decode cL_law 299 = .ok (.aload_n 1, 1) := dk_43 (ck1_s (r := 43) dT_cL_law_4 rfl dg_cL_law_34.2.1)
theorem dL_law_300 : decode cL_law 300 = .ok (.aload_n 0, 1) := dk_42 (ck1_s (r := 44) dT_cL_law_4 rfl dg_cL_law_34.2.2.1)
theorem dL_law_301 : decode cL_law 301 = .ok (.iload_n 3, 1) := dk_29 (ck1_s (r := 45) dT_cL_law_4 rfl dg_cL_law_34.2.2.2.1)
theorem dL_law_302 : decode cL_law 302 = .ok (.iconst 1, 1) := dk_4 (ck1_s (r := 46) dT_cL_law_4 rfl dg_cL_law_34.2.2.2.2.1)
theorem dL_law_303 : decode cL_law 303 = .ok (.iadd, 1) := dk_96 (ck1_s (r := 47) dT_cL_law_4 rfl dg_cL_law_34.2.2.2.2.2.1)
theorem dL_law_304 : decode cL_law 304 = .ok (.iaload, 1) := dk_46 (ck1_s (r := 48) dT_cL_law_4 rfl dg_cL_law_34.2.2.2.2.2.2.1)
theorem dL_law_305 : decode cL_law 305 = .ok (.invokevirtual 18, 3) := dk_182 (ck3_s (r := 49) dT_cL_law_4 rfl dg_cL_law_34.2.2.2.2.2.2.2)
theorem dg_cL_law_35 : ck1L dS_cL_law_4 52 87 = true ∧ ck1L dS_cL_law_4 53 44 = true ∧ ck1L dS_cL_law_4 54 42 = true ∧ ck1L dS_cL_law_4 55 29 = true ∧ ck1L dS_cL_law_4 56 4 = true ∧ ck1L dS_cL_law_4 57 96 = true ∧ ck1L dS_cL_law_4 58 46 = true ∧ ck3L dS_cL_law_4 59 182 22 = true := by decide +kernel
theorem dL_law_308 : decode cL_law 308 = .ok (.pop, 1) := dk_87 (ck1_s (r := 52) dT_cL_law_4 rfl dg_cL_law_35.1)
theorem dL_law_309 : decode cL_law 309 = .ok (.aload_n 2, 1) := dk_44 (ck1_s (r := 53) dT_cL_law_4 rfl dg_cL_law_35.2.1)
theorem dL_law_310 : decode cL_law 310 = .ok (.aload_n 0, 1) := dk_42 (ck1_s (r := 54) dT_cL_law_4 rfl dg_cL_law_35.2.2.1)
theorem dL_law_311 : decode cL_law 311 = .ok (.iload_n 3, 1) := dk_29 (ck1_s (r := 55) dT_cL_law_4 rfl dg_cL_law_35.2.2.2.1)
theorem dL_law_312 : decode cL_law 312 = .ok (.iconst 1, 1) := dk_4 (ck1_s (r := 56) dT_cL_law_4 rfl dg_cL_law_35.2.2.2.2.1)
theorem dL_law_313 : decode cL_law 313 = .ok (.iadd, 1) := dk_96 (ck1_s (r := 57) dT_cL_law_4 rfl dg_cL_law_35.2.2.2.2.2.1)
theorem dL_law_314 : decode cL_law 314 = .ok (.iaload, 1) := dk_46 (ck1_s (r := 58) dT_cL_law_4 rfl dg_cL_law_35.2.2.2.2.2.2.1)
theorem dL_law_315 : decode cL_law 315 = .ok (.invokevirtual 22, 3) := dk_182 (ck3_s (r := 59) dT_cL_law_4 rfl dg_cL_law_35.2.2.2.2.2.2.2)
theorem dg_cL_law_36 : ck1L dS_cL_law_4 62 87 = true ∧ ck3sL dS_cL_law_4 63 167 1094 = true ∧ ck1L dS_cL_law_5 2 43 = true ∧ ck3L dS_cL_law_5 3 182 23 = true ∧ ck1L dS_cL_law_5 6 87 = true ∧ ck1L dS_cL_law_5 7 44 = true ∧ ck3L dS_cL_law_5 8 182 27 = true ∧ ck1L dS_cL_law_5 11 87 = true := by decide +kernel
theorem dL_law_318 : decode cL_law 318 = .ok (.pop, 1) := dk_87 (ck1_s (r := 62) dT_cL_law_4 rfl dg_cL_law_36.1)
theorem dL_law_319 : decode cL_law 319 = .ok (.goto 1094, 3) := dk_167 (ck3s_s (r := 63) dT_cL_law_4 rfl dg_cL_law_36.2.1)
theorem dL_law_322 : decode cL_law 322 = .ok (.aload_n 1, 1) := dk_43 (ck1_s (r := 2) dT_cL_law_5 rfl dg_cL_law_36.2.2.1)
theorem dL_law_323 : decode cL_law 323 = .ok (.invokevirtual 23, 3) := dk_182 (ck3_s (r := 3) dT_cL_law_5 rfl dg_cL_law_36.2.2.2.1)
theorem dL_law_326 : decode cL_law 326 = .ok (.pop, 1) := dk_87 (ck1_s (r := 6) dT_cL_law_5 rfl dg_cL_law_36.2.2.2.2.1)
theorem dL_law_327 : decode cL_law 327 = .ok (.aload_n 2, 1) := dk_44 (ck1_s (r := 7) dT_cL_law_5 rfl dg_cL_law_36.2.2.2.2.2.1)
theorem dL_law_328 : decode cL_law 328 = .ok (.invokevirtual 27, 3) := dk_182 (ck3_s (r := 8) dT_cL_law_5 rfl dg_cL_law_36.2.2.2.2.2.2.1)
theorem dL_law_331 : decode cL_law 331 = .ok (.pop, 1) := dk_87 (ck1_s (r := 11) dT_cL_law_5 rfl dg_cL_law_36.2.2.2.2.2.2.2)
theorem dg_cL_law_37 : ck3sL dS_cL_law_5 12 167 1081 = true ∧ ck1L dS_cL_law_5 15 43 = true ∧ ck1L dS_cL_law_5 16 42 = true ∧ ck1L dS_cL_law_5 17 29 = true ∧ ck1L dS_cL_law_5 18 4 = true ∧ ck1L dS_cL_law_5 19 96 = true ∧ ck1L dS_cL_law_5 20 46 = true ∧ ck3L dS_cL_law_5 21 182 28 = true := by decide +kernel
theorem dL_law_332 : decode cL_law 332 = .ok (.goto 1081, 3) := dk_167 (ck3s_s (r := 12) dT_cL_law_5 rfl dg_cL_law_37.1)
theorem dL_law_335 : decode cL_law 335 = .ok (.aload_n 1, 1) := dk_43 (ck1_s (r := 15) dT_cL_law_5 rfl dg_cL_law_37.2.1)
theorem dL_law_336 : decode cL_law 336 = .ok (.aload_n 0, 1) := dk_42 (ck1_s (r := 16) dT_cL_law_5 rfl dg_cL_law_37.2.2.1)
theorem dL_law_337 : decode cL_law 337 = .ok (.iload_n 3, 1) := dk_29 (ck1_s (r := 17) dT_cL_law_5 rfl dg_cL_law_37.2.2.2.1)
theorem dL_law_338 : decode cL_law 338 = .ok (.iconst 1, 1) := dk_4 (ck1_s (r := 18) dT_cL_law_5 rfl dg_cL_law_37.2.2.2.2.1)
theorem dL_law_339 : decode cL_law 339 = .ok (.iadd, 1) := dk_96 (ck1_s (r := 19) dT_cL_law_5 rfl dg_cL_law_37.2.2.2.2.2.1)
theorem dL_law_340 : decode cL_law 340 = .ok (.iaload, 1) := dk_46 (ck1_s (r := 20) dT_cL_law_5 rfl dg_cL_law_37.2.2.2.2.2.2.1)
theorem dL_law_341 : decode cL_law 341 = .ok (.invokevirtual 28, 3) := dk_182 (ck3_s (r := 21) dT_cL_law_5 rfl dg_cL_law_37.2.2.2.2.2.2.2)
theorem dg_cL_law_38 : ck1L dS_cL_law_5 24 87 = true ∧ ck1L dS_cL_law_5 25 44 = true ∧ ck1L dS_cL_law_5 26 42 = true ∧ ck1L dS_cL_law_5 27 29 = true ∧ ck1L dS_cL_law_5 28 4 = true ∧ ck1L dS_cL_law_5 29 96 = true ∧ ck1L dS_cL_law_5 30 46 = true ∧ ck3L dS_cL_law_5 31 182 31 = true := by decide +kernel
theorem dL_law_344 : decode cL_law 344 = .ok (.pop, 1) := dk_87 (ck1_s (r := 24) dT_cL_law_5 rfl dg_cL_law_38.1)
theorem dL_law_345 : decode cL_law 345 = .ok (.aload_n 2, 1) := dk_44 (ck1_s (r := 25) dT_cL_law_5 rfl dg_cL_law_38.2.1)
theorem dL_law_346 : decode cL_law 346 = .ok (.aload_n 0, 1) := dk_42 (ck1_s (r := 26) dT_cL_law_5 rfl dg_cL_law_38.2.2.1)
theorem dL_law_347 : decode cL_law 347 = .ok (.iload_n 3, 1) := dk_29 (ck1_s (r := 27) dT_cL_law_5 rfl dg_cL_law_38.2.2.2.1)
theorem dL_law_348 : decode cL_law 348 = .ok (.iconst 1, 1) := dk_4 (ck1_s (r := 28) dT_cL_law_5 rfl dg_cL_law_38.2.2.2.2.1)
theorem dL_law_349 : decode cL_law 349 = .ok (.iadd, 1) := dk_96 (ck1_s (r := 29) dT_cL_law_5 rfl dg_cL_law_38.2.2.2.2.2.1)
theorem dL_law_350 : decode cL_law 350 = .ok (.iaload, 1) := dk_46 (ck1_s (r := 30) dT_cL_law_5 rfl dg_cL_law_38.2.2.2.2.2.2.1)
theorem dL_law_351 : decode cL_law 351 = .ok (.invokevirtual 31, 3) := dk_182 (ck3_s (r := 31) dT_cL_law_5 rfl dg_cL_law_38.2.2.2.2.2.2.2)
theorem dg_cL_law_39 : ck1L dS_cL_law_5 34 87 = true ∧ ck3sL dS_cL_law_5 35 167 1058 = true ∧ ck1L dS_cL_law_5 38 43 = true ∧ ck1L dS_cL_law_5 39 42 = true ∧ ck1L dS_cL_law_5 40 29 = true ∧ ck1L dS_cL_law_5 41 4 = true ∧ ck1L dS_cL_law_5 42 96 = true ∧ ck1L dS_cL_law_5 43 46 = true := by decide +kernel
theorem dL_law_354 : decode cL_law 354 = .ok (.pop, 1) := dk_87 (ck1_s (r := 34) dT_cL_law_5 rfl dg_cL_law_39.1)
theorem dL_law_355 : decode cL_law 355 = .ok (.goto 1058, 3) := dk_167 (ck3s_s (r := 35) dT_cL_law_5 rfl dg_cL_law_39.2.1)
theorem dL_law_358 : decode cL_law 358 = .ok (.aload_n 1, 1) := dk_43 (ck1_s (r := 38) dT_cL_law_5 rfl dg_cL_law_39.2.2.1)
theorem dL_law_359 : decode cL_law 359 = .ok (.aload_n 0, 1) := dk_42 (ck1_s (r := 39) dT_cL_law_5 rfl dg_cL_law_39.2.2.2.1)
theorem dL_law_360 : decode cL_law 360 = .ok (.iload_n 3, 1) := dk_29 (ck1_s (r := 40) dT_cL_law_5 rfl dg_cL_law_39.2.2.2.2.1)
theorem dL_law_361 : decode cL_law 361 = .ok (.iconst 1, 1) := dk_4 (ck1_s (r := 41) dT_cL_law_5 rfl dg_cL_law_39.2.2.2.2.2.1)
theorem dL_law_362 : decode cL_law 362 = .ok (.iadd, 1) := dk_96 (ck1_s (r := 42) dT_cL_law_5 rfl dg_cL_law_39.2.2.2.2.2.2.1)
theorem dL_law_363 : decode cL_law 363 = .ok (.iaload, 1) := dk_46 (ck1_s (r := 43) dT_cL_law_5 rfl dg_cL_law_39.2.2.2.2.2.2.2)
theorem dg_cL_law_40 : ck1L dS_cL_law_5 44 42 = true ∧ ck1L dS_cL_law_5 45 29 = true ∧ ck1L dS_cL_law_5 46 5 = true ∧ ck1L dS_cL_law_5 47 96 = true ∧ ck1L dS_cL_law_5 48 46 = true ∧ ck3L dS_cL_law_5 49 182 32 = true ∧ ck1L dS_cL_law_5 52 87 = true ∧ ck1L dS_cL_law_5 53 44 = true := by decide +kernel
theorem dL_law_364 : decode cL_law 364 = .ok (.aload_n 0, 1) := dk_42 (ck1_s (r := 44) dT_cL_law_5 rfl dg_cL_law_40.1)
theorem dL_law_365 : decode cL_law 365 = .ok (.iload_n 3, 1) := dk_29 (ck1_s (r := 45) dT_cL_law_5 rfl dg_cL_law_40.2.1)
theorem dL_law_366 : decode cL_law 366 = .ok (.iconst 2, 1) := dk_5 (ck1_s (r := 46) dT_cL_law_5 rfl dg_cL_law_40.2.2.1)
theorem dL_law_367 : decode cL_law 367 = .ok (.iadd, 1) := dk_96 (ck1_s (r := 47) dT_cL_law_5 rfl dg_cL_law_40.2.2.2.1)
theorem dL_law_368 : decode cL_law 368 = .ok (.iaload, 1) := dk_46 (ck1_s (r := 48) dT_cL_law_5 rfl dg_cL_law_40.2.2.2.2.1)
theorem dL_law_369 : decode cL_law 369 = .ok (.invokevirtual 32, 3) := dk_182 (ck3_s (r := 49) dT_cL_law_5 rfl dg_cL_law_40.2.2.2.2.2.1)
theorem dL_law_372 : decode cL_law 372 = .ok (.pop, 1) := dk_87 (ck1_s (r := 52) dT_cL_law_5 rfl dg_cL_law_40.2.2.2.2.2.2.1)
theorem dL_law_373 : decode cL_law 373 = .ok (.aload_n 2, 1) := dk_44 (ck1_s (r := 53) dT_cL_law_5 rfl dg_cL_law_40.2.2.2.2.2.2.2)
theorem dg_cL_law_41 : ck1L dS_cL_law_5 54 42 = true ∧ ck1L dS_cL_law_5 55 29 = true ∧ ck1L dS_cL_law_5 56 4 = true ∧ ck1L dS_cL_law_5 57 96 = true ∧ ck1L dS_cL_law_5 58 46 = true ∧ ck1L dS_cL_law_5 59 42 = true ∧ ck1L dS_cL_law_5 60 29 = true ∧ ck1L dS_cL_law_5 61 5 = true := by decide +kernel
theorem dL_law_374 : decode cL_law 374 = .ok (.aload_n 0, 1) := dk_42 (ck1_s (r := 54) dT_cL_law_5 rfl dg_cL_law_41.1)
theorem dL_law_375 : decode cL_law 375 = .ok (.iload_n 3, 1) := dk_29 (ck1_s (r := 55) dT_cL_law_5 rfl dg_cL_law_41.2.1)
theorem dL_law_376 : decode cL_law 376 = .ok (.iconst 1, 1) := dk_4 (ck1_s (r := 56) dT_cL_law_5 rfl dg_cL_law_41.2.2.1)
theorem dL_law_377 : decode cL_law 377 = .ok (.iadd, 1) := dk_96 (ck1_s (r := 57) dT_cL_law_5 rfl dg_cL_law_41.2.2.2.1)
theorem dL_law_378 : decode cL_law 378 = .ok (.iaload, 1) := dk_46 (ck1_s (r := 58) dT_cL_law_5 rfl dg_cL_law_41.2.2.2.2.1)
theorem dL_law_379 : decode cL_law 379 = .ok (.aload_n 0, 1) := dk_42 (ck1_s (r := 59) dT_cL_law_5 rfl dg_cL_law_41.2.2.2.2.2.1)
theorem dL_law_380 : decode cL_law 380 = .ok (.iload_n 3, 1) := dk_29 (ck1_s (r := 60) dT_cL_law_5 rfl dg_cL_law_41.2.2.2.2.2.2.1)
theorem dL_law_381 : decode cL_law 381 = .ok (.iconst 2, 1) := dk_5 (ck1_s (r := 61) dT_cL_law_5 rfl dg_cL_law_41.2.2.2.2.2.2.2)
theorem dg_cL_law_42 : ck1L dS_cL_law_5 62 96 = true ∧ ck1L dS_cL_law_5 63 46 = true ∧ ck3L dS_cL_law_6 0 182 36 = true ∧ ck1L dS_cL_law_6 3 87 = true ∧ ck3sL dS_cL_law_6 4 167 1025 = true ∧ ck1L dS_cL_law_6 7 43 = true ∧ ck1L dS_cL_law_6 8 42 = true ∧ ck1L dS_cL_law_6 9 29 = true := by decide +kernel
theorem dL_law_382 : decode cL_law 382 = .ok (.iadd, 1) := dk_96 (ck1_s (r := 62) dT_cL_law_5 rfl dg_cL_law_42.1)
theorem dL_law_383 : decode cL_law 383 = .ok (.iaload, 1) := dk_46 (ck1_s (r := 63) dT_cL_law_5 rfl dg_cL_law_42.2.1)
theorem dL_law_384 : decode cL_law 384 = .ok (.invokevirtual 36, 3) := dk_182 (ck3_s (r := 0) dT_cL_law_6 rfl dg_cL_law_42.2.2.1)
theorem dL_law_387 : decode cL_law 387 = .ok (.pop, 1) := dk_87 (ck1_s (r := 3) dT_cL_law_6 rfl dg_cL_law_42.2.2.2.1)
theorem dL_law_388 : decode cL_law 388 = .ok (.goto 1025, 3) := dk_167 (ck3s_s (r := 4) dT_cL_law_6 rfl dg_cL_law_42.2.2.2.2.1)
theorem dL_law_391 : decode cL_law 391 = .ok (.aload_n 1, 1) := dk_43 (ck1_s (r := 7) dT_cL_law_6 rfl dg_cL_law_42.2.2.2.2.2.1)
theorem dL_law_392 : decode cL_law 392 = .ok (.aload_n 0, 1) := dk_42 (ck1_s (r := 8) dT_cL_law_6 rfl dg_cL_law_42.2.2.2.2.2.2.1)
theorem dL_law_393 : decode cL_law 393 = .ok (.iload_n 3, 1) := dk_29 (ck1_s (r := 9) dT_cL_law_6 rfl dg_cL_law_42.2.2.2.2.2.2.2)
theorem dg_cL_law_43 : ck1L dS_cL_law_6 10 4 = true ∧ ck1L dS_cL_law_6 11 96 = true ∧ ck1L dS_cL_law_6 12 46 = true ∧ ck1L dS_cL_law_6 13 42 = true ∧ ck1L dS_cL_law_6 14 29 = true ∧ ck1L dS_cL_law_6 15 5 = true ∧ ck1L dS_cL_law_6 16 96 = true ∧ ck1L dS_cL_law_6 17 46 = true := by decide +kernel
theorem dL_law_394 : decode cL_law 394 = .ok (.iconst 1, 1) := dk_4 (ck1_s (r := 10) dT_cL_law_6 rfl dg_cL_law_43.1)
theorem dL_law_395 : decode cL_law 395 = .ok (.iadd, 1) := dk_96 (ck1_s (r := 11) dT_cL_law_6 rfl dg_cL_law_43.2.1)
theorem dL_law_396 : decode cL_law 396 = .ok (.iaload, 1) := dk_46 (ck1_s (r := 12) dT_cL_law_6 rfl dg_cL_law_43.2.2.1)
theorem dL_law_397 : decode cL_law 397 = .ok (.aload_n 0, 1) := dk_42 (ck1_s (r := 13) dT_cL_law_6 rfl dg_cL_law_43.2.2.2.1)
theorem dL_law_398 : decode cL_law 398 = .ok (.iload_n 3, 1) := dk_29 (ck1_s (r := 14) dT_cL_law_6 rfl dg_cL_law_43.2.2.2.2.1)
theorem dL_law_399 : decode cL_law 399 = .ok (.iconst 2, 1) := dk_5 (ck1_s (r := 15) dT_cL_law_6 rfl dg_cL_law_43.2.2.2.2.2.1)
theorem dL_law_400 : decode cL_law 400 = .ok (.iadd, 1) := dk_96 (ck1_s (r := 16) dT_cL_law_6 rfl dg_cL_law_43.2.2.2.2.2.2.1)
theorem dL_law_401 : decode cL_law 401 = .ok (.iaload, 1) := dk_46 (ck1_s (r := 17) dT_cL_law_6 rfl dg_cL_law_43.2.2.2.2.2.2.2)
theorem dg_cL_law_44 : ck3L dS_cL_law_6 18 182 37 = true ∧ ck1L dS_cL_law_6 21 87 = true ∧ ck1L dS_cL_law_6 22 44 = true ∧ ck1L dS_cL_law_6 23 42 = true ∧ ck1L dS_cL_law_6 24 29 = true ∧ ck1L dS_cL_law_6 25 4 = true ∧ ck1L dS_cL_law_6 26 96 = true ∧ ck1L dS_cL_law_6 27 46 = true := by decide +kernel
theorem dL_law_402 : decode cL_law 402 = .ok (.invokevirtual 37, 3) := dk_182 (ck3_s (r := 18) dT_cL_law_6 rfl dg_cL_law_44.1)
theorem dL_law_405 : decode cL_law 405 = .ok (.pop, 1) := dk_87 (ck1_s (r := 21) dT_cL_law_6 rfl dg_cL_law_44.2.1)
theorem dL_law_406 : decode cL_law 406 = .ok (.aload_n 2, 1) := dk_44 (ck1_s (r := 22) dT_cL_law_6 rfl dg_cL_law_44.2.2.1)
theorem dL_law_407 : decode cL_law 407 = .ok (.aload_n 0, 1) := dk_42 (ck1_s (r := 23) dT_cL_law_6 rfl dg_cL_law_44.2.2.2.1)
theorem dL_law_408 : decode cL_law 408 = .ok (.iload_n 3, 1) := dk_29 (ck1_s (r := 24) dT_cL_law_6 rfl dg_cL_law_44.2.2.2.2.1)
theorem dL_law_409 : decode cL_law 409 = .ok (.iconst 1, 1) := dk_4 (ck1_s (r := 25) dT_cL_law_6 rfl dg_cL_law_44.2.2.2.2.2.1)
theorem dL_law_410 : decode cL_law 410 = .ok (.iadd, 1) := dk_96 (ck1_s (r := 26) dT_cL_law_6 rfl dg_cL_law_44.2.2.2.2.2.2.1)
theorem dL_law_411 : decode cL_law 411 = .ok (.iaload, 1) := dk_46 (ck1_s (r := 27) dT_cL_law_6 rfl dg_cL_law_44.2.2.2.2.2.2.2)
theorem dg_cL_law_45 : ck1L dS_cL_law_6 28 42 = true ∧ ck1L dS_cL_law_6 29 29 = true ∧ ck1L dS_cL_law_6 30 5 = true ∧ ck1L dS_cL_law_6 31 96 = true ∧ ck1L dS_cL_law_6 32 46 = true ∧ ck3L dS_cL_law_6 33 182 40 = true ∧ ck1L dS_cL_law_6 36 87 = true ∧ ck3sL dS_cL_law_6 37 167 992 = true := by decide +kernel
theorem dL_law_412 : decode cL_law 412 = .ok (.aload_n 0, 1) := dk_42 (ck1_s (r := 28) dT_cL_law_6 rfl dg_cL_law_45.1)
theorem dL_law_413 : decode cL_law 413 = .ok (.iload_n 3, 1) := dk_29 (ck1_s (r := 29) dT_cL_law_6 rfl dg_cL_law_45.2.1)
theorem dL_law_414 : decode cL_law 414 = .ok (.iconst 2, 1) := dk_5 (ck1_s (r := 30) dT_cL_law_6 rfl dg_cL_law_45.2.2.1)
theorem dL_law_415 : decode cL_law 415 = .ok (.iadd, 1) := dk_96 (ck1_s (r := 31) dT_cL_law_6 rfl dg_cL_law_45.2.2.2.1)
theorem dL_law_416 : decode cL_law 416 = .ok (.iaload, 1) := dk_46 (ck1_s (r := 32) dT_cL_law_6 rfl dg_cL_law_45.2.2.2.2.1)
theorem dL_law_417 : decode cL_law 417 = .ok (.invokevirtual 40, 3) := dk_182 (ck3_s (r := 33) dT_cL_law_6 rfl dg_cL_law_45.2.2.2.2.2.1)
theorem dL_law_420 : decode cL_law 420 = .ok (.pop, 1) := dk_87 (ck1_s (r := 36) dT_cL_law_6 rfl dg_cL_law_45.2.2.2.2.2.2.1)
theorem dL_law_421 : decode cL_law 421 = .ok (.goto 992, 3) := dk_167 (ck3s_s (r := 37) dT_cL_law_6 rfl dg_cL_law_45.2.2.2.2.2.2.2)
theorem dg_cL_law_46 : ck1L dS_cL_law_6 40 43 = true ∧ ck1L dS_cL_law_6 41 42 = true ∧ ck1L dS_cL_law_6 42 29 = true ∧ ck1L dS_cL_law_6 43 4 = true ∧ ck1L dS_cL_law_6 44 96 = true ∧ ck1L dS_cL_law_6 45 46 = true ∧ ck1L dS_cL_law_6 46 42 = true ∧ ck1L dS_cL_law_6 47 29 = true := by decide +kernel
theorem dL_law_424 : decode cL_law 424 = .ok (.aload_n 1, 1) := dk_43 (ck1_s (r := 40) dT_cL_law_6 rfl dg_cL_law_46.1)
theorem dL_law_425 : decode cL_law 425 = .ok (.aload_n 0, 1) := dk_42 (ck1_s (r := 41) dT_cL_law_6 rfl dg_cL_law_46.2.1)
theorem dL_law_426 : decode cL_law 426 = .ok (.iload_n 3, 1) := dk_29 (ck1_s (r := 42) dT_cL_law_6 rfl dg_cL_law_46.2.2.1)
theorem dL_law_427 : decode cL_law 427 = .ok (.iconst 1, 1) := dk_4 (ck1_s (r := 43) dT_cL_law_6 rfl dg_cL_law_46.2.2.2.1)
theorem dL_law_428 : decode cL_law 428 = .ok (.iadd, 1) := dk_96 (ck1_s (r := 44) dT_cL_law_6 rfl dg_cL_law_46.2.2.2.2.1)
theorem dL_law_429 : decode cL_law 429 = .ok (.iaload, 1) := dk_46 (ck1_s (r := 45) dT_cL_law_6 rfl dg_cL_law_46.2.2.2.2.2.1)
theorem dL_law_430 : decode cL_law 430 = .ok (.aload_n 0, 1) := dk_42 (ck1_s (r := 46) dT_cL_law_6 rfl dg_cL_law_46.2.2.2.2.2.2.1)
theorem dL_law_431 : decode cL_law 431 = .ok (.iload_n 3, 1) := dk_29 (ck1_s (r := 47) dT_cL_law_6 rfl dg_cL_law_46.2.2.2.2.2.2.2)
theorem dg_cL_law_47 : ck1L dS_cL_law_6 48 5 = true ∧ ck1L dS_cL_law_6 49 96 = true ∧ ck1L dS_cL_law_6 50 46 = true ∧ ck3L dS_cL_law_6 51 182 41 = true ∧ ck1L dS_cL_law_6 54 87 = true ∧ ck1L dS_cL_law_6 55 44 = true ∧ ck1L dS_cL_law_6 56 42 = true ∧ ck1L dS_cL_law_6 57 29 = true := by decide +kernel
theorem dL_law_432 : decode cL_law 432 = .ok (.iconst 2, 1) := dk_5 (ck1_s (r := 48) dT_cL_law_6 rfl dg_cL_law_47.1)
theorem dL_law_433 : decode cL_law 433 = .ok (.iadd, 1) := dk_96 (ck1_s (r := 49) dT_cL_law_6 rfl dg_cL_law_47.2.1)
theorem dL_law_434 : decode cL_law 434 = .ok (.iaload, 1) := dk_46 (ck1_s (r := 50) dT_cL_law_6 rfl dg_cL_law_47.2.2.1)
theorem dL_law_435 : decode cL_law 435 = .ok (.invokevirtual 41, 3) := dk_182 (ck3_s (r := 51) dT_cL_law_6 rfl dg_cL_law_47.2.2.2.1)
theorem dL_law_438 : decode cL_law 438 = .ok (.pop, 1) := dk_87 (ck1_s (r := 54) dT_cL_law_6 rfl dg_cL_law_47.2.2.2.2.1)
theorem dL_law_439 : decode cL_law 439 = .ok (.aload_n 2, 1) := dk_44 (ck1_s (r := 55) dT_cL_law_6 rfl dg_cL_law_47.2.2.2.2.2.1)
theorem dL_law_440 : decode cL_law 440 = .ok (.aload_n 0, 1) := dk_42 (ck1_s (r := 56) dT_cL_law_6 rfl dg_cL_law_47.2.2.2.2.2.2.1)
theorem dL_law_441 : decode cL_law 441 = .ok (.iload_n 3, 1) := dk_29 (ck1_s (r := 57) dT_cL_law_6 rfl dg_cL_law_47.2.2.2.2.2.2.2)
theorem dg_cL_law_48 : ck1L dS_cL_law_6 58 4 = true ∧ ck1L dS_cL_law_6 59 96 = true ∧ ck1L dS_cL_law_6 60 46 = true ∧ ck1L dS_cL_law_6 61 42 = true ∧ ck1L dS_cL_law_6 62 29 = true ∧ ck1L dS_cL_law_6 63 5 = true ∧ ck1L dS_cL_law_7 0 96 = true ∧ ck1L dS_cL_law_7 1 46 = true := by decide +kernel
theorem dL_law_442 : decode cL_law 442 = .ok (.iconst 1, 1) := dk_4 (ck1_s (r := 58) dT_cL_law_6 rfl dg_cL_law_48.1)
theorem dL_law_443 : decode cL_law 443 = .ok (.iadd, 1) := dk_96 (ck1_s (r := 59) dT_cL_law_6 rfl dg_cL_law_48.2.1)
theorem dL_law_444 : decode cL_law 444 = .ok (.iaload, 1) := dk_46 (ck1_s (r := 60) dT_cL_law_6 rfl dg_cL_law_48.2.2.1)
theorem dL_law_445 : decode cL_law 445 = .ok (.aload_n 0, 1) := dk_42 (ck1_s (r := 61) dT_cL_law_6 rfl dg_cL_law_48.2.2.2.1)
theorem dL_law_446 : decode cL_law 446 = .ok (.iload_n 3, 1) := dk_29 (ck1_s (r := 62) dT_cL_law_6 rfl dg_cL_law_48.2.2.2.2.1)
theorem dL_law_447 : decode cL_law 447 = .ok (.iconst 2, 1) := dk_5 (ck1_s (r := 63) dT_cL_law_6 rfl dg_cL_law_48.2.2.2.2.2.1)
theorem dL_law_448 : decode cL_law 448 = .ok (.iadd, 1) := dk_96 (ck1_s (r := 0) dT_cL_law_7 rfl dg_cL_law_48.2.2.2.2.2.2.1)
theorem dL_law_449 : decode cL_law 449 = .ok (.iaload, 1) := dk_46 (ck1_s (r := 1) dT_cL_law_7 rfl dg_cL_law_48.2.2.2.2.2.2.2)
theorem dg_cL_law_49 : ck3L dS_cL_law_7 2 182 44 = true ∧ ck1L dS_cL_law_7 5 87 = true ∧ ck3sL dS_cL_law_7 6 167 959 = true ∧ ck1L dS_cL_law_7 9 43 = true ∧ ck3L dS_cL_law_7 10 182 45 = true ∧ ck1L dS_cL_law_7 13 87 = true ∧ ck1L dS_cL_law_7 14 44 = true ∧ ck3L dS_cL_law_7 15 182 48 = true := by decide +kernel
theorem dL_law_450 : decode cL_law 450 = .ok (.invokevirtual 44, 3) := dk_182 (ck3_s (r := 2) dT_cL_law_7 rfl dg_cL_law_49.1)
theorem dL_law_453 : decode cL_law 453 = .ok (.pop, 1) := dk_87 (ck1_s (r := 5) dT_cL_law_7 rfl dg_cL_law_49.2.1)
theorem dL_law_454 : decode cL_law 454 = .ok (.goto 959, 3) := dk_167 (ck3s_s (r := 6) dT_cL_law_7 rfl dg_cL_law_49.2.2.1)
theorem dL_law_457 : decode cL_law 457 = .ok (.aload_n 1, 1) := dk_43 (ck1_s (r := 9) dT_cL_law_7 rfl dg_cL_law_49.2.2.2.1)
theorem dL_law_458 : decode cL_law 458 = .ok (.invokevirtual 45, 3) := dk_182 (ck3_s (r := 10) dT_cL_law_7 rfl dg_cL_law_49.2.2.2.2.1)
theorem dL_law_461 : decode cL_law 461 = .ok (.pop, 1) := dk_87 (ck1_s (r := 13) dT_cL_law_7 rfl dg_cL_law_49.2.2.2.2.2.1)
theorem dL_law_462 : decode cL_law 462 = .ok (.aload_n 2, 1) := dk_44 (ck1_s (r := 14) dT_cL_law_7 rfl dg_cL_law_49.2.2.2.2.2.2.1)
theorem dL_law_463 : decode cL_law 463 = .ok (.invokevirtual 48, 3) := dk_182 (ck3_s (r := 15) dT_cL_law_7 rfl dg_cL_law_49.2.2.2.2.2.2.2)
theorem dg_cL_law_50 : ck1L dS_cL_law_7 18 87 = true ∧ ck3sL dS_cL_law_7 19 167 946 = true ∧ ck1L dS_cL_law_7 22 43 = true ∧ ck1L dS_cL_law_7 23 42 = true ∧ ck1L dS_cL_law_7 24 29 = true ∧ ck1L dS_cL_law_7 25 4 = true ∧ ck1L dS_cL_law_7 26 96 = true ∧ ck1L dS_cL_law_7 27 46 = true := by decide +kernel
theorem dL_law_466 : decode cL_law 466 = .ok (.pop, 1) := dk_87 (ck1_s (r := 18) dT_cL_law_7 rfl dg_cL_law_50.1)
theorem dL_law_467 : decode cL_law 467 = .ok (.goto 946, 3) := dk_167 (ck3s_s (r := 19) dT_cL_law_7 rfl dg_cL_law_50.2.1)
theorem dL_law_470 : decode cL_law 470 = .ok (.aload_n 1, 1) := dk_43 (ck1_s (r := 22) dT_cL_law_7 rfl dg_cL_law_50.2.2.1)
theorem dL_law_471 : decode cL_law 471 = .ok (.aload_n 0, 1) := dk_42 (ck1_s (r := 23) dT_cL_law_7 rfl dg_cL_law_50.2.2.2.1)
theorem dL_law_472 : decode cL_law 472 = .ok (.iload_n 3, 1) := dk_29 (ck1_s (r := 24) dT_cL_law_7 rfl dg_cL_law_50.2.2.2.2.1)
theorem dL_law_473 : decode cL_law 473 = .ok (.iconst 1, 1) := dk_4 (ck1_s (r := 25) dT_cL_law_7 rfl dg_cL_law_50.2.2.2.2.2.1)
theorem dL_law_474 : decode cL_law 474 = .ok (.iadd, 1) := dk_96 (ck1_s (r := 26) dT_cL_law_7 rfl dg_cL_law_50.2.2.2.2.2.2.1)
theorem dL_law_475 : decode cL_law 475 = .ok (.iaload, 1) := dk_46 (ck1_s (r := 27) dT_cL_law_7 rfl dg_cL_law_50.2.2.2.2.2.2.2)
theorem dg_cL_law_51 : ck1L dS_cL_law_7 28 42 = true ∧ ck1L dS_cL_law_7 29 29 = true ∧ ck1L dS_cL_law_7 30 5 = true ∧ ck1L dS_cL_law_7 31 96 = true ∧ ck1L dS_cL_law_7 32 46 = true ∧ ck3L dS_cL_law_7 33 182 49 = true ∧ ck1L dS_cL_law_7 36 87 = true ∧ ck1L dS_cL_law_7 37 44 = true := by decide +kernel
theorem dL_law_476 : decode cL_law 476 = .ok (.aload_n 0, 1) := dk_42 (ck1_s (r := 28) dT_cL_law_7 rfl dg_cL_law_51.1)
theorem dL_law_477 : decode cL_law 477 = .ok (.iload_n 3, 1) := dk_29 (ck1_s (r := 29) dT_cL_law_7 rfl dg_cL_law_51.2.1)
theorem dL_law_478 : decode cL_law 478 = .ok (.iconst 2, 1) := dk_5 (ck1_s (r := 30) dT_cL_law_7 rfl dg_cL_law_51.2.2.1)
theorem dL_law_479 : decode cL_law 479 = .ok (.iadd, 1) := dk_96 (ck1_s (r := 31) dT_cL_law_7 rfl dg_cL_law_51.2.2.2.1)
theorem dL_law_480 : decode cL_law 480 = .ok (.iaload, 1) := dk_46 (ck1_s (r := 32) dT_cL_law_7 rfl dg_cL_law_51.2.2.2.2.1)
theorem dL_law_481 : decode cL_law 481 = .ok (.invokevirtual 49, 3) := dk_182 (ck3_s (r := 33) dT_cL_law_7 rfl dg_cL_law_51.2.2.2.2.2.1)
theorem dL_law_484 : decode cL_law 484 = .ok (.pop, 1) := dk_87 (ck1_s (r := 36) dT_cL_law_7 rfl dg_cL_law_51.2.2.2.2.2.2.1)
theorem dL_law_485 : decode cL_law 485 = .ok (.aload_n 2, 1) := dk_44 (ck1_s (r := 37) dT_cL_law_7 rfl dg_cL_law_51.2.2.2.2.2.2.2)
theorem dg_cL_law_52 : ck1L dS_cL_law_7 38 42 = true ∧ ck1L dS_cL_law_7 39 29 = true ∧ ck1L dS_cL_law_7 40 4 = true ∧ ck1L dS_cL_law_7 41 96 = true ∧ ck1L dS_cL_law_7 42 46 = true ∧ ck1L dS_cL_law_7 43 42 = true ∧ ck1L dS_cL_law_7 44 29 = true ∧ ck1L dS_cL_law_7 45 5 = true := by decide +kernel
theorem dL_law_486 : decode cL_law 486 = .ok (.aload_n 0, 1) := dk_42 (ck1_s (r := 38) dT_cL_law_7 rfl dg_cL_law_52.1)
theorem dL_law_487 : decode cL_law 487 = .ok (.iload_n 3, 1) := dk_29 (ck1_s (r := 39) dT_cL_law_7 rfl dg_cL_law_52.2.1)
theorem dL_law_488 : decode cL_law 488 = .ok (.iconst 1, 1) := dk_4 (ck1_s (r := 40) dT_cL_law_7 rfl dg_cL_law_52.2.2.1)
theorem dL_law_489 : decode cL_law 489 = .ok (.iadd, 1) := dk_96 (ck1_s (r := 41) dT_cL_law_7 rfl dg_cL_law_52.2.2.2.1)
theorem dL_law_490 : decode cL_law 490 = .ok (.iaload, 1) := dk_46 (ck1_s (r := 42) dT_cL_law_7 rfl dg_cL_law_52.2.2.2.2.1)
theorem dL_law_491 : decode cL_law 491 = .ok (.aload_n 0, 1) := dk_42 (ck1_s (r := 43) dT_cL_law_7 rfl dg_cL_law_52.2.2.2.2.2.1)
theorem dL_law_492 : decode cL_law 492 = .ok (.iload_n 3, 1) := dk_29 (ck1_s (r := 44) dT_cL_law_7 rfl dg_cL_law_52.2.2.2.2.2.2.1)
theorem dL_law_493 : decode cL_law 493 = .ok (.iconst 2, 1) := dk_5 (ck1_s (r := 45) dT_cL_law_7 rfl dg_cL_law_52.2.2.2.2.2.2.2)
theorem dg_cL_law_53 : ck1L dS_cL_law_7 46 96 = true ∧ ck1L dS_cL_law_7 47 46 = true ∧ ck3L dS_cL_law_7 48 182 52 = true ∧ ck1L dS_cL_law_7 51 87 = true ∧ ck3sL dS_cL_law_7 52 167 913 = true ∧ ck1L dS_cL_law_7 55 43 = true ∧ ck1L dS_cL_law_7 56 42 = true ∧ ck1L dS_cL_law_7 57 29 = true := by decide +kernel
theorem dL_law_494 : decode cL_law 494 = .ok (.iadd, 1) := dk_96 (ck1_s (r := 46) dT_cL_law_7 rfl dg_cL_law_53.1)
theorem dL_law_495 : decode cL_law 495 = .ok (.iaload, 1) := dk_46 (ck1_s (r := 47) dT_cL_law_7 rfl dg_cL_law_53.2.1)
theorem dL_law_496 : decode cL_law 496 = .ok (.invokevirtual 52, 3) := dk_182 (ck3_s (r := 48) dT_cL_law_7 rfl dg_cL_law_53.2.2.1)
theorem dL_law_499 : decode cL_law 499 = .ok (.pop, 1) := dk_87 (ck1_s (r := 51) dT_cL_law_7 rfl dg_cL_law_53.2.2.2.1)
theorem dL_law_500 : decode cL_law 500 = .ok (.goto 913, 3) := dk_167 (ck3s_s (r := 52) dT_cL_law_7 rfl dg_cL_law_53.2.2.2.2.1)
theorem dL_law_503 : decode cL_law 503 = .ok (.aload_n 1, 1) := dk_43 (ck1_s (r := 55) dT_cL_law_7 rfl dg_cL_law_53.2.2.2.2.2.1)
theorem dL_law_504 : decode cL_law 504 = .ok (.aload_n 0, 1) := dk_42 (ck1_s (r := 56) dT_cL_law_7 rfl dg_cL_law_53.2.2.2.2.2.2.1)
theorem dL_law_505 : decode cL_law 505 = .ok (.iload_n 3, 1) := dk_29 (ck1_s (r := 57) dT_cL_law_7 rfl dg_cL_law_53.2.2.2.2.2.2.2)
theorem dg_cL_law_54 : ck1L dS_cL_law_7 58 4 = true ∧ ck1L dS_cL_law_7 59 96 = true ∧ ck1L dS_cL_law_7 60 46 = true ∧ ck3L dS_cL_law_7 61 182 53 = true ∧ ck1L dS_cL_law_8 0 87 = true ∧ ck1L dS_cL_law_8 1 44 = true ∧ ck1L dS_cL_law_8 2 42 = true ∧ ck1L dS_cL_law_8 3 29 = true := by decide +kernel
theorem dL_law_506 : decode cL_law 506 = .ok (.iconst 1, 1) := dk_4 (ck1_s (r := 58) dT_cL_law_7 rfl dg_cL_law_54.1)
theorem dL_law_507 : decode cL_law 507 = .ok (.iadd, 1) := dk_96 (ck1_s (r := 59) dT_cL_law_7 rfl dg_cL_law_54.2.1)
theorem dL_law_508 : decode cL_law 508 = .ok (.iaload, 1) := dk_46 (ck1_s (r := 60) dT_cL_law_7 rfl dg_cL_law_54.2.2.1)
theorem dL_law_509 : decode cL_law 509 = .ok (.invokevirtual 53, 3) := dk_182 (ck3_s (r := 61) dT_cL_law_7 rfl dg_cL_law_54.2.2.2.1)
theorem dL_law_512 : decode cL_law 512 = .ok (.pop, 1) := dk_87 (ck1_s (r := 0) dT_cL_law_8 rfl dg_cL_law_54.2.2.2.2.1)
theorem dL_law_513 : decode cL_law 513 = .ok (.aload_n 2, 1) := dk_44 (ck1_s (r := 1) dT_cL_law_8 rfl dg_cL_law_54.2.2.2.2.2.1)
theorem dL_law_514 : decode cL_law 514 = .ok (.aload_n 0, 1) := dk_42 (ck1_s (r := 2) dT_cL_law_8 rfl dg_cL_law_54.2.2.2.2.2.2.1)
theorem dL_law_515 : decode cL_law 515 = .ok (.iload_n 3, 1) := dk_29 (ck1_s (r := 3) dT_cL_law_8 rfl dg_cL_law_54.2.2.2.2.2.2.2)
theorem dg_cL_law_55 : ck1L dS_cL_law_8 4 4 = true ∧ ck1L dS_cL_law_8 5 96 = true ∧ ck1L dS_cL_law_8 6 46 = true ∧ ck3L dS_cL_law_8 7 182 56 = true ∧ ck1L dS_cL_law_8 10 87 = true ∧ ck3sL dS_cL_law_8 11 167 890 = true ∧ ck1L dS_cL_law_8 14 43 = true ∧ ck1L dS_cL_law_8 15 42 = true := by decide +kernel
theorem dL_law_516 : decode cL_law 516 = .ok (.iconst 1, 1) := dk_4 (ck1_s (r := 4) dT_cL_law_8 rfl dg_cL_law_55.1)
theorem dL_law_517 : decode cL_law 517 = .ok (.iadd, 1) := dk_96 (ck1_s (r := 5) dT_cL_law_8 rfl dg_cL_law_55.2.1)
theorem dL_law_518 : decode cL_law 518 = .ok (.iaload, 1) := dk_46 (ck1_s (r := 6) dT_cL_law_8 rfl dg_cL_law_55.2.2.1)
theorem dL_law_519 : decode cL_law 519 = .ok (.invokevirtual 56, 3) := dk_182 (ck3_s (r := 7) dT_cL_law_8 rfl dg_cL_law_55.2.2.2.1)
theorem dL_law_522 : decode cL_law 522 = .ok (.pop, 1) := dk_87 (ck1_s (r := 10) dT_cL_law_8 rfl dg_cL_law_55.2.2.2.2.1)
theorem dL_law_523 : decode cL_law 523 = .ok (.goto 890, 3) := dk_167 (ck3s_s (r := 11) dT_cL_law_8 rfl dg_cL_law_55.2.2.2.2.2.1)
theorem dL_law_526 : decode cL_law 526 = .ok (.aload_n 1, 1) := dk_43 (ck1_s (r := 14) dT_cL_law_8 rfl dg_cL_law_55.2.2.2.2.2.2.1)
theorem dL_law_527 : decode cL_law 527 = .ok (.aload_n 0, 1) := dk_42 (ck1_s (r := 15) dT_cL_law_8 rfl dg_cL_law_55.2.2.2.2.2.2.2)
theorem dg_cL_law_56 : ck1L dS_cL_law_8 16 29 = true ∧ ck1L dS_cL_law_8 17 4 = true ∧ ck1L dS_cL_law_8 18 96 = true ∧ ck1L dS_cL_law_8 19 46 = true ∧ ck1L dS_cL_law_8 20 42 = true ∧ ck1L dS_cL_law_8 21 29 = true ∧ ck1L dS_cL_law_8 22 5 = true ∧ ck1L dS_cL_law_8 23 96 = true := by decide +kernel
theorem dL_law_528 : decode cL_law 528 = .ok (.iload_n 3, 1) := dk_29 (ck1_s (r := 16) dT_cL_law_8 rfl dg_cL_law_56.1)
theorem dL_law_529 : decode cL_law 529 = .ok (.iconst 1, 1) := dk_4 (ck1_s (r := 17) dT_cL_law_8 rfl dg_cL_law_56.2.1)
theorem dL_law_530 : decode cL_law 530 = .ok (.iadd, 1) := dk_96 (ck1_s (r := 18) dT_cL_law_8 rfl dg_cL_law_56.2.2.1)
theorem dL_law_531 : decode cL_law 531 = .ok (.iaload, 1) := dk_46 (ck1_s (r := 19) dT_cL_law_8 rfl dg_cL_law_56.2.2.2.1)
theorem dL_law_532 : decode cL_law 532 = .ok (.aload_n 0, 1) := dk_42 (ck1_s (r := 20) dT_cL_law_8 rfl dg_cL_law_56.2.2.2.2.1)
theorem dL_law_533 : decode cL_law 533 = .ok (.iload_n 3, 1) := dk_29 (ck1_s (r := 21) dT_cL_law_8 rfl dg_cL_law_56.2.2.2.2.2.1)
theorem dL_law_534 : decode cL_law 534 = .ok (.iconst 2, 1) := dk_5 (ck1_s (r := 22) dT_cL_law_8 rfl dg_cL_law_56.2.2.2.2.2.2.1)
theorem dL_law_535 : decode cL_law 535 = .ok (.iadd, 1) := dk_96 (ck1_s (r := 23) dT_cL_law_8 rfl dg_cL_law_56.2.2.2.2.2.2.2)
theorem dg_cL_law_57 : ck1L dS_cL_law_8 24 46 = true ∧ ck3L dS_cL_law_8 25 182 57 = true ∧ ck1L dS_cL_law_8 28 87 = true ∧ ck1L dS_cL_law_8 29 44 = true ∧ ck1L dS_cL_law_8 30 42 = true ∧ ck1L dS_cL_law_8 31 29 = true ∧ ck1L dS_cL_law_8 32 4 = true ∧ ck1L dS_cL_law_8 33 96 = true := by decide +kernel
theorem dL_law_536 : decode cL_law 536 = .ok (.iaload, 1) := dk_46 (ck1_s (r := 24) dT_cL_law_8 rfl dg_cL_law_57.1)
theorem dL_law_537 : decode cL_law 537 = .ok (.invokevirtual 57, 3) := dk_182 (ck3_s (r := 25) dT_cL_law_8 rfl dg_cL_law_57.2.1)
theorem dL_law_540 : decode cL_law 540 = .ok (.pop, 1) := dk_87 (ck1_s (r := 28) dT_cL_law_8 rfl dg_cL_law_57.2.2.1)
theorem dL_law_541 : decode cL_law 541 = .ok (.aload_n 2, 1) := dk_44 (ck1_s (r := 29) dT_cL_law_8 rfl dg_cL_law_57.2.2.2.1)
theorem dL_law_542 : decode cL_law 542 = .ok (.aload_n 0, 1) := dk_42 (ck1_s (r := 30) dT_cL_law_8 rfl dg_cL_law_57.2.2.2.2.1)
theorem dL_law_543 : decode cL_law 543 = .ok (.iload_n 3, 1) := dk_29 (ck1_s (r := 31) dT_cL_law_8 rfl dg_cL_law_57.2.2.2.2.2.1)
theorem dL_law_544 : decode cL_law 544 = .ok (.iconst 1, 1) := dk_4 (ck1_s (r := 32) dT_cL_law_8 rfl dg_cL_law_57.2.2.2.2.2.2.1)
theorem dL_law_545 : decode cL_law 545 = .ok (.iadd, 1) := dk_96 (ck1_s (r := 33) dT_cL_law_8 rfl dg_cL_law_57.2.2.2.2.2.2.2)
theorem dg_cL_law_58 : ck1L dS_cL_law_8 34 46 = true ∧ ck1L dS_cL_law_8 35 42 = true ∧ ck1L dS_cL_law_8 36 29 = true ∧ ck1L dS_cL_law_8 37 5 = true ∧ ck1L dS_cL_law_8 38 96 = true ∧ ck1L dS_cL_law_8 39 46 = true ∧ ck3L dS_cL_law_8 40 182 60 = true ∧ ck1L dS_cL_law_8 43 87 = true := by decide +kernel
theorem dL_law_546 : decode cL_law 546 = .ok (.iaload, 1) := dk_46 (ck1_s (r := 34) dT_cL_law_8 rfl dg_cL_law_58.1)
theorem dL_law_547 : decode cL_law 547 = .ok (.aload_n 0, 1) := dk_42 (ck1_s (r := 35) dT_cL_law_8 rfl dg_cL_law_58.2.1)
theorem dL_law_548 : decode cL_law 548 = .ok (.iload_n 3, 1) := dk_29 (ck1_s (r := 36) dT_cL_law_8 rfl dg_cL_law_58.2.2.1)
theorem dL_law_549 : decode cL_law 549 = .ok (.iconst 2, 1) := dk_5 (ck1_s (r := 37) dT_cL_law_8 rfl dg_cL_law_58.2.2.2.1)
theorem dL_law_550 : decode cL_law 550 = .ok (.iadd, 1) := dk_96 (ck1_s (r := 38) dT_cL_law_8 rfl dg_cL_law_58.2.2.2.2.1)
theorem dL_law_551 : decode cL_law 551 = .ok (.iaload, 1) := dk_46 (ck1_s (r := 39) dT_cL_law_8 rfl dg_cL_law_58.2.2.2.2.2.1)
theorem dL_law_552 : decode cL_law 552 = .ok (.invokevirtual 60, 3) := dk_182 (ck3_s (r := 40) dT_cL_law_8 rfl dg_cL_law_58.2.2.2.2.2.2.1)
theorem dL_law_555 : decode cL_law 555 = .ok (.pop, 1) := dk_87 (ck1_s (r := 43) dT_cL_law_8 rfl dg_cL_law_58.2.2.2.2.2.2.2)
theorem dg_cL_law_59 : ck3sL dS_cL_law_8 44 167 857 = true ∧ ck1L dS_cL_law_8 47 43 = true ∧ ck1L dS_cL_law_8 48 42 = true ∧ ck1L dS_cL_law_8 49 29 = true ∧ ck1L dS_cL_law_8 50 4 = true ∧ ck1L dS_cL_law_8 51 96 = true ∧ ck1L dS_cL_law_8 52 46 = true ∧ ck1L dS_cL_law_8 53 42 = true := by decide +kernel
theorem dL_law_556 : decode cL_law 556 = .ok (.goto 857, 3) := dk_167 (ck3s_s (r := 44) dT_cL_law_8 rfl dg_cL_law_59.1)
theorem dL_law_559 : decode cL_law 559 = .ok (.aload_n 1, 1) := dk_43 (ck1_s (r := 47) dT_cL_law_8 rfl dg_cL_law_59.2.1)
theorem dL_law_560 : decode cL_law 560 = .ok (.aload_n 0, 1) := dk_42 (ck1_s (r := 48) dT_cL_law_8 rfl dg_cL_law_59.2.2.1)
theorem dL_law_561 : decode cL_law 561 = .ok (.iload_n 3, 1) := dk_29 (ck1_s (r := 49) dT_cL_law_8 rfl dg_cL_law_59.2.2.2.1)
theorem dL_law_562 : decode cL_law 562 = .ok (.iconst 1, 1) := dk_4 (ck1_s (r := 50) dT_cL_law_8 rfl dg_cL_law_59.2.2.2.2.1)
theorem dL_law_563 : decode cL_law 563 = .ok (.iadd, 1) := dk_96 (ck1_s (r := 51) dT_cL_law_8 rfl dg_cL_law_59.2.2.2.2.2.1)
theorem dL_law_564 : decode cL_law 564 = .ok (.iaload, 1) := dk_46 (ck1_s (r := 52) dT_cL_law_8 rfl dg_cL_law_59.2.2.2.2.2.2.1)
theorem dL_law_565 : decode cL_law 565 = .ok (.aload_n 0, 1) := dk_42 (ck1_s (r := 53) dT_cL_law_8 rfl dg_cL_law_59.2.2.2.2.2.2.2)
theorem dg_cL_law_60 : ck1L dS_cL_law_8 54 29 = true ∧ ck1L dS_cL_law_8 55 5 = true ∧ ck1L dS_cL_law_8 56 96 = true ∧ ck1L dS_cL_law_8 57 46 = true ∧ ck3L dS_cL_law_8 58 182 61 = true ∧ ck1L dS_cL_law_8 61 87 = true ∧ ck1L dS_cL_law_8 62 44 = true ∧ ck1L dS_cL_law_8 63 42 = true := by decide +kernel
theorem dL_law_566 : decode cL_law 566 = .ok (.iload_n 3, 1) := dk_29 (ck1_s (r := 54) dT_cL_law_8 rfl dg_cL_law_60.1)
theorem dL_law_567 : decode cL_law 567 = .ok (.iconst 2, 1) := dk_5 (ck1_s (r := 55) dT_cL_law_8 rfl dg_cL_law_60.2.1)
theorem dL_law_568 : decode cL_law 568 = .ok (.iadd, 1) := dk_96 (ck1_s (r := 56) dT_cL_law_8 rfl dg_cL_law_60.2.2.1)
theorem dL_law_569 : decode cL_law 569 = .ok (.iaload, 1) := dk_46 (ck1_s (r := 57) dT_cL_law_8 rfl dg_cL_law_60.2.2.2.1)
theorem dL_law_570 : decode cL_law 570 = .ok (.invokevirtual 61, 3) := dk_182 (ck3_s (r := 58) dT_cL_law_8 rfl dg_cL_law_60.2.2.2.2.1)
theorem dL_law_573 : decode cL_law 573 = .ok (.pop, 1) := dk_87 (ck1_s (r := 61) dT_cL_law_8 rfl dg_cL_law_60.2.2.2.2.2.1)
theorem dL_law_574 : decode cL_law 574 = .ok (.aload_n 2, 1) := dk_44 (ck1_s (r := 62) dT_cL_law_8 rfl dg_cL_law_60.2.2.2.2.2.2.1)
theorem dL_law_575 : decode cL_law 575 = .ok (.aload_n 0, 1) := dk_42 (ck1_s (r := 63) dT_cL_law_8 rfl dg_cL_law_60.2.2.2.2.2.2.2)
theorem dg_cL_law_61 : ck1L dS_cL_law_9 0 29 = true ∧ ck1L dS_cL_law_9 1 4 = true ∧ ck1L dS_cL_law_9 2 96 = true ∧ ck1L dS_cL_law_9 3 46 = true ∧ ck1L dS_cL_law_9 4 42 = true ∧ ck1L dS_cL_law_9 5 29 = true ∧ ck1L dS_cL_law_9 6 5 = true ∧ ck1L dS_cL_law_9 7 96 = true := by decide +kernel
theorem dL_law_576 : decode cL_law 576 = .ok (.iload_n 3, 1) := dk_29 (ck1_s (r := 0) dT_cL_law_9 rfl dg_cL_law_61.1)
theorem dL_law_577 : decode cL_law 577 = .ok (.iconst 1, 1) := dk_4 (ck1_s (r := 1) dT_cL_law_9 rfl dg_cL_law_61.2.1)
theorem dL_law_578 : decode cL_law 578 = .ok (.iadd, 1) := dk_96 (ck1_s (r := 2) dT_cL_law_9 rfl dg_cL_law_61.2.2.1)
theorem dL_law_579 : decode cL_law 579 = .ok (.iaload, 1) := dk_46 (ck1_s (r := 3) dT_cL_law_9 rfl dg_cL_law_61.2.2.2.1)
theorem dL_law_580 : decode cL_law 580 = .ok (.aload_n 0, 1) := dk_42 (ck1_s (r := 4) dT_cL_law_9 rfl dg_cL_law_61.2.2.2.2.1)
theorem dL_law_581 : decode cL_law 581 = .ok (.iload_n 3, 1) := dk_29 (ck1_s (r := 5) dT_cL_law_9 rfl dg_cL_law_61.2.2.2.2.2.1)
theorem dL_law_582 : decode cL_law 582 = .ok (.iconst 2, 1) := dk_5 (ck1_s (r := 6) dT_cL_law_9 rfl dg_cL_law_61.2.2.2.2.2.2.1)
theorem dL_law_583 : decode cL_law 583 = .ok (.iadd, 1) := dk_96 (ck1_s (r := 7) dT_cL_law_9 rfl dg_cL_law_61.2.2.2.2.2.2.2)
theorem dg_cL_law_62 : ck1L dS_cL_law_9 8 46 = true ∧ ck3L dS_cL_law_9 9 182 64 = true ∧ ck1L dS_cL_law_9 12 87 = true ∧ ck3sL dS_cL_law_9 13 167 824 = true ∧ ck1L dS_cL_law_9 16 43 = true ∧ ck1L dS_cL_law_9 17 42 = true ∧ ck1L dS_cL_law_9 18 29 = true ∧ ck1L dS_cL_law_9 19 4 = true := by decide +kernel
theorem dL_law_584 : decode cL_law 584 = .ok (.iaload, 1) := dk_46 (ck1_s (r := 8) dT_cL_law_9 rfl dg_cL_law_62.1)
theorem dL_law_585 : decode cL_law 585 = .ok (.invokevirtual 64, 3) := dk_182 (ck3_s (r := 9) dT_cL_law_9 rfl dg_cL_law_62.2.1)
theorem dL_law_588 : decode cL_law 588 = .ok (.pop, 1) := dk_87 (ck1_s (r := 12) dT_cL_law_9 rfl dg_cL_law_62.2.2.1)
theorem dL_law_589 : decode cL_law 589 = .ok (.goto 824, 3) := dk_167 (ck3s_s (r := 13) dT_cL_law_9 rfl dg_cL_law_62.2.2.2.1)
theorem dL_law_592 : decode cL_law 592 = .ok (.aload_n 1, 1) := dk_43 (ck1_s (r := 16) dT_cL_law_9 rfl dg_cL_law_62.2.2.2.2.1)
theorem dL_law_593 : decode cL_law 593 = .ok (.aload_n 0, 1) := dk_42 (ck1_s (r := 17) dT_cL_law_9 rfl dg_cL_law_62.2.2.2.2.2.1)
theorem dL_law_594 : decode cL_law 594 = .ok (.iload_n 3, 1) := dk_29 (ck1_s (r := 18) dT_cL_law_9 rfl dg_cL_law_62.2.2.2.2.2.2.1)
theorem dL_law_595 : decode cL_law 595 = .ok (.iconst 1, 1) := dk_4 (ck1_s (r := 19) dT_cL_law_9 rfl dg_cL_law_62.2.2.2.2.2.2.2)
theorem dg_cL_law_63 : ck1L dS_cL_law_9 20 96 = true ∧ ck1L dS_cL_law_9 21 46 = true ∧ ck1L dS_cL_law_9 22 42 = true ∧ ck1L dS_cL_law_9 23 29 = true ∧ ck1L dS_cL_law_9 24 5 = true ∧ ck1L dS_cL_law_9 25 96 = true ∧ ck1L dS_cL_law_9 26 46 = true ∧ ck3L dS_cL_law_9 27 182 65 = true := by decide +kernel
theorem dL_law_596 : decode cL_law 596 = .ok (.iadd, 1) := dk_96 (ck1_s (r := 20) dT_cL_law_9 rfl dg_cL_law_63.1)
theorem dL_law_597 : decode cL_law 597 = .ok (.iaload, 1) := dk_46 (ck1_s (r := 21) dT_cL_law_9 rfl dg_cL_law_63.2.1)
theorem dL_law_598 : decode cL_law 598 = .ok (.aload_n 0, 1) := dk_42 (ck1_s (r := 22) dT_cL_law_9 rfl dg_cL_law_63.2.2.1)
theorem dL_law_599 : decode cL_law 599 = .ok (.iload_n 3, 1) := dk_29 (ck1_s (r := 23) dT_cL_law_9 rfl dg_cL_law_63.2.2.2.1)
theorem dL_law_600 : decode cL_law 600 = .ok (.iconst 2, 1) := dk_5 (ck1_s (r := 24) dT_cL_law_9 rfl dg_cL_law_63.2.2.2.2.1)
theorem dL_law_601 : decode cL_law 601 = .ok (.iadd, 1) := dk_96 (ck1_s (r := 25) dT_cL_law_9 rfl dg_cL_law_63.2.2.2.2.2.1)
theorem dL_law_602 : decode cL_law 602 = .ok (.iaload, 1) := dk_46 (ck1_s (r := 26) dT_cL_law_9 rfl dg_cL_law_63.2.2.2.2.2.2.1)
theorem dL_law_603 : decode cL_law 603 = .ok (.invokevirtual 65, 3) := dk_182 (ck3_s (r := 27) dT_cL_law_9 rfl dg_cL_law_63.2.2.2.2.2.2.2)
theorem dg_cL_law_64 : ck1L dS_cL_law_9 30 87 = true ∧ ck1L dS_cL_law_9 31 44 = true ∧ ck1L dS_cL_law_9 32 42 = true ∧ ck1L dS_cL_law_9 33 29 = true ∧ ck1L dS_cL_law_9 34 4 = true ∧ ck1L dS_cL_law_9 35 96 = true ∧ ck1L dS_cL_law_9 36 46 = true ∧ ck1L dS_cL_law_9 37 42 = true := by decide +kernel
theorem dL_law_606 : decode cL_law 606 = .ok (.pop, 1) := dk_87 (ck1_s (r := 30) dT_cL_law_9 rfl dg_cL_law_64.1)
theorem dL_law_607 : decode cL_law 607 = .ok (.aload_n 2, 1) := dk_44 (ck1_s (r := 31) dT_cL_law_9 rfl dg_cL_law_64.2.1)
theorem dL_law_608 : decode cL_law 608 = .ok (.aload_n 0, 1) := dk_42 (ck1_s (r := 32) dT_cL_law_9 rfl dg_cL_law_64.2.2.1)
theorem dL_law_609 : decode cL_law 609 = .ok (.iload_n 3, 1) := dk_29 (ck1_s (r := 33) dT_cL_law_9 rfl dg_cL_law_64.2.2.2.1)
theorem dL_law_610 : decode cL_law 610 = .ok (.iconst 1, 1) := dk_4 (ck1_s (r := 34) dT_cL_law_9 rfl dg_cL_law_64.2.2.2.2.1)
theorem dL_law_611 : decode cL_law 611 = .ok (.iadd, 1) := dk_96 (ck1_s (r := 35) dT_cL_law_9 rfl dg_cL_law_64.2.2.2.2.2.1)
theorem dL_law_612 : decode cL_law 612 = .ok (.iaload, 1) := dk_46 (ck1_s (r := 36) dT_cL_law_9 rfl dg_cL_law_64.2.2.2.2.2.2.1)
theorem dL_law_613 : decode cL_law 613 = .ok (.aload_n 0, 1) := dk_42 (ck1_s (r := 37) dT_cL_law_9 rfl dg_cL_law_64.2.2.2.2.2.2.2)
theorem dg_cL_law_65 : ck1L dS_cL_law_9 38 29 = true ∧ ck1L dS_cL_law_9 39 5 = true ∧ ck1L dS_cL_law_9 40 96 = true ∧ ck1L dS_cL_law_9 41 46 = true ∧ ck3L dS_cL_law_9 42 182 68 = true ∧ ck1L dS_cL_law_9 45 87 = true ∧ ck3sL dS_cL_law_9 46 167 791 = true ∧ ck1L dS_cL_law_9 49 43 = true := by decide +kernel
theorem dL_law_614 : decode cL_law 614 = .ok (.iload_n 3, 1) := dk_29 (ck1_s (r := 38) dT_cL_law_9 rfl dg_cL_law_65.1)
theorem dL_law_615 : decode cL_law 615 = .ok (.iconst 2, 1) := dk_5 (ck1_s (r := 39) dT_cL_law_9 rfl dg_cL_law_65.2.1)
theorem dL_law_616 : decode cL_law 616 = .ok (.iadd, 1) := dk_96 (ck1_s (r := 40) dT_cL_law_9 rfl dg_cL_law_65.2.2.1)
theorem dL_law_617 : decode cL_law 617 = .ok (.iaload, 1) := dk_46 (ck1_s (r := 41) dT_cL_law_9 rfl dg_cL_law_65.2.2.2.1)
theorem dL_law_618 : decode cL_law 618 = .ok (.invokevirtual 68, 3) := dk_182 (ck3_s (r := 42) dT_cL_law_9 rfl dg_cL_law_65.2.2.2.2.1)
theorem dL_law_621 : decode cL_law 621 = .ok (.pop, 1) := dk_87 (ck1_s (r := 45) dT_cL_law_9 rfl dg_cL_law_65.2.2.2.2.2.1)
theorem dL_law_622 : decode cL_law 622 = .ok (.goto 791, 3) := dk_167 (ck3s_s (r := 46) dT_cL_law_9 rfl dg_cL_law_65.2.2.2.2.2.2.1)
theorem dL_law_625 : decode cL_law 625 = .ok (.aload_n 1, 1) := dk_43 (ck1_s (r := 49) dT_cL_law_9 rfl dg_cL_law_65.2.2.2.2.2.2.2)
theorem dg_cL_law_66 : ck1L dS_cL_law_9 50 42 = true ∧ ck1L dS_cL_law_9 51 29 = true ∧ ck1L dS_cL_law_9 52 4 = true ∧ ck1L dS_cL_law_9 53 96 = true ∧ ck1L dS_cL_law_9 54 46 = true ∧ ck3L dS_cL_law_9 55 182 69 = true ∧ ck1L dS_cL_law_9 58 87 = true ∧ ck1L dS_cL_law_9 59 44 = true := by decide +kernel
theorem dL_law_626 : decode cL_law 626 = .ok (.aload_n 0, 1) := dk_42 (ck1_s (r := 50) dT_cL_law_9 rfl dg_cL_law_66.1)
theorem dL_law_627 : decode cL_law 627 = .ok (.iload_n 3, 1) := dk_29 (ck1_s (r := 51) dT_cL_law_9 rfl dg_cL_law_66.2.1)
theorem dL_law_628 : decode cL_law 628 = .ok (.iconst 1, 1) := dk_4 (ck1_s (r := 52) dT_cL_law_9 rfl dg_cL_law_66.2.2.1)
theorem dL_law_629 : decode cL_law 629 = .ok (.iadd, 1) := dk_96 (ck1_s (r := 53) dT_cL_law_9 rfl dg_cL_law_66.2.2.2.1)
theorem dL_law_630 : decode cL_law 630 = .ok (.iaload, 1) := dk_46 (ck1_s (r := 54) dT_cL_law_9 rfl dg_cL_law_66.2.2.2.2.1)
theorem dL_law_631 : decode cL_law 631 = .ok (.invokevirtual 69, 3) := dk_182 (ck3_s (r := 55) dT_cL_law_9 rfl dg_cL_law_66.2.2.2.2.2.1)
theorem dL_law_634 : decode cL_law 634 = .ok (.pop, 1) := dk_87 (ck1_s (r := 58) dT_cL_law_9 rfl dg_cL_law_66.2.2.2.2.2.2.1)
theorem dL_law_635 : decode cL_law 635 = .ok (.aload_n 2, 1) := dk_44 (ck1_s (r := 59) dT_cL_law_9 rfl dg_cL_law_66.2.2.2.2.2.2.2)
theorem dg_cL_law_67 : ck1L dS_cL_law_9 60 42 = true ∧ ck1L dS_cL_law_9 61 29 = true ∧ ck1L dS_cL_law_9 62 4 = true ∧ ck1L dS_cL_law_9 63 96 = true ∧ ck1L dS_cL_law_10 0 46 = true ∧ ck3L dS_cL_law_10 1 182 72 = true ∧ ck1L dS_cL_law_10 4 87 = true ∧ ck3sL dS_cL_law_10 5 167 768 = true := by decide +kernel
theorem dL_law_636 : decode cL_law 636 = .ok (.aload_n 0, 1) := dk_42 (ck1_s (r := 60) dT_cL_law_9 rfl dg_cL_law_67.1)
theorem dL_law_637 : decode cL_law 637 = .ok (.iload_n 3, 1) := dk_29 (ck1_s (r := 61) dT_cL_law_9 rfl dg_cL_law_67.2.1)
theorem dL_law_638 : decode cL_law 638 = .ok (.iconst 1, 1) := dk_4 (ck1_s (r := 62) dT_cL_law_9 rfl dg_cL_law_67.2.2.1)
theorem dL_law_639 : decode cL_law 639 = .ok (.iadd, 1) := dk_96 (ck1_s (r := 63) dT_cL_law_9 rfl dg_cL_law_67.2.2.2.1)
theorem dL_law_640 : decode cL_law 640 = .ok (.iaload, 1) := dk_46 (ck1_s (r := 0) dT_cL_law_10 rfl dg_cL_law_67.2.2.2.2.1)
theorem dL_law_641 : decode cL_law 641 = .ok (.invokevirtual 72, 3) := dk_182 (ck3_s (r := 1) dT_cL_law_10 rfl dg_cL_law_67.2.2.2.2.2.1)
theorem dL_law_644 : decode cL_law 644 = .ok (.pop, 1) := dk_87 (ck1_s (r := 4) dT_cL_law_10 rfl dg_cL_law_67.2.2.2.2.2.2.1)
theorem dL_law_645 : decode cL_law 645 = .ok (.goto 768, 3) := dk_167 (ck3s_s (r := 5) dT_cL_law_10 rfl dg_cL_law_67.2.2.2.2.2.2.2)
theorem dg_cL_law_68 : ck1L dS_cL_law_10 8 43 = true ∧ ck3L dS_cL_law_10 9 182 73 = true ∧ ck1L dS_cL_law_10 12 87 = true ∧ ck1L dS_cL_law_10 13 44 = true ∧ ck3L dS_cL_law_10 14 182 77 = true ∧ ck1L dS_cL_law_10 17 87 = true ∧ ck3sL dS_cL_law_10 18 167 755 = true ∧ ck1L dS_cL_law_10 21 43 = true := by decide +kernel
theorem dL_law_648 : decode cL_law 648 = .ok (.aload_n 1, 1) := dk_43 (ck1_s (r := 8) dT_cL_law_10 rfl dg_cL_law_68.1)
theorem dL_law_649 : decode cL_law 649 = .ok (.invokevirtual 73, 3) := dk_182 (ck3_s (r := 9) dT_cL_law_10 rfl dg_cL_law_68.2.1)
theorem dL_law_652 : decode cL_law 652 = .ok (.pop, 1) := dk_87 (ck1_s (r := 12) dT_cL_law_10 rfl dg_cL_law_68.2.2.1)
theorem dL_law_653 : decode cL_law 653 = .ok (.aload_n 2, 1) := dk_44 (ck1_s (r := 13) dT_cL_law_10 rfl dg_cL_law_68.2.2.2.1)
theorem dL_law_654 : decode cL_law 654 = .ok (.invokevirtual 77, 3) := dk_182 (ck3_s (r := 14) dT_cL_law_10 rfl dg_cL_law_68.2.2.2.2.1)
theorem dL_law_657 : decode cL_law 657 = .ok (.pop, 1) := dk_87 (ck1_s (r := 17) dT_cL_law_10 rfl dg_cL_law_68.2.2.2.2.2.1)
theorem dL_law_658 : decode cL_law 658 = .ok (.goto 755, 3) := dk_167 (ck3s_s (r := 18) dT_cL_law_10 rfl dg_cL_law_68.2.2.2.2.2.2.1)
theorem dL_law_661 : decode cL_law 661 = .ok (.aload_n 1, 1) := dk_43 (ck1_s (r := 21) dT_cL_law_10 rfl dg_cL_law_68.2.2.2.2.2.2.2)
theorem dg_cL_law_69 : ck3L dS_cL_law_10 22 182 78 = true ∧ ck1L dS_cL_law_10 25 44 = true ∧ ck3L dS_cL_law_10 26 182 81 = true ∧ ck3sL dS_cL_law_10 29 159 744 = true ∧ ck1L dS_cL_law_10 32 3 = true ∧ ck1L dS_cL_law_10 33 172 = true ∧ ck1L dS_cL_law_10 34 43 = true ∧ ck1L dS_cL_law_10 35 42 = true := by decide +kernel
theorem dL_law_662 : decode cL_law 662 = .ok (.invokevirtual 78, 3) := dk_182 (ck3_s (r := 22) dT_cL_law_10 rfl dg_cL_law_69.1)
theorem dL_law_665 : decode cL_law 665 = .ok (.aload_n 2, 1) := dk_44 (ck1_s (r := 25) dT_cL_law_10 rfl dg_cL_law_69.2.1)
theorem dL_law_666 : decode cL_law 666 = .ok (.invokevirtual 81, 3) := dk_182 (ck3_s (r := 26) dT_cL_law_10 rfl dg_cL_law_69.2.2.1)
theorem dL_law_669 : decode cL_law 669 = .ok (.if_icmp .eq 744, 3) := dk_159 (ck3s_s (r := 29) dT_cL_law_10 rfl dg_cL_law_69.2.2.2.1)
theorem dL_law_672 : decode cL_law 672 = .ok (.iconst 0, 1) := dk_3 (ck1_s (r := 32) dT_cL_law_10 rfl dg_cL_law_69.2.2.2.2.1)
theorem dL_law_673 : decode cL_law 673 = .ok (.ireturn, 1) := dk_172 (ck1_s (r := 33) dT_cL_law_10 rfl dg_cL_law_69.2.2.2.2.2.1)
theorem dL_law_674 : decode cL_law 674 = .ok (.aload_n 1, 1) := dk_43 (ck1_s (r := 34) dT_cL_law_10 rfl dg_cL_law_69.2.2.2.2.2.2.1)
theorem dL_law_675 : decode cL_law 675 = .ok (.aload_n 0, 1) := dk_42 (ck1_s (r := 35) dT_cL_law_10 rfl dg_cL_law_69.2.2.2.2.2.2.2)
theorem dg_cL_law_70 : ck1L dS_cL_law_10 36 29 = true ∧ ck1L dS_cL_law_10 37 4 = true ∧ ck1L dS_cL_law_10 38 96 = true ∧ ck1L dS_cL_law_10 39 46 = true ∧ ck1L dS_cL_law_10 40 42 = true ∧ ck1L dS_cL_law_10 41 29 = true ∧ ck1L dS_cL_law_10 42 5 = true ∧ ck1L dS_cL_law_10 43 96 = true := by decide +kernel
theorem dL_law_676 : decode cL_law 676 = .ok (.iload_n 3, 1) := dk_29 (ck1_s (r := 36) dT_cL_law_10 rfl dg_cL_law_70.1)
theorem dL_law_677 : decode cL_law 677 = .ok (.iconst 1, 1) := dk_4 (ck1_s (r := 37) dT_cL_law_10 rfl dg_cL_law_70.2.1)
theorem dL_law_678 : decode cL_law 678 = .ok (.iadd, 1) := dk_96 (ck1_s (r := 38) dT_cL_law_10 rfl dg_cL_law_70.2.2.1)
theorem dL_law_679 : decode cL_law 679 = .ok (.iaload, 1) := dk_46 (ck1_s (r := 39) dT_cL_law_10 rfl dg_cL_law_70.2.2.2.1)
theorem dL_law_680 : decode cL_law 680 = .ok (.aload_n 0, 1) := dk_42 (ck1_s (r := 40) dT_cL_law_10 rfl dg_cL_law_70.2.2.2.2.1)
theorem dL_law_681 : decode cL_law 681 = .ok (.iload_n 3, 1) := dk_29 (ck1_s (r := 41) dT_cL_law_10 rfl dg_cL_law_70.2.2.2.2.2.1)
theorem dL_law_682 : decode cL_law 682 = .ok (.iconst 2, 1) := dk_5 (ck1_s (r := 42) dT_cL_law_10 rfl dg_cL_law_70.2.2.2.2.2.2.1)
theorem dL_law_683 : decode cL_law 683 = .ok (.iadd, 1) := dk_96 (ck1_s (r := 43) dT_cL_law_10 rfl dg_cL_law_70.2.2.2.2.2.2.2)
theorem dg_cL_law_71 : ck1L dS_cL_law_10 44 46 = true ∧ ck1L dS_cL_law_10 45 42 = true ∧ ck1L dS_cL_law_10 46 29 = true ∧ ck1L dS_cL_law_10 47 6 = true ∧ ck1L dS_cL_law_10 48 96 = true ∧ ck1L dS_cL_law_10 49 46 = true ∧ ck3L dS_cL_law_10 50 182 82 = true ∧ ck1L dS_cL_law_10 53 87 = true := by decide +kernel
theorem dL_law_684 : decode cL_law 684 = .ok (.iaload, 1) := dk_46 (ck1_s (r := 44) dT_cL_law_10 rfl dg_cL_law_71.1)
theorem dL_law_685 : decode cL_law 685 = .ok (.aload_n 0, 1) := dk_42 (ck1_s (r := 45) dT_cL_law_10 rfl dg_cL_law_71.2.1)
theorem dL_law_686 : decode cL_law 686 = .ok (.iload_n 3, 1) := dk_29 (ck1_s (r := 46) dT_cL_law_10 rfl dg_cL_law_71.2.2.1)
theorem dL_law_687 : decode cL_law 687 = .ok (.iconst 3, 1) := dk_6 (ck1_s (r := 47) dT_cL_law_10 rfl dg_cL_law_71.2.2.2.1)
theorem dL_law_688 : decode cL_law 688 = .ok (.iadd, 1) := dk_96 (ck1_s (r := 48) dT_cL_law_10 rfl dg_cL_law_71.2.2.2.2.1)
theorem dL_law_689 : decode cL_law 689 = .ok (.iaload, 1) := dk_46 (ck1_s (r := 49) dT_cL_law_10 rfl dg_cL_law_71.2.2.2.2.2.1)
theorem dL_law_690 : decode cL_law 690 = .ok (.invokevirtual 82, 3) := dk_182 (ck3_s (r := 50) dT_cL_law_10 rfl dg_cL_law_71.2.2.2.2.2.2.1)
theorem dL_law_693 : decode cL_law 693 = .ok (.pop, 1) := dk_87 (ck1_s (r := 53) dT_cL_law_10 rfl dg_cL_law_71.2.2.2.2.2.2.2)
theorem dg_cL_law_72 : ck1L dS_cL_law_10 54 44 = true ∧ ck1L dS_cL_law_10 55 42 = true ∧ ck1L dS_cL_law_10 56 29 = true ∧ ck1L dS_cL_law_10 57 4 = true ∧ ck1L dS_cL_law_10 58 96 = true ∧ ck1L dS_cL_law_10 59 46 = true ∧ ck1L dS_cL_law_10 60 42 = true ∧ ck1L dS_cL_law_10 61 29 = true := by decide +kernel
theorem dL_law_694 : decode cL_law 694 = .ok (.aload_n 2, 1) := dk_44 (ck1_s (r := 54) dT_cL_law_10 rfl dg_cL_law_72.1)
theorem dL_law_695 : decode cL_law 695 = .ok (.aload_n 0, 1) := dk_42 (ck1_s (r := 55) dT_cL_law_10 rfl dg_cL_law_72.2.1)
theorem dL_law_696 : decode cL_law 696 = .ok (.iload_n 3, 1) := dk_29 (ck1_s (r := 56) dT_cL_law_10 rfl dg_cL_law_72.2.2.1)
theorem dL_law_697 : decode cL_law 697 = .ok (.iconst 1, 1) := dk_4 (ck1_s (r := 57) dT_cL_law_10 rfl dg_cL_law_72.2.2.2.1)
theorem dL_law_698 : decode cL_law 698 = .ok (.iadd, 1) := dk_96 (ck1_s (r := 58) dT_cL_law_10 rfl dg_cL_law_72.2.2.2.2.1)
theorem dL_law_699 : decode cL_law 699 = .ok (.iaload, 1) := dk_46 (ck1_s (r := 59) dT_cL_law_10 rfl dg_cL_law_72.2.2.2.2.2.1)
theorem dL_law_700 : decode cL_law 700 = .ok (.aload_n 0, 1) := dk_42 (ck1_s (r := 60) dT_cL_law_10 rfl dg_cL_law_72.2.2.2.2.2.2.1)
theorem dL_law_701 : decode cL_law 701 = .ok (.iload_n 3, 1) := dk_29 (ck1_s (r := 61) dT_cL_law_10 rfl dg_cL_law_72.2.2.2.2.2.2.2)
theorem dg_cL_law_73 : ck1L dS_cL_law_10 62 5 = true ∧ ck1L dS_cL_law_10 63 96 = true ∧ ck1L dS_cL_law_11 0 46 = true ∧ ck1L dS_cL_law_11 1 42 = true ∧ ck1L dS_cL_law_11 2 29 = true ∧ ck1L dS_cL_law_11 3 6 = true ∧ ck1L dS_cL_law_11 4 96 = true ∧ ck1L dS_cL_law_11 5 46 = true := by decide +kernel
theorem dL_law_702 : decode cL_law 702 = .ok (.iconst 2, 1) := dk_5 (ck1_s (r := 62) dT_cL_law_10 rfl dg_cL_law_73.1)
theorem dL_law_703 : decode cL_law 703 = .ok (.iadd, 1) := dk_96 (ck1_s (r := 63) dT_cL_law_10 rfl dg_cL_law_73.2.1)
theorem dL_law_704 : decode cL_law 704 = .ok (.iaload, 1) := dk_46 (ck1_s (r := 0) dT_cL_law_11 rfl dg_cL_law_73.2.2.1)
theorem dL_law_705 : decode cL_law 705 = .ok (.aload_n 0, 1) := dk_42 (ck1_s (r := 1) dT_cL_law_11 rfl dg_cL_law_73.2.2.2.1)
theorem dL_law_706 : decode cL_law 706 = .ok (.iload_n 3, 1) := dk_29 (ck1_s (r := 2) dT_cL_law_11 rfl dg_cL_law_73.2.2.2.2.1)
theorem dL_law_707 : decode cL_law 707 = .ok (.iconst 3, 1) := dk_6 (ck1_s (r := 3) dT_cL_law_11 rfl dg_cL_law_73.2.2.2.2.2.1)
theorem dL_law_708 : decode cL_law 708 = .ok (.iadd, 1) := dk_96 (ck1_s (r := 4) dT_cL_law_11 rfl dg_cL_law_73.2.2.2.2.2.2.1)
theorem dL_law_709 : decode cL_law 709 = .ok (.iaload, 1) := dk_46 (ck1_s (r := 5) dT_cL_law_11 rfl dg_cL_law_73.2.2.2.2.2.2.2)
theorem dg_cL_law_74 : ck3L dS_cL_law_11 6 182 86 = true ∧ ck1L dS_cL_law_11 9 87 = true ∧ ck3sL dS_cL_law_11 10 167 699 = true ∧ ck1L dS_cL_law_11 13 43 = true ∧ ck1L dS_cL_law_11 14 42 = true ∧ ck1L dS_cL_law_11 15 29 = true ∧ ck1L dS_cL_law_11 16 4 = true ∧ ck1L dS_cL_law_11 17 96 = true := by decide +kernel
theorem dL_law_710 : decode cL_law 710 = .ok (.invokevirtual 86, 3) := dk_182 (ck3_s (r := 6) dT_cL_law_11 rfl dg_cL_law_74.1)
theorem dL_law_713 : decode cL_law 713 = .ok (.pop, 1) := dk_87 (ck1_s (r := 9) dT_cL_law_11 rfl dg_cL_law_74.2.1)
theorem dL_law_714 : decode cL_law 714 = .ok (.goto 699, 3) := dk_167 (ck3s_s (r := 10) dT_cL_law_11 rfl dg_cL_law_74.2.2.1)
theorem dL_law_717 : decode cL_law 717 = .ok (.aload_n 1, 1) := dk_43 (ck1_s (r := 13) dT_cL_law_11 rfl dg_cL_law_74.2.2.2.1)
theorem dL_law_718 : decode cL_law 718 = .ok (.aload_n 0, 1) := dk_42 (ck1_s (r := 14) dT_cL_law_11 rfl dg_cL_law_74.2.2.2.2.1)
theorem dL_law_719 : decode cL_law 719 = .ok (.iload_n 3, 1) := dk_29 (ck1_s (r := 15) dT_cL_law_11 rfl dg_cL_law_74.2.2.2.2.2.1)
theorem dL_law_720 : decode cL_law 720 = .ok (.iconst 1, 1) := dk_4 (ck1_s (r := 16) dT_cL_law_11 rfl dg_cL_law_74.2.2.2.2.2.2.1)
theorem dL_law_721 : decode cL_law 721 = .ok (.iadd, 1) := dk_96 (ck1_s (r := 17) dT_cL_law_11 rfl dg_cL_law_74.2.2.2.2.2.2.2)
theorem dg_cL_law_75 : ck1L dS_cL_law_11 18 46 = true ∧ ck3L dS_cL_law_11 19 182 87 = true ∧ ck1L dS_cL_law_11 22 87 = true ∧ ck1L dS_cL_law_11 23 44 = true ∧ ck1L dS_cL_law_11 24 42 = true ∧ ck1L dS_cL_law_11 25 29 = true ∧ ck1L dS_cL_law_11 26 4 = true ∧ ck1L dS_cL_law_11 27 96 = true := by decide +kernel
theorem dL_law_722 : decode cL_law 722 = .ok (.iaload, 1) := dk_46 (ck1_s (r := 18) dT_cL_law_11 rfl dg_cL_law_75.1)
theorem dL_law_723 : decode cL_law 723 = .ok (.invokevirtual 87, 3) := dk_182 (ck3_s (r := 19) dT_cL_law_11 rfl dg_cL_law_75.2.1)
theorem dL_law_726 : decode cL_law 726 = .ok (.pop, 1) := dk_87 (ck1_s (r := 22) dT_cL_law_11 rfl dg_cL_law_75.2.2.1)
theorem dL_law_727 : decode cL_law 727 = .ok (.aload_n 2, 1) := dk_44 (ck1_s (r := 23) dT_cL_law_11 rfl dg_cL_law_75.2.2.2.1)
theorem dL_law_728 : decode cL_law 728 = .ok (.aload_n 0, 1) := dk_42 (ck1_s (r := 24) dT_cL_law_11 rfl dg_cL_law_75.2.2.2.2.1)
theorem dL_law_729 : decode cL_law 729 = .ok (.iload_n 3, 1) := dk_29 (ck1_s (r := 25) dT_cL_law_11 rfl dg_cL_law_75.2.2.2.2.2.1)
theorem dL_law_730 : decode cL_law 730 = .ok (.iconst 1, 1) := dk_4 (ck1_s (r := 26) dT_cL_law_11 rfl dg_cL_law_75.2.2.2.2.2.2.1)
theorem dL_law_731 : decode cL_law 731 = .ok (.iadd, 1) := dk_96 (ck1_s (r := 27) dT_cL_law_11 rfl dg_cL_law_75.2.2.2.2.2.2.2)
theorem dg_cL_law_76 : ck1L dS_cL_law_11 28 46 = true ∧ ck3L dS_cL_law_11 29 182 90 = true ∧ ck1L dS_cL_law_11 32 87 = true ∧ ck3sL dS_cL_law_11 33 167 676 = true ∧ ck1L dS_cL_law_11 36 43 = true ∧ ck3L dS_cL_law_11 37 182 91 = true ∧ ck1L dS_cL_law_11 40 87 = true ∧ ck1L dS_cL_law_11 41 44 = true := by decide +kernel
theorem dL_law_732 : decode cL_law 732 = .ok (.iaload, 1) := dk_46 (ck1_s (r := 28) dT_cL_law_11 rfl dg_cL_law_76.1)
theorem dL_law_733 : decode cL_law 733 = .ok (.invokevirtual 90, 3) := dk_182 (ck3_s (r := 29) dT_cL_law_11 rfl dg_cL_law_76.2.1)
theorem dL_law_736 : decode cL_law 736 = .ok (.pop, 1) := dk_87 (ck1_s (r := 32) dT_cL_law_11 rfl dg_cL_law_76.2.2.1)
theorem dL_law_737 : decode cL_law 737 = .ok (.goto 676, 3) := dk_167 (ck3s_s (r := 33) dT_cL_law_11 rfl dg_cL_law_76.2.2.2.1)
theorem dL_law_740 : decode cL_law 740 = .ok (.aload_n 1, 1) := dk_43 (ck1_s (r := 36) dT_cL_law_11 rfl dg_cL_law_76.2.2.2.2.1)
theorem dL_law_741 : decode cL_law 741 = .ok (.invokevirtual 91, 3) := dk_182 (ck3_s (r := 37) dT_cL_law_11 rfl dg_cL_law_76.2.2.2.2.2.1)
theorem dL_law_744 : decode cL_law 744 = .ok (.pop, 1) := dk_87 (ck1_s (r := 40) dT_cL_law_11 rfl dg_cL_law_76.2.2.2.2.2.2.1)
theorem dL_law_745 : decode cL_law 745 = .ok (.aload_n 2, 1) := dk_44 (ck1_s (r := 41) dT_cL_law_11 rfl dg_cL_law_76.2.2.2.2.2.2.2)
theorem dg_cL_law_77 : ck3L dS_cL_law_11 42 182 94 = true ∧ ck1L dS_cL_law_11 45 87 = true ∧ ck3sL dS_cL_law_11 46 167 663 = true ∧ ck1L dS_cL_law_11 49 43 = true ∧ ck1L dS_cL_law_11 50 42 = true ∧ ck1L dS_cL_law_11 51 29 = true ∧ ck1L dS_cL_law_11 52 4 = true ∧ ck1L dS_cL_law_11 53 96 = true := by decide +kernel
theorem dL_law_746 : decode cL_law 746 = .ok (.invokevirtual 94, 3) := dk_182 (ck3_s (r := 42) dT_cL_law_11 rfl dg_cL_law_77.1)
theorem dL_law_749 : decode cL_law 749 = .ok (.pop, 1) := dk_87 (ck1_s (r := 45) dT_cL_law_11 rfl dg_cL_law_77.2.1)
theorem dL_law_750 : decode cL_law 750 = .ok (.goto 663, 3) := dk_167 (ck3s_s (r := 46) dT_cL_law_11 rfl dg_cL_law_77.2.2.1)
theorem dL_law_753 : decode cL_law 753 = .ok (.aload_n 1, 1) := dk_43 (ck1_s (r := 49) dT_cL_law_11 rfl dg_cL_law_77.2.2.2.1)
theorem dL_law_754 : decode cL_law 754 = .ok (.aload_n 0, 1) := dk_42 (ck1_s (r := 50) dT_cL_law_11 rfl dg_cL_law_77.2.2.2.2.1)
theorem dL_law_755 : decode cL_law 755 = .ok (.iload_n 3, 1) := dk_29 (ck1_s (r := 51) dT_cL_law_11 rfl dg_cL_law_77.2.2.2.2.2.1)
theorem dL_law_756 : decode cL_law 756 = .ok (.iconst 1, 1) := dk_4 (ck1_s (r := 52) dT_cL_law_11 rfl dg_cL_law_77.2.2.2.2.2.2.1)
theorem dL_law_757 : decode cL_law 757 = .ok (.iadd, 1) := dk_96 (ck1_s (r := 53) dT_cL_law_11 rfl dg_cL_law_77.2.2.2.2.2.2.2)
theorem dg_cL_law_78 : ck1L dS_cL_law_11 54 46 = true ∧ ck3L dS_cL_law_11 55 182 95 = true ∧ ck1L dS_cL_law_11 58 87 = true ∧ ck1L dS_cL_law_11 59 44 = true ∧ ck1L dS_cL_law_11 60 42 = true ∧ ck1L dS_cL_law_11 61 29 = true ∧ ck1L dS_cL_law_11 62 4 = true ∧ ck1L dS_cL_law_11 63 96 = true := by decide +kernel
theorem dL_law_758 : decode cL_law 758 = .ok (.iaload, 1) := dk_46 (ck1_s (r := 54) dT_cL_law_11 rfl dg_cL_law_78.1)
theorem dL_law_759 : decode cL_law 759 = .ok (.invokevirtual 95, 3) := dk_182 (ck3_s (r := 55) dT_cL_law_11 rfl dg_cL_law_78.2.1)
theorem dL_law_762 : decode cL_law 762 = .ok (.pop, 1) := dk_87 (ck1_s (r := 58) dT_cL_law_11 rfl dg_cL_law_78.2.2.1)
theorem dL_law_763 : decode cL_law 763 = .ok (.aload_n 2, 1) := dk_44 (ck1_s (r := 59) dT_cL_law_11 rfl dg_cL_law_78.2.2.2.1)
theorem dL_law_764 : decode cL_law 764 = .ok (.aload_n 0, 1) := dk_42 (ck1_s (r := 60) dT_cL_law_11 rfl dg_cL_law_78.2.2.2.2.1)
theorem dL_law_765 : decode cL_law 765 = .ok (.iload_n 3, 1) := dk_29 (ck1_s (r := 61) dT_cL_law_11 rfl dg_cL_law_78.2.2.2.2.2.1)
theorem dL_law_766 : decode cL_law 766 = .ok (.iconst 1, 1) := dk_4 (ck1_s (r := 62) dT_cL_law_11 rfl dg_cL_law_78.2.2.2.2.2.2.1)
theorem dL_law_767 : decode cL_law 767 = .ok (.iadd, 1) := dk_96 (ck1_s (r := 63) dT_cL_law_11 rfl dg_cL_law_78.2.2.2.2.2.2.2)
theorem dg_cL_law_79 : ck1L dS_cL_law_12 0 46 = true ∧ ck3L dS_cL_law_12 1 182 98 = true ∧ ck1L dS_cL_law_12 4 87 = true ∧ ck3sL dS_cL_law_12 5 167 640 = true ∧ ck1L dS_cL_law_12 8 43 = true ∧ ck1L dS_cL_law_12 9 42 = true ∧ ck1L dS_cL_law_12 10 29 = true ∧ ck1L dS_cL_law_12 11 4 = true := by decide +kernel
theorem dL_law_768 : decode cL_law 768 = .ok (.iaload, 1) := dk_46 (ck1_s (r := 0) dT_cL_law_12 rfl dg_cL_law_79.1)
theorem dL_law_769 : decode cL_law 769 = .ok (.invokevirtual 98, 3) := dk_182 (ck3_s (r := 1) dT_cL_law_12 rfl dg_cL_law_79.2.1)
theorem dL_law_772 : decode cL_law 772 = .ok (.pop, 1) := dk_87 (ck1_s (r := 4) dT_cL_law_12 rfl dg_cL_law_79.2.2.1)
theorem dL_law_773 : decode cL_law 773 = .ok (.goto 640, 3) := dk_167 (ck3s_s (r := 5) dT_cL_law_12 rfl dg_cL_law_79.2.2.2.1)
theorem dL_law_776 : decode cL_law 776 = .ok (.aload_n 1, 1) := dk_43 (ck1_s (r := 8) dT_cL_law_12 rfl dg_cL_law_79.2.2.2.2.1)
theorem dL_law_777 : decode cL_law 777 = .ok (.aload_n 0, 1) := dk_42 (ck1_s (r := 9) dT_cL_law_12 rfl dg_cL_law_79.2.2.2.2.2.1)
theorem dL_law_778 : decode cL_law 778 = .ok (.iload_n 3, 1) := dk_29 (ck1_s (r := 10) dT_cL_law_12 rfl dg_cL_law_79.2.2.2.2.2.2.1)
theorem dL_law_779 : decode cL_law 779 = .ok (.iconst 1, 1) := dk_4 (ck1_s (r := 11) dT_cL_law_12 rfl dg_cL_law_79.2.2.2.2.2.2.2)
theorem dg_cL_law_80 : ck1L dS_cL_law_12 12 96 = true ∧ ck1L dS_cL_law_12 13 46 = true ∧ ck1L dS_cL_law_12 14 42 = true ∧ ck1L dS_cL_law_12 15 29 = true ∧ ck1L dS_cL_law_12 16 5 = true ∧ ck1L dS_cL_law_12 17 96 = true ∧ ck1L dS_cL_law_12 18 46 = true ∧ ck1L dS_cL_law_12 19 42 = true := by decide +kernel
theorem dL_law_780 : decode cL_law 780 = .ok (.iadd, 1) := dk_96 (ck1_s (r := 12) dT_cL_law_12 rfl dg_cL_law_80.1)
theorem dL_law_781 : decode cL_law 781 = .ok (.iaload, 1) := dk_46 (ck1_s (r := 13) dT_cL_law_12 rfl dg_cL_law_80.2.1)
theorem dL_law_782 : decode cL_law 782 = .ok (.aload_n 0, 1) := dk_42 (ck1_s (r := 14) dT_cL_law_12 rfl dg_cL_law_80.2.2.1)
theorem dL_law_783 : decode cL_law 783 = .ok (.iload_n 3, 1) := dk_29 (ck1_s (r := 15) dT_cL_law_12 rfl dg_cL_law_80.2.2.2.1)
theorem dL_law_784 : decode cL_law 784 = .ok (.iconst 2, 1) := dk_5 (ck1_s (r := 16) dT_cL_law_12 rfl dg_cL_law_80.2.2.2.2.1)
theorem dL_law_785 : decode cL_law 785 = .ok (.iadd, 1) := dk_96 (ck1_s (r := 17) dT_cL_law_12 rfl dg_cL_law_80.2.2.2.2.2.1)
theorem dL_law_786 : decode cL_law 786 = .ok (.iaload, 1) := dk_46 (ck1_s (r := 18) dT_cL_law_12 rfl dg_cL_law_80.2.2.2.2.2.2.1)
theorem dL_law_787 : decode cL_law 787 = .ok (.aload_n 0, 1) := dk_42 (ck1_s (r := 19) dT_cL_law_12 rfl dg_cL_law_80.2.2.2.2.2.2.2)
theorem dg_cL_law_81 : ck1L dS_cL_law_12 20 29 = true ∧ ck1L dS_cL_law_12 21 6 = true ∧ ck1L dS_cL_law_12 22 96 = true ∧ ck1L dS_cL_law_12 23 46 = true ∧ ck3L dS_cL_law_12 24 182 99 = true ∧ ck1L dS_cL_law_12 27 87 = true ∧ ck1L dS_cL_law_12 28 44 = true ∧ ck1L dS_cL_law_12 29 42 = true := by decide +kernel
theorem dL_law_788 : decode cL_law 788 = .ok (.iload_n 3, 1) := dk_29 (ck1_s (r := 20) dT_cL_law_12 rfl dg_cL_law_81.1)
theorem dL_law_789 : decode cL_law 789 = .ok (.iconst 3, 1) := dk_6 (ck1_s (r := 21) dT_cL_law_12 rfl dg_cL_law_81.2.1)
theorem dL_law_790 : decode cL_law 790 = .ok (.iadd, 1) := dk_96 (ck1_s (r := 22) dT_cL_law_12 rfl dg_cL_law_81.2.2.1)
theorem dL_law_791 : decode cL_law 791 = .ok (.iaload, 1) := dk_46 (ck1_s (r := 23) dT_cL_law_12 rfl dg_cL_law_81.2.2.2.1)
theorem dL_law_792 : decode cL_law 792 = .ok (.invokevirtual 99, 3) := dk_182 (ck3_s (r := 24) dT_cL_law_12 rfl dg_cL_law_81.2.2.2.2.1)
theorem dL_law_795 : decode cL_law 795 = .ok (.pop, 1) := dk_87 (ck1_s (r := 27) dT_cL_law_12 rfl dg_cL_law_81.2.2.2.2.2.1)
theorem dL_law_796 : decode cL_law 796 = .ok (.aload_n 2, 1) := dk_44 (ck1_s (r := 28) dT_cL_law_12 rfl dg_cL_law_81.2.2.2.2.2.2.1)
theorem dL_law_797 : decode cL_law 797 = .ok (.aload_n 0, 1) := dk_42 (ck1_s (r := 29) dT_cL_law_12 rfl dg_cL_law_81.2.2.2.2.2.2.2)
theorem dg_cL_law_82 : ck1L dS_cL_law_12 30 29 = true ∧ ck1L dS_cL_law_12 31 4 = true ∧ ck1L dS_cL_law_12 32 96 = true ∧ ck1L dS_cL_law_12 33 46 = true ∧ ck1L dS_cL_law_12 34 42 = true ∧ ck1L dS_cL_law_12 35 29 = true ∧ ck1L dS_cL_law_12 36 5 = true ∧ ck1L dS_cL_law_12 37 96 = true := by decide +kernel
theorem dL_law_798 : decode cL_law 798 = .ok (.iload_n 3, 1) := dk_29 (ck1_s (r := 30) dT_cL_law_12 rfl dg_cL_law_82.1)
theorem dL_law_799 : decode cL_law 799 = .ok (.iconst 1, 1) := dk_4 (ck1_s (r := 31) dT_cL_law_12 rfl dg_cL_law_82.2.1)
theorem dL_law_800 : decode cL_law 800 = .ok (.iadd, 1) := dk_96 (ck1_s (r := 32) dT_cL_law_12 rfl dg_cL_law_82.2.2.1)
theorem dL_law_801 : decode cL_law 801 = .ok (.iaload, 1) := dk_46 (ck1_s (r := 33) dT_cL_law_12 rfl dg_cL_law_82.2.2.2.1)
theorem dL_law_802 : decode cL_law 802 = .ok (.aload_n 0, 1) := dk_42 (ck1_s (r := 34) dT_cL_law_12 rfl dg_cL_law_82.2.2.2.2.1)
theorem dL_law_803 : decode cL_law 803 = .ok (.iload_n 3, 1) := dk_29 (ck1_s (r := 35) dT_cL_law_12 rfl dg_cL_law_82.2.2.2.2.2.1)
theorem dL_law_804 : decode cL_law 804 = .ok (.iconst 2, 1) := dk_5 (ck1_s (r := 36) dT_cL_law_12 rfl dg_cL_law_82.2.2.2.2.2.2.1)
theorem dL_law_805 : decode cL_law 805 = .ok (.iadd, 1) := dk_96 (ck1_s (r := 37) dT_cL_law_12 rfl dg_cL_law_82.2.2.2.2.2.2.2)
theorem dg_cL_law_83 : ck1L dS_cL_law_12 38 46 = true ∧ ck1L dS_cL_law_12 39 42 = true ∧ ck1L dS_cL_law_12 40 29 = true ∧ ck1L dS_cL_law_12 41 6 = true ∧ ck1L dS_cL_law_12 42 96 = true ∧ ck1L dS_cL_law_12 43 46 = true ∧ ck3L dS_cL_law_12 44 182 102 = true ∧ ck1L dS_cL_law_12 47 87 = true := by decide +kernel
theorem dL_law_806 : decode cL_law 806 = .ok (.iaload, 1) := dk_46 (ck1_s (r := 38) dT_cL_law_12 rfl dg_cL_law_83.1)
theorem dL_law_807 : decode cL_law 807 = .ok (.aload_n 0, 1) := dk_42 (ck1_s (r := 39) dT_cL_law_12 rfl dg_cL_law_83.2.1)
theorem dL_law_808 : decode cL_law 808 = .ok (.iload_n 3, 1) := dk_29 (ck1_s (r := 40) dT_cL_law_12 rfl dg_cL_law_83.2.2.1)
theorem dL_law_809 : decode cL_law 809 = .ok (.iconst 3, 1) := dk_6 (ck1_s (r := 41) dT_cL_law_12 rfl dg_cL_law_83.2.2.2.1)
theorem dL_law_810 : decode cL_law 810 = .ok (.iadd, 1) := dk_96 (ck1_s (r := 42) dT_cL_law_12 rfl dg_cL_law_83.2.2.2.2.1)
theorem dL_law_811 : decode cL_law 811 = .ok (.iaload, 1) := dk_46 (ck1_s (r := 43) dT_cL_law_12 rfl dg_cL_law_83.2.2.2.2.2.1)
theorem dL_law_812 : decode cL_law 812 = .ok (.invokevirtual 102, 3) := dk_182 (ck3_s (r := 44) dT_cL_law_12 rfl dg_cL_law_83.2.2.2.2.2.2.1)
theorem dL_law_815 : decode cL_law 815 = .ok (.pop, 1) := dk_87 (ck1_s (r := 47) dT_cL_law_12 rfl dg_cL_law_83.2.2.2.2.2.2.2)
theorem dg_cL_law_84 : ck3sL dS_cL_law_12 48 167 597 = true ∧ ck1L dS_cL_law_12 51 43 = true ∧ ck1L dS_cL_law_12 52 42 = true ∧ ck1L dS_cL_law_12 53 29 = true ∧ ck1L dS_cL_law_12 54 4 = true ∧ ck1L dS_cL_law_12 55 96 = true ∧ ck1L dS_cL_law_12 56 46 = true ∧ ck3L dS_cL_law_12 57 182 103 = true := by decide +kernel
theorem dL_law_816 : decode cL_law 816 = .ok (.goto 597, 3) := dk_167 (ck3s_s (r := 48) dT_cL_law_12 rfl dg_cL_law_84.1)
theorem dL_law_819 : decode cL_law 819 = .ok (.aload_n 1, 1) := dk_43 (ck1_s (r := 51) dT_cL_law_12 rfl dg_cL_law_84.2.1)
theorem dL_law_820 : decode cL_law 820 = .ok (.aload_n 0, 1) := dk_42 (ck1_s (r := 52) dT_cL_law_12 rfl dg_cL_law_84.2.2.1)
theorem dL_law_821 : decode cL_law 821 = .ok (.iload_n 3, 1) := dk_29 (ck1_s (r := 53) dT_cL_law_12 rfl dg_cL_law_84.2.2.2.1)
theorem dL_law_822 : decode cL_law 822 = .ok (.iconst 1, 1) := dk_4 (ck1_s (r := 54) dT_cL_law_12 rfl dg_cL_law_84.2.2.2.2.1)
theorem dL_law_823 : decode cL_law 823 = .ok (.iadd, 1) := dk_96 (ck1_s (r := 55) dT_cL_law_12 rfl dg_cL_law_84.2.2.2.2.2.1)
theorem dL_law_824 : decode cL_law 824 = .ok (.iaload, 1) := dk_46 (ck1_s (r := 56) dT_cL_law_12 rfl dg_cL_law_84.2.2.2.2.2.2.1)
theorem dL_law_825 : decode cL_law 825 = .ok (.invokevirtual 103, 3) := dk_182 (ck3_s (r := 57) dT_cL_law_12 rfl dg_cL_law_84.2.2.2.2.2.2.2)
theorem dg_cL_law_85 : ck1L dS_cL_law_12 60 87 = true ∧ ck1L dS_cL_law_12 61 44 = true ∧ ck1L dS_cL_law_12 62 42 = true ∧ ck1L dS_cL_law_12 63 29 = true ∧ ck1L dS_cL_law_13 0 4 = true ∧ ck1L dS_cL_law_13 1 96 = true ∧ ck1L dS_cL_law_13 2 46 = true ∧ ck3L dS_cL_law_13 3 182 106 = true := by decide +kernel
theorem dL_law_828 : decode cL_law 828 = .ok (.pop, 1) := dk_87 (ck1_s (r := 60) dT_cL_law_12 rfl dg_cL_law_85.1)
theorem dL_law_829 : decode cL_law 829 = .ok (.aload_n 2, 1) := dk_44 (ck1_s (r := 61) dT_cL_law_12 rfl dg_cL_law_85.2.1)
theorem dL_law_830 : decode cL_law 830 = .ok (.aload_n 0, 1) := dk_42 (ck1_s (r := 62) dT_cL_law_12 rfl dg_cL_law_85.2.2.1)
theorem dL_law_831 : decode cL_law 831 = .ok (.iload_n 3, 1) := dk_29 (ck1_s (r := 63) dT_cL_law_12 rfl dg_cL_law_85.2.2.2.1)
theorem dL_law_832 : decode cL_law 832 = .ok (.iconst 1, 1) := dk_4 (ck1_s (r := 0) dT_cL_law_13 rfl dg_cL_law_85.2.2.2.2.1)
theorem dL_law_833 : decode cL_law 833 = .ok (.iadd, 1) := dk_96 (ck1_s (r := 1) dT_cL_law_13 rfl dg_cL_law_85.2.2.2.2.2.1)
theorem dL_law_834 : decode cL_law 834 = .ok (.iaload, 1) := dk_46 (ck1_s (r := 2) dT_cL_law_13 rfl dg_cL_law_85.2.2.2.2.2.2.1)
theorem dL_law_835 : decode cL_law 835 = .ok (.invokevirtual 106, 3) := dk_182 (ck3_s (r := 3) dT_cL_law_13 rfl dg_cL_law_85.2.2.2.2.2.2.2)
theorem dg_cL_law_86 : ck1L dS_cL_law_13 6 87 = true ∧ ck3sL dS_cL_law_13 7 167 574 = true ∧ ck1L dS_cL_law_13 10 43 = true ∧ ck1L dS_cL_law_13 11 42 = true ∧ ck1L dS_cL_law_13 12 29 = true ∧ ck1L dS_cL_law_13 13 4 = true ∧ ck1L dS_cL_law_13 14 96 = true ∧ ck1L dS_cL_law_13 15 46 = true := by decide +kernel
theorem dL_law_838 : decode cL_law 838 = .ok (.pop, 1) := dk_87 (ck1_s (r := 6) dT_cL_law_13 rfl dg_cL_law_86.1)
theorem dL_law_839 : decode cL_law 839 = .ok (.goto 574, 3) := dk_167 (ck3s_s (r := 7) dT_cL_law_13 rfl dg_cL_law_86.2.1)
theorem dL_law_842 : decode cL_law 842 = .ok (.aload_n 1, 1) := dk_43 (ck1_s (r := 10) dT_cL_law_13 rfl dg_cL_law_86.2.2.1)
theorem dL_law_843 : decode cL_law 843 = .ok (.aload_n 0, 1) := dk_42 (ck1_s (r := 11) dT_cL_law_13 rfl dg_cL_law_86.2.2.2.1)
theorem dL_law_844 : decode cL_law 844 = .ok (.iload_n 3, 1) := dk_29 (ck1_s (r := 12) dT_cL_law_13 rfl dg_cL_law_86.2.2.2.2.1)
theorem dL_law_845 : decode cL_law 845 = .ok (.iconst 1, 1) := dk_4 (ck1_s (r := 13) dT_cL_law_13 rfl dg_cL_law_86.2.2.2.2.2.1)
theorem dL_law_846 : decode cL_law 846 = .ok (.iadd, 1) := dk_96 (ck1_s (r := 14) dT_cL_law_13 rfl dg_cL_law_86.2.2.2.2.2.2.1)
theorem dL_law_847 : decode cL_law 847 = .ok (.iaload, 1) := dk_46 (ck1_s (r := 15) dT_cL_law_13 rfl dg_cL_law_86.2.2.2.2.2.2.2)
theorem dg_cL_law_87 : ck3L dS_cL_law_13 16 182 107 = true ∧ ck1L dS_cL_law_13 19 87 = true ∧ ck1L dS_cL_law_13 20 44 = true ∧ ck1L dS_cL_law_13 21 42 = true ∧ ck1L dS_cL_law_13 22 29 = true ∧ ck1L dS_cL_law_13 23 4 = true ∧ ck1L dS_cL_law_13 24 96 = true ∧ ck1L dS_cL_law_13 25 46 = true := by decide +kernel
theorem dL_law_848 : decode cL_law 848 = .ok (.invokevirtual 107, 3) := dk_182 (ck3_s (r := 16) dT_cL_law_13 rfl dg_cL_law_87.1)
theorem dL_law_851 : decode cL_law 851 = .ok (.pop, 1) := dk_87 (ck1_s (r := 19) dT_cL_law_13 rfl dg_cL_law_87.2.1)
theorem dL_law_852 : decode cL_law 852 = .ok (.aload_n 2, 1) := dk_44 (ck1_s (r := 20) dT_cL_law_13 rfl dg_cL_law_87.2.2.1)
theorem dL_law_853 : decode cL_law 853 = .ok (.aload_n 0, 1) := dk_42 (ck1_s (r := 21) dT_cL_law_13 rfl dg_cL_law_87.2.2.2.1)
theorem dL_law_854 : decode cL_law 854 = .ok (.iload_n 3, 1) := dk_29 (ck1_s (r := 22) dT_cL_law_13 rfl dg_cL_law_87.2.2.2.2.1)
theorem dL_law_855 : decode cL_law 855 = .ok (.iconst 1, 1) := dk_4 (ck1_s (r := 23) dT_cL_law_13 rfl dg_cL_law_87.2.2.2.2.2.1)
theorem dL_law_856 : decode cL_law 856 = .ok (.iadd, 1) := dk_96 (ck1_s (r := 24) dT_cL_law_13 rfl dg_cL_law_87.2.2.2.2.2.2.1)
theorem dL_law_857 : decode cL_law 857 = .ok (.iaload, 1) := dk_46 (ck1_s (r := 25) dT_cL_law_13 rfl dg_cL_law_87.2.2.2.2.2.2.2)
theorem dg_cL_law_88 : ck3L dS_cL_law_13 26 182 110 = true ∧ ck1L dS_cL_law_13 29 87 = true ∧ ck3sL dS_cL_law_13 30 167 551 = true ∧ ck1L dS_cL_law_13 33 43 = true ∧ ck1L dS_cL_law_13 34 42 = true ∧ ck1L dS_cL_law_13 35 29 = true ∧ ck1L dS_cL_law_13 36 4 = true ∧ ck1L dS_cL_law_13 37 96 = true := by decide +kernel
theorem dL_law_858 : decode cL_law 858 = .ok (.invokevirtual 110, 3) := dk_182 (ck3_s (r := 26) dT_cL_law_13 rfl dg_cL_law_88.1)
theorem dL_law_861 : decode cL_law 861 = .ok (.pop, 1) := dk_87 (ck1_s (r := 29) dT_cL_law_13 rfl dg_cL_law_88.2.1)
theorem dL_law_862 : decode cL_law 862 = .ok (.goto 551, 3) := dk_167 (ck3s_s (r := 30) dT_cL_law_13 rfl dg_cL_law_88.2.2.1)
theorem dL_law_865 : decode cL_law 865 = .ok (.aload_n 1, 1) := dk_43 (ck1_s (r := 33) dT_cL_law_13 rfl dg_cL_law_88.2.2.2.1)
theorem dL_law_866 : decode cL_law 866 = .ok (.aload_n 0, 1) := dk_42 (ck1_s (r := 34) dT_cL_law_13 rfl dg_cL_law_88.2.2.2.2.1)
theorem dL_law_867 : decode cL_law 867 = .ok (.iload_n 3, 1) := dk_29 (ck1_s (r := 35) dT_cL_law_13 rfl dg_cL_law_88.2.2.2.2.2.1)
theorem dL_law_868 : decode cL_law 868 = .ok (.iconst 1, 1) := dk_4 (ck1_s (r := 36) dT_cL_law_13 rfl dg_cL_law_88.2.2.2.2.2.2.1)
theorem dL_law_869 : decode cL_law 869 = .ok (.iadd, 1) := dk_96 (ck1_s (r := 37) dT_cL_law_13 rfl dg_cL_law_88.2.2.2.2.2.2.2)
theorem dg_cL_law_89 : ck1L dS_cL_law_13 38 46 = true ∧ ck1L dS_cL_law_13 39 42 = true ∧ ck1L dS_cL_law_13 40 29 = true ∧ ck1L dS_cL_law_13 41 5 = true ∧ ck1L dS_cL_law_13 42 96 = true ∧ ck1L dS_cL_law_13 43 46 = true ∧ ck3L dS_cL_law_13 44 182 111 = true ∧ ck1L dS_cL_law_13 47 87 = true := by decide +kernel
theorem dL_law_870 : decode cL_law 870 = .ok (.iaload, 1) := dk_46 (ck1_s (r := 38) dT_cL_law_13 rfl dg_cL_law_89.1)
theorem dL_law_871 : decode cL_law 871 = .ok (.aload_n 0, 1) := dk_42 (ck1_s (r := 39) dT_cL_law_13 rfl dg_cL_law_89.2.1)
theorem dL_law_872 : decode cL_law 872 = .ok (.iload_n 3, 1) := dk_29 (ck1_s (r := 40) dT_cL_law_13 rfl dg_cL_law_89.2.2.1)
theorem dL_law_873 : decode cL_law 873 = .ok (.iconst 2, 1) := dk_5 (ck1_s (r := 41) dT_cL_law_13 rfl dg_cL_law_89.2.2.2.1)
theorem dL_law_874 : decode cL_law 874 = .ok (.iadd, 1) := dk_96 (ck1_s (r := 42) dT_cL_law_13 rfl dg_cL_law_89.2.2.2.2.1)
theorem dL_law_875 : decode cL_law 875 = .ok (.iaload, 1) := dk_46 (ck1_s (r := 43) dT_cL_law_13 rfl dg_cL_law_89.2.2.2.2.2.1)
theorem dL_law_876 : decode cL_law 876 = .ok (.invokevirtual 111, 3) := dk_182 (ck3_s (r := 44) dT_cL_law_13 rfl dg_cL_law_89.2.2.2.2.2.2.1)
theorem dL_law_879 : decode cL_law 879 = .ok (.pop, 1) := dk_87 (ck1_s (r := 47) dT_cL_law_13 rfl dg_cL_law_89.2.2.2.2.2.2.2)
theorem dg_cL_law_90 : ck1L dS_cL_law_13 48 44 = true ∧ ck1L dS_cL_law_13 49 42 = true ∧ ck1L dS_cL_law_13 50 29 = true ∧ ck1L dS_cL_law_13 51 4 = true ∧ ck1L dS_cL_law_13 52 96 = true ∧ ck1L dS_cL_law_13 53 46 = true ∧ ck1L dS_cL_law_13 54 42 = true ∧ ck1L dS_cL_law_13 55 29 = true := by decide +kernel
theorem dL_law_880 : decode cL_law 880 = .ok (.aload_n 2, 1) := dk_44 (ck1_s (r := 48) dT_cL_law_13 rfl dg_cL_law_90.1)
theorem dL_law_881 : decode cL_law 881 = .ok (.aload_n 0, 1) := dk_42 (ck1_s (r := 49) dT_cL_law_13 rfl dg_cL_law_90.2.1)
theorem dL_law_882 : decode cL_law 882 = .ok (.iload_n 3, 1) := dk_29 (ck1_s (r := 50) dT_cL_law_13 rfl dg_cL_law_90.2.2.1)
theorem dL_law_883 : decode cL_law 883 = .ok (.iconst 1, 1) := dk_4 (ck1_s (r := 51) dT_cL_law_13 rfl dg_cL_law_90.2.2.2.1)
theorem dL_law_884 : decode cL_law 884 = .ok (.iadd, 1) := dk_96 (ck1_s (r := 52) dT_cL_law_13 rfl dg_cL_law_90.2.2.2.2.1)
theorem dL_law_885 : decode cL_law 885 = .ok (.iaload, 1) := dk_46 (ck1_s (r := 53) dT_cL_law_13 rfl dg_cL_law_90.2.2.2.2.2.1)
theorem dL_law_886 : decode cL_law 886 = .ok (.aload_n 0, 1) := dk_42 (ck1_s (r := 54) dT_cL_law_13 rfl dg_cL_law_90.2.2.2.2.2.2.1)
theorem dL_law_887 : decode cL_law 887 = .ok (.iload_n 3, 1) := dk_29 (ck1_s (r := 55) dT_cL_law_13 rfl dg_cL_law_90.2.2.2.2.2.2.2)
theorem dg_cL_law_91 : ck1L dS_cL_law_13 56 5 = true ∧ ck1L dS_cL_law_13 57 96 = true ∧ ck1L dS_cL_law_13 58 46 = true ∧ ck3L dS_cL_law_13 59 182 114 = true ∧ ck1L dS_cL_law_13 62 87 = true ∧ ck3sL dS_cL_law_13 63 167 518 = true ∧ ck1L dS_cL_law_14 2 43 = true ∧ ck1L dS_cL_law_14 3 42 = true := by decide +kernel
theorem dL_law_888 : decode cL_law 888 = .ok (.iconst 2, 1) := dk_5 (ck1_s (r := 56) dT_cL_law_13 rfl dg_cL_law_91.1)
theorem dL_law_889 : decode cL_law 889 = .ok (.iadd, 1) := dk_96 (ck1_s (r := 57) dT_cL_law_13 rfl dg_cL_law_91.2.1)
theorem dL_law_890 : decode cL_law 890 = .ok (.iaload, 1) := dk_46 (ck1_s (r := 58) dT_cL_law_13 rfl dg_cL_law_91.2.2.1)
theorem dL_law_891 : decode cL_law 891 = .ok (.invokevirtual 114, 3) := dk_182 (ck3_s (r := 59) dT_cL_law_13 rfl dg_cL_law_91.2.2.2.1)
theorem dL_law_894 : decode cL_law 894 = .ok (.pop, 1) := dk_87 (ck1_s (r := 62) dT_cL_law_13 rfl dg_cL_law_91.2.2.2.2.1)
theorem dL_law_895 : decode cL_law 895 = .ok (.goto 518, 3) := dk_167 (ck3s_s (r := 63) dT_cL_law_13 rfl dg_cL_law_91.2.2.2.2.2.1)
theorem dL_law_898 : decode cL_law 898 = .ok (.aload_n 1, 1) := dk_43 (ck1_s (r := 2) dT_cL_law_14 rfl dg_cL_law_91.2.2.2.2.2.2.1)
theorem dL_law_899 : decode cL_law 899 = .ok (.aload_n 0, 1) := dk_42 (ck1_s (r := 3) dT_cL_law_14 rfl dg_cL_law_91.2.2.2.2.2.2.2)
theorem dg_cL_law_92 : ck1L dS_cL_law_14 4 29 = true ∧ ck1L dS_cL_law_14 5 4 = true ∧ ck1L dS_cL_law_14 6 96 = true ∧ ck1L dS_cL_law_14 7 46 = true ∧ ck3L dS_cL_law_14 8 182 115 = true ∧ ck1L dS_cL_law_14 11 87 = true ∧ ck1L dS_cL_law_14 12 44 = true ∧ ck1L dS_cL_law_14 13 42 = true := by decide +kernel
theorem dL_law_900 : decode cL_law 900 = .ok (.iload_n 3, 1) := dk_29 (ck1_s (r := 4) dT_cL_law_14 rfl dg_cL_law_92.1)
theorem dL_law_901 : decode cL_law 901 = .ok (.iconst 1, 1) := dk_4 (ck1_s (r := 5) dT_cL_law_14 rfl dg_cL_law_92.2.1)
theorem dL_law_902 : decode cL_law 902 = .ok (.iadd, 1) := dk_96 (ck1_s (r := 6) dT_cL_law_14 rfl dg_cL_law_92.2.2.1)
theorem dL_law_903 : decode cL_law 903 = .ok (.iaload, 1) := dk_46 (ck1_s (r := 7) dT_cL_law_14 rfl dg_cL_law_92.2.2.2.1)
theorem dL_law_904 : decode cL_law 904 = .ok (.invokevirtual 115, 3) := dk_182 (ck3_s (r := 8) dT_cL_law_14 rfl dg_cL_law_92.2.2.2.2.1)
theorem dL_law_907 : decode cL_law 907 = .ok (.pop, 1) := dk_87 (ck1_s (r := 11) dT_cL_law_14 rfl dg_cL_law_92.2.2.2.2.2.1)
theorem dL_law_908 : decode cL_law 908 = .ok (.aload_n 2, 1) := dk_44 (ck1_s (r := 12) dT_cL_law_14 rfl dg_cL_law_92.2.2.2.2.2.2.1)
theorem dL_law_909 : decode cL_law 909 = .ok (.aload_n 0, 1) := dk_42 (ck1_s (r := 13) dT_cL_law_14 rfl dg_cL_law_92.2.2.2.2.2.2.2)
theorem dg_cL_law_93 : ck1L dS_cL_law_14 14 29 = true ∧ ck1L dS_cL_law_14 15 4 = true ∧ ck1L dS_cL_law_14 16 96 = true ∧ ck1L dS_cL_law_14 17 46 = true ∧ ck3L dS_cL_law_14 18 182 118 = true ∧ ck1L dS_cL_law_14 21 87 = true ∧ ck3sL dS_cL_law_14 22 167 495 = true ∧ ck1L dS_cL_law_14 25 43 = true := by decide +kernel
theorem dL_law_910 : decode cL_law 910 = .ok (.iload_n 3, 1) := dk_29 (ck1_s (r := 14) dT_cL_law_14 rfl dg_cL_law_93.1)
theorem dL_law_911 : decode cL_law 911 = .ok (.iconst 1, 1) := dk_4 (ck1_s (r := 15) dT_cL_law_14 rfl dg_cL_law_93.2.1)
theorem dL_law_912 : decode cL_law 912 = .ok (.iadd, 1) := dk_96 (ck1_s (r := 16) dT_cL_law_14 rfl dg_cL_law_93.2.2.1)
theorem dL_law_913 : decode cL_law 913 = .ok (.iaload, 1) := dk_46 (ck1_s (r := 17) dT_cL_law_14 rfl dg_cL_law_93.2.2.2.1)
theorem dL_law_914 : decode cL_law 914 = .ok (.invokevirtual 118, 3) := dk_182 (ck3_s (r := 18) dT_cL_law_14 rfl dg_cL_law_93.2.2.2.2.1)
theorem dL_law_917 : decode cL_law 917 = .ok (.pop, 1) := dk_87 (ck1_s (r := 21) dT_cL_law_14 rfl dg_cL_law_93.2.2.2.2.2.1)
theorem dL_law_918 : decode cL_law 918 = .ok (.goto 495, 3) := dk_167 (ck3s_s (r := 22) dT_cL_law_14 rfl dg_cL_law_93.2.2.2.2.2.2.1)
theorem dL_law_921 : decode cL_law 921 = .ok (.aload_n 1, 1) := dk_43 (ck1_s (r := 25) dT_cL_law_14 rfl dg_cL_law_93.2.2.2.2.2.2.2)
theorem dg_cL_law_94 : ck3L dS_cL_law_14 26 182 119 = true ∧ ck1L dS_cL_law_14 29 87 = true ∧ ck1L dS_cL_law_14 30 44 = true ∧ ck3L dS_cL_law_14 31 182 122 = true ∧ ck1L dS_cL_law_14 34 87 = true ∧ ck3sL dS_cL_law_14 35 167 482 = true ∧ ck1L dS_cL_law_14 38 43 = true ∧ ck3L dS_cL_law_14 39 182 123 = true := by decide +kernel
theorem dL_law_922 : decode cL_law 922 = .ok (.invokevirtual 119, 3) := dk_182 (ck3_s (r := 26) dT_cL_law_14 rfl dg_cL_law_94.1)
theorem dL_law_925 : decode cL_law 925 = .ok (.pop, 1) := dk_87 (ck1_s (r := 29) dT_cL_law_14 rfl dg_cL_law_94.2.1)
theorem dL_law_926 : decode cL_law 926 = .ok (.aload_n 2, 1) := dk_44 (ck1_s (r := 30) dT_cL_law_14 rfl dg_cL_law_94.2.2.1)
theorem dL_law_927 : decode cL_law 927 = .ok (.invokevirtual 122, 3) := dk_182 (ck3_s (r := 31) dT_cL_law_14 rfl dg_cL_law_94.2.2.2.1)
theorem dL_law_930 : decode cL_law 930 = .ok (.pop, 1) := dk_87 (ck1_s (r := 34) dT_cL_law_14 rfl dg_cL_law_94.2.2.2.2.1)
theorem dL_law_931 : decode cL_law 931 = .ok (.goto 482, 3) := dk_167 (ck3s_s (r := 35) dT_cL_law_14 rfl dg_cL_law_94.2.2.2.2.2.1)
theorem dL_law_934 : decode cL_law 934 = .ok (.aload_n 1, 1) := dk_43 (ck1_s (r := 38) dT_cL_law_14 rfl dg_cL_law_94.2.2.2.2.2.2.1)
theorem dL_law_935 : decode cL_law 935 = .ok (.invokevirtual 123, 3) := dk_182 (ck3_s (r := 39) dT_cL_law_14 rfl dg_cL_law_94.2.2.2.2.2.2.2)
theorem dg_cL_law_95 : ck1L dS_cL_law_14 42 87 = true ∧ ck1L dS_cL_law_14 43 44 = true ∧ ck3L dS_cL_law_14 44 182 126 = true ∧ ck1L dS_cL_law_14 47 87 = true ∧ ck3sL dS_cL_law_14 48 167 469 = true ∧ ck1L dS_cL_law_14 51 43 = true ∧ ck1L dS_cL_law_14 52 42 = true ∧ ck1L dS_cL_law_14 53 29 = true := by decide +kernel
theorem dL_law_938 : decode cL_law 938 = .ok (.pop, 1) := dk_87 (ck1_s (r := 42) dT_cL_law_14 rfl dg_cL_law_95.1)
theorem dL_law_939 : decode cL_law 939 = .ok (.aload_n 2, 1) := dk_44 (ck1_s (r := 43) dT_cL_law_14 rfl dg_cL_law_95.2.1)
theorem dL_law_940 : decode cL_law 940 = .ok (.invokevirtual 126, 3) := dk_182 (ck3_s (r := 44) dT_cL_law_14 rfl dg_cL_law_95.2.2.1)
theorem dL_law_943 : decode cL_law 943 = .ok (.pop, 1) := dk_87 (ck1_s (r := 47) dT_cL_law_14 rfl dg_cL_law_95.2.2.2.1)
theorem dL_law_944 : decode cL_law 944 = .ok (.goto 469, 3) := dk_167 (ck3s_s (r := 48) dT_cL_law_14 rfl dg_cL_law_95.2.2.2.2.1)
theorem dL_law_947 : decode cL_law 947 = .ok (.aload_n 1, 1) := dk_43 (ck1_s (r := 51) dT_cL_law_14 rfl dg_cL_law_95.2.2.2.2.2.1)
theorem dL_law_948 : decode cL_law 948 = .ok (.aload_n 0, 1) := dk_42 (ck1_s (r := 52) dT_cL_law_14 rfl dg_cL_law_95.2.2.2.2.2.2.1)
theorem dL_law_949 : decode cL_law 949 = .ok (.iload_n 3, 1) := dk_29 (ck1_s (r := 53) dT_cL_law_14 rfl dg_cL_law_95.2.2.2.2.2.2.2)
theorem dg_cL_law_96 : ck1L dS_cL_law_14 54 4 = true ∧ ck1L dS_cL_law_14 55 96 = true ∧ ck1L dS_cL_law_14 56 46 = true ∧ ck1L dS_cL_law_14 57 42 = true ∧ ck1L dS_cL_law_14 58 29 = true ∧ ck1L dS_cL_law_14 59 5 = true ∧ ck1L dS_cL_law_14 60 96 = true ∧ ck1L dS_cL_law_14 61 46 = true := by decide +kernel
theorem dL_law_950 : decode cL_law 950 = .ok (.iconst 1, 1) := dk_4 (ck1_s (r := 54) dT_cL_law_14 rfl dg_cL_law_96.1)
theorem dL_law_951 : decode cL_law 951 = .ok (.iadd, 1) := dk_96 (ck1_s (r := 55) dT_cL_law_14 rfl dg_cL_law_96.2.1)
theorem dL_law_952 : decode cL_law 952 = .ok (.iaload, 1) := dk_46 (ck1_s (r := 56) dT_cL_law_14 rfl dg_cL_law_96.2.2.1)
theorem dL_law_953 : decode cL_law 953 = .ok (.aload_n 0, 1) := dk_42 (ck1_s (r := 57) dT_cL_law_14 rfl dg_cL_law_96.2.2.2.1)
theorem dL_law_954 : decode cL_law 954 = .ok (.iload_n 3, 1) := dk_29 (ck1_s (r := 58) dT_cL_law_14 rfl dg_cL_law_96.2.2.2.2.1)
theorem dL_law_955 : decode cL_law 955 = .ok (.iconst 2, 1) := dk_5 (ck1_s (r := 59) dT_cL_law_14 rfl dg_cL_law_96.2.2.2.2.2.1)
theorem dL_law_956 : decode cL_law 956 = .ok (.iadd, 1) := dk_96 (ck1_s (r := 60) dT_cL_law_14 rfl dg_cL_law_96.2.2.2.2.2.2.1)
theorem dL_law_957 : decode cL_law 957 = .ok (.iaload, 1) := dk_46 (ck1_s (r := 61) dT_cL_law_14 rfl dg_cL_law_96.2.2.2.2.2.2.2)
theorem dg_cL_law_97 : ck3L dS_cL_law_14 62 182 127 = true ∧ ck1L dS_cL_law_15 1 87 = true ∧ ck1L dS_cL_law_15 2 44 = true ∧ ck1L dS_cL_law_15 3 42 = true ∧ ck1L dS_cL_law_15 4 29 = true ∧ ck1L dS_cL_law_15 5 4 = true ∧ ck1L dS_cL_law_15 6 96 = true ∧ ck1L dS_cL_law_15 7 46 = true := by decide +kernel
theorem dL_law_958 : decode cL_law 958 = .ok (.invokevirtual 127, 3) := dk_182 (ck3_s (r := 62) dT_cL_law_14 rfl dg_cL_law_97.1)
theorem dL_law_961 : decode cL_law 961 = .ok (.pop, 1) := dk_87 (ck1_s (r := 1) dT_cL_law_15 rfl dg_cL_law_97.2.1)
theorem dL_law_962 : decode cL_law 962 = .ok (.aload_n 2, 1) := dk_44 (ck1_s (r := 2) dT_cL_law_15 rfl dg_cL_law_97.2.2.1)
theorem dL_law_963 : decode cL_law 963 = .ok (.aload_n 0, 1) := dk_42 (ck1_s (r := 3) dT_cL_law_15 rfl dg_cL_law_97.2.2.2.1)
theorem dL_law_964 : decode cL_law 964 = .ok (.iload_n 3, 1) := dk_29 (ck1_s (r := 4) dT_cL_law_15 rfl dg_cL_law_97.2.2.2.2.1)
theorem dL_law_965 : decode cL_law 965 = .ok (.iconst 1, 1) := dk_4 (ck1_s (r := 5) dT_cL_law_15 rfl dg_cL_law_97.2.2.2.2.2.1)
theorem dL_law_966 : decode cL_law 966 = .ok (.iadd, 1) := dk_96 (ck1_s (r := 6) dT_cL_law_15 rfl dg_cL_law_97.2.2.2.2.2.2.1)
theorem dL_law_967 : decode cL_law 967 = .ok (.iaload, 1) := dk_46 (ck1_s (r := 7) dT_cL_law_15 rfl dg_cL_law_97.2.2.2.2.2.2.2)
theorem dg_cL_law_98 : ck1L dS_cL_law_15 8 42 = true ∧ ck1L dS_cL_law_15 9 29 = true ∧ ck1L dS_cL_law_15 10 5 = true ∧ ck1L dS_cL_law_15 11 96 = true ∧ ck1L dS_cL_law_15 12 46 = true ∧ ck3L dS_cL_law_15 13 182 130 = true ∧ ck1L dS_cL_law_15 16 87 = true ∧ ck3sL dS_cL_law_15 17 167 436 = true := by decide +kernel
theorem dL_law_968 : decode cL_law 968 = .ok (.aload_n 0, 1) := dk_42 (ck1_s (r := 8) dT_cL_law_15 rfl dg_cL_law_98.1)
theorem dL_law_969 : decode cL_law 969 = .ok (.iload_n 3, 1) := dk_29 (ck1_s (r := 9) dT_cL_law_15 rfl dg_cL_law_98.2.1)
theorem dL_law_970 : decode cL_law 970 = .ok (.iconst 2, 1) := dk_5 (ck1_s (r := 10) dT_cL_law_15 rfl dg_cL_law_98.2.2.1)
theorem dL_law_971 : decode cL_law 971 = .ok (.iadd, 1) := dk_96 (ck1_s (r := 11) dT_cL_law_15 rfl dg_cL_law_98.2.2.2.1)
theorem dL_law_972 : decode cL_law 972 = .ok (.iaload, 1) := dk_46 (ck1_s (r := 12) dT_cL_law_15 rfl dg_cL_law_98.2.2.2.2.1)
theorem dL_law_973 : decode cL_law 973 = .ok (.invokevirtual 130, 3) := dk_182 (ck3_s (r := 13) dT_cL_law_15 rfl dg_cL_law_98.2.2.2.2.2.1)
theorem dL_law_976 : decode cL_law 976 = .ok (.pop, 1) := dk_87 (ck1_s (r := 16) dT_cL_law_15 rfl dg_cL_law_98.2.2.2.2.2.2.1)
theorem dL_law_977 : decode cL_law 977 = .ok (.goto 436, 3) := dk_167 (ck3s_s (r := 17) dT_cL_law_15 rfl dg_cL_law_98.2.2.2.2.2.2.2)
theorem dg_cL_law_99 : ck1L dS_cL_law_15 20 43 = true ∧ ck3L dS_cL_law_15 21 182 131 = true ∧ ck1L dS_cL_law_15 24 87 = true ∧ ck1L dS_cL_law_15 25 44 = true ∧ ck3L dS_cL_law_15 26 182 134 = true ∧ ck1L dS_cL_law_15 29 87 = true ∧ ck3sL dS_cL_law_15 30 167 423 = true ∧ ck1L dS_cL_law_15 33 43 = true := by decide +kernel
theorem dL_law_980 : decode cL_law 980 = .ok (.aload_n 1, 1) := dk_43 (ck1_s (r := 20) dT_cL_law_15 rfl dg_cL_law_99.1)
theorem dL_law_981 : decode cL_law 981 = .ok (.invokevirtual 131, 3) := dk_182 (ck3_s (r := 21) dT_cL_law_15 rfl dg_cL_law_99.2.1)
theorem dL_law_984 : decode cL_law 984 = .ok (.pop, 1) := dk_87 (ck1_s (r := 24) dT_cL_law_15 rfl dg_cL_law_99.2.2.1)
theorem dL_law_985 : decode cL_law 985 = .ok (.aload_n 2, 1) := dk_44 (ck1_s (r := 25) dT_cL_law_15 rfl dg_cL_law_99.2.2.2.1)
theorem dL_law_986 : decode cL_law 986 = .ok (.invokevirtual 134, 3) := dk_182 (ck3_s (r := 26) dT_cL_law_15 rfl dg_cL_law_99.2.2.2.2.1)
theorem dL_law_989 : decode cL_law 989 = .ok (.pop, 1) := dk_87 (ck1_s (r := 29) dT_cL_law_15 rfl dg_cL_law_99.2.2.2.2.2.1)
theorem dL_law_990 : decode cL_law 990 = .ok (.goto 423, 3) := dk_167 (ck3s_s (r := 30) dT_cL_law_15 rfl dg_cL_law_99.2.2.2.2.2.2.1)
theorem dL_law_993 : decode cL_law 993 = .ok (.aload_n 1, 1) := dk_43 (ck1_s (r := 33) dT_cL_law_15 rfl dg_cL_law_99.2.2.2.2.2.2.2)
theorem dg_cL_law_100 : ck3L dS_cL_law_15 34 182 135 = true ∧ ck1L dS_cL_law_15 37 87 = true ∧ ck1L dS_cL_law_15 38 44 = true ∧ ck3L dS_cL_law_15 39 182 138 = true ∧ ck1L dS_cL_law_15 42 87 = true ∧ ck3sL dS_cL_law_15 43 167 410 = true ∧ ck1L dS_cL_law_15 46 43 = true ∧ ck3L dS_cL_law_15 47 182 139 = true := by decide +kernel
theorem dL_law_994 : decode cL_law 994 = .ok (.invokevirtual 135, 3) := dk_182 (ck3_s (r := 34) dT_cL_law_15 rfl dg_cL_law_100.1)
theorem dL_law_997 : decode cL_law 997 = .ok (.pop, 1) := dk_87 (ck1_s (r := 37) dT_cL_law_15 rfl dg_cL_law_100.2.1)
theorem dL_law_998 : decode cL_law 998 = .ok (.aload_n 2, 1) := dk_44 (ck1_s (r := 38) dT_cL_law_15 rfl dg_cL_law_100.2.2.1)
theorem dL_law_999 : decode cL_law 999 = .ok (.invokevirtual 138, 3) := dk_182 (ck3_s (r := 39) dT_cL_law_15 rfl dg_cL_law_100.2.2.2.1)
theorem dL_law_1002 : decode cL_law 1002 = .ok (.pop, 1) := dk_87 (ck1_s (r := 42) dT_cL_law_15 rfl dg_cL_law_100.2.2.2.2.1)
theorem dL_law_1003 : decode cL_law 1003 = .ok (.goto 410, 3) := dk_167 (ck3s_s (r := 43) dT_cL_law_15 rfl dg_cL_law_100.2.2.2.2.2.1)
theorem dL_law_1006 : decode cL_law 1006 = .ok (.aload_n 1, 1) := dk_43 (ck1_s (r := 46) dT_cL_law_15 rfl dg_cL_law_100.2.2.2.2.2.2.1)
theorem dL_law_1007 : decode cL_law 1007 = .ok (.invokevirtual 139, 3) := dk_182 (ck3_s (r := 47) dT_cL_law_15 rfl dg_cL_law_100.2.2.2.2.2.2.2)
theorem dg_cL_law_101 : ck1L dS_cL_law_15 50 87 = true ∧ ck1L dS_cL_law_15 51 44 = true ∧ ck3L dS_cL_law_15 52 182 142 = true ∧ ck1L dS_cL_law_15 55 87 = true ∧ ck3sL dS_cL_law_15 56 167 397 = true ∧ ck1L dS_cL_law_15 59 43 = true ∧ ck1L dS_cL_law_15 60 42 = true ∧ ck1L dS_cL_law_15 61 29 = true := by decide +kernel
theorem dL_law_1010 : decode cL_law 1010 = .ok (.pop, 1) := dk_87 (ck1_s (r := 50) dT_cL_law_15 rfl dg_cL_law_101.1)
theorem dL_law_1011 : decode cL_law 1011 = .ok (.aload_n 2, 1) := dk_44 (ck1_s (r := 51) dT_cL_law_15 rfl dg_cL_law_101.2.1)
theorem dL_law_1012 : decode cL_law 1012 = .ok (.invokevirtual 142, 3) := dk_182 (ck3_s (r := 52) dT_cL_law_15 rfl dg_cL_law_101.2.2.1)
theorem dL_law_1015 : decode cL_law 1015 = .ok (.pop, 1) := dk_87 (ck1_s (r := 55) dT_cL_law_15 rfl dg_cL_law_101.2.2.2.1)
theorem dL_law_1016 : decode cL_law 1016 = .ok (.goto 397, 3) := dk_167 (ck3s_s (r := 56) dT_cL_law_15 rfl dg_cL_law_101.2.2.2.2.1)
theorem dL_law_1019 : decode cL_law 1019 = .ok (.aload_n 1, 1) := dk_43 (ck1_s (r := 59) dT_cL_law_15 rfl dg_cL_law_101.2.2.2.2.2.1)
theorem dL_law_1020 : decode cL_law 1020 = .ok (.aload_n 0, 1) := dk_42 (ck1_s (r := 60) dT_cL_law_15 rfl dg_cL_law_101.2.2.2.2.2.2.1)
theorem dL_law_1021 : decode cL_law 1021 = .ok (.iload_n 3, 1) := dk_29 (ck1_s (r := 61) dT_cL_law_15 rfl dg_cL_law_101.2.2.2.2.2.2.2)
theorem dg_cL_law_102 : ck1L dS_cL_law_15 62 4 = true ∧ ck1L dS_cL_law_15 63 96 = true ∧ ck1L dS_cL_law_16 0 46 = true ∧ ck3L dS_cL_law_16 1 182 143 = true ∧ ck1L dS_cL_law_16 4 87 = true ∧ ck1L dS_cL_law_16 5 44 = true ∧ ck1L dS_cL_law_16 6 42 = true ∧ ck1L dS_cL_law_16 7 29 = true := by decide +kernel
theorem dL_law_1022 : decode cL_law 1022 = .ok (.iconst 1, 1) := dk_4 (ck1_s (r := 62) dT_cL_law_15 rfl dg_cL_law_102.1)
theorem dL_law_1023 : decode cL_law 1023 = .ok (.iadd, 1) := dk_96 (ck1_s (r := 63) dT_cL_law_15 rfl dg_cL_law_102.2.1)
theorem dL_law_1024 : decode cL_law 1024 = .ok (.iaload, 1) := dk_46 (ck1_s (r := 0) dT_cL_law_16 rfl dg_cL_law_102.2.2.1)
theorem dL_law_1025 : decode cL_law 1025 = .ok (.invokevirtual 143, 3) := dk_182 (ck3_s (r := 1) dT_cL_law_16 rfl dg_cL_law_102.2.2.2.1)
theorem dL_law_1028 : decode cL_law 1028 = .ok (.pop, 1) := dk_87 (ck1_s (r := 4) dT_cL_law_16 rfl dg_cL_law_102.2.2.2.2.1)
theorem dL_law_1029 : decode cL_law 1029 = .ok (.aload_n 2, 1) := dk_44 (ck1_s (r := 5) dT_cL_law_16 rfl dg_cL_law_102.2.2.2.2.2.1)
theorem dL_law_1030 : decode cL_law 1030 = .ok (.aload_n 0, 1) := dk_42 (ck1_s (r := 6) dT_cL_law_16 rfl dg_cL_law_102.2.2.2.2.2.2.1)
theorem dL_law_1031 : decode cL_law 1031 = .ok (.iload_n 3, 1) := dk_29 (ck1_s (r := 7) dT_cL_law_16 rfl dg_cL_law_102.2.2.2.2.2.2.2)
theorem dg_cL_law_103 : ck1L dS_cL_law_16 8 4 = true ∧ ck1L dS_cL_law_16 9 96 = true ∧ ck1L dS_cL_law_16 10 46 = true ∧ ck3L dS_cL_law_16 11 182 146 = true ∧ ck1L dS_cL_law_16 14 87 = true ∧ ck3sL dS_cL_law_16 15 167 374 = true ∧ ck1L dS_cL_law_16 18 43 = true ∧ ck1L dS_cL_law_16 19 42 = true := by decide +kernel
theorem dL_law_1032 : decode cL_law 1032 = .ok (.iconst 1, 1) := dk_4 (ck1_s (r := 8) dT_cL_law_16 rfl dg_cL_law_103.1)
theorem dL_law_1033 : decode cL_law 1033 = .ok (.iadd, 1) := dk_96 (ck1_s (r := 9) dT_cL_law_16 rfl dg_cL_law_103.2.1)
theorem dL_law_1034 : decode cL_law 1034 = .ok (.iaload, 1) := dk_46 (ck1_s (r := 10) dT_cL_law_16 rfl dg_cL_law_103.2.2.1)
theorem dL_law_1035 : decode cL_law 1035 = .ok (.invokevirtual 146, 3) := dk_182 (ck3_s (r := 11) dT_cL_law_16 rfl dg_cL_law_103.2.2.2.1)
theorem dL_law_1038 : decode cL_law 1038 = .ok (.pop, 1) := dk_87 (ck1_s (r := 14) dT_cL_law_16 rfl dg_cL_law_103.2.2.2.2.1)
theorem dL_law_1039 : decode cL_law 1039 = .ok (.goto 374, 3) := dk_167 (ck3s_s (r := 15) dT_cL_law_16 rfl dg_cL_law_103.2.2.2.2.2.1)
theorem dL_law_1042 : decode cL_law 1042 = .ok (.aload_n 1, 1) := dk_43 (ck1_s (r := 18) dT_cL_law_16 rfl dg_cL_law_103.2.2.2.2.2.2.1)
theorem dL_law_1043 : decode cL_law 1043 = .ok (.aload_n 0, 1) := dk_42 (ck1_s (r := 19) dT_cL_law_16 rfl dg_cL_law_103.2.2.2.2.2.2.2)
theorem dg_cL_law_104 : ck1L dS_cL_law_16 20 29 = true ∧ ck1L dS_cL_law_16 21 4 = true ∧ ck1L dS_cL_law_16 22 96 = true ∧ ck1L dS_cL_law_16 23 46 = true ∧ ck3L dS_cL_law_16 24 182 147 = true ∧ ck1L dS_cL_law_16 27 87 = true ∧ ck1L dS_cL_law_16 28 44 = true ∧ ck1L dS_cL_law_16 29 42 = true := by decide +kernel
theorem dL_law_1044 : decode cL_law 1044 = .ok (.iload_n 3, 1) := dk_29 (ck1_s (r := 20) dT_cL_law_16 rfl dg_cL_law_104.1)
theorem dL_law_1045 : decode cL_law 1045 = .ok (.iconst 1, 1) := dk_4 (ck1_s (r := 21) dT_cL_law_16 rfl dg_cL_law_104.2.1)
theorem dL_law_1046 : decode cL_law 1046 = .ok (.iadd, 1) := dk_96 (ck1_s (r := 22) dT_cL_law_16 rfl dg_cL_law_104.2.2.1)
theorem dL_law_1047 : decode cL_law 1047 = .ok (.iaload, 1) := dk_46 (ck1_s (r := 23) dT_cL_law_16 rfl dg_cL_law_104.2.2.2.1)
theorem dL_law_1048 : decode cL_law 1048 = .ok (.invokevirtual 147, 3) := dk_182 (ck3_s (r := 24) dT_cL_law_16 rfl dg_cL_law_104.2.2.2.2.1)
theorem dL_law_1051 : decode cL_law 1051 = .ok (.pop, 1) := dk_87 (ck1_s (r := 27) dT_cL_law_16 rfl dg_cL_law_104.2.2.2.2.2.1)
theorem dL_law_1052 : decode cL_law 1052 = .ok (.aload_n 2, 1) := dk_44 (ck1_s (r := 28) dT_cL_law_16 rfl dg_cL_law_104.2.2.2.2.2.2.1)
theorem dL_law_1053 : decode cL_law 1053 = .ok (.aload_n 0, 1) := dk_42 (ck1_s (r := 29) dT_cL_law_16 rfl dg_cL_law_104.2.2.2.2.2.2.2)
theorem dg_cL_law_105 : ck1L dS_cL_law_16 30 29 = true ∧ ck1L dS_cL_law_16 31 4 = true ∧ ck1L dS_cL_law_16 32 96 = true ∧ ck1L dS_cL_law_16 33 46 = true ∧ ck3L dS_cL_law_16 34 182 150 = true ∧ ck1L dS_cL_law_16 37 87 = true ∧ ck3sL dS_cL_law_16 38 167 351 = true ∧ ck1L dS_cL_law_16 41 43 = true := by decide +kernel
theorem dL_law_1054 : decode cL_law 1054 = .ok (.iload_n 3, 1) := dk_29 (ck1_s (r := 30) dT_cL_law_16 rfl dg_cL_law_105.1)
theorem dL_law_1055 : decode cL_law 1055 = .ok (.iconst 1, 1) := dk_4 (ck1_s (r := 31) dT_cL_law_16 rfl dg_cL_law_105.2.1)
theorem dL_law_1056 : decode cL_law 1056 = .ok (.iadd, 1) := dk_96 (ck1_s (r := 32) dT_cL_law_16 rfl dg_cL_law_105.2.2.1)
theorem dL_law_1057 : decode cL_law 1057 = .ok (.iaload, 1) := dk_46 (ck1_s (r := 33) dT_cL_law_16 rfl dg_cL_law_105.2.2.2.1)
theorem dL_law_1058 : decode cL_law 1058 = .ok (.invokevirtual 150, 3) := dk_182 (ck3_s (r := 34) dT_cL_law_16 rfl dg_cL_law_105.2.2.2.2.1)
theorem dL_law_1061 : decode cL_law 1061 = .ok (.pop, 1) := dk_87 (ck1_s (r := 37) dT_cL_law_16 rfl dg_cL_law_105.2.2.2.2.2.1)
theorem dL_law_1062 : decode cL_law 1062 = .ok (.goto 351, 3) := dk_167 (ck3s_s (r := 38) dT_cL_law_16 rfl dg_cL_law_105.2.2.2.2.2.2.1)
theorem dL_law_1065 : decode cL_law 1065 = .ok (.aload_n 1, 1) := dk_43 (ck1_s (r := 41) dT_cL_law_16 rfl dg_cL_law_105.2.2.2.2.2.2.2)
theorem dg_cL_law_106 : ck3L dS_cL_law_16 42 182 151 = true ∧ ck1L dS_cL_law_16 45 87 = true ∧ ck1L dS_cL_law_16 46 44 = true ∧ ck3L dS_cL_law_16 47 182 154 = true ∧ ck1L dS_cL_law_16 50 87 = true ∧ ck3sL dS_cL_law_16 51 167 338 = true ∧ ck1L dS_cL_law_16 54 43 = true ∧ ck3L dS_cL_law_16 55 182 155 = true := by decide +kernel
theorem dL_law_1066 : decode cL_law 1066 = .ok (.invokevirtual 151, 3) := dk_182 (ck3_s (r := 42) dT_cL_law_16 rfl dg_cL_law_106.1)
theorem dL_law_1069 : decode cL_law 1069 = .ok (.pop, 1) := dk_87 (ck1_s (r := 45) dT_cL_law_16 rfl dg_cL_law_106.2.1)
theorem dL_law_1070 : decode cL_law 1070 = .ok (.aload_n 2, 1) := dk_44 (ck1_s (r := 46) dT_cL_law_16 rfl dg_cL_law_106.2.2.1)
theorem dL_law_1071 : decode cL_law 1071 = .ok (.invokevirtual 154, 3) := dk_182 (ck3_s (r := 47) dT_cL_law_16 rfl dg_cL_law_106.2.2.2.1)
theorem dL_law_1074 : decode cL_law 1074 = .ok (.pop, 1) := dk_87 (ck1_s (r := 50) dT_cL_law_16 rfl dg_cL_law_106.2.2.2.2.1)
theorem dL_law_1075 : decode cL_law 1075 = .ok (.goto 338, 3) := dk_167 (ck3s_s (r := 51) dT_cL_law_16 rfl dg_cL_law_106.2.2.2.2.2.1)
theorem dL_law_1078 : decode cL_law 1078 = .ok (.aload_n 1, 1) := dk_43 (ck1_s (r := 54) dT_cL_law_16 rfl dg_cL_law_106.2.2.2.2.2.2.1)
theorem dL_law_1079 : decode cL_law 1079 = .ok (.invokevirtual 155, 3) := dk_182 (ck3_s (r := 55) dT_cL_law_16 rfl dg_cL_law_106.2.2.2.2.2.2.2)
theorem dg_cL_law_107 : ck1L dS_cL_law_16 58 87 = true ∧ ck1L dS_cL_law_16 59 44 = true ∧ ck3L dS_cL_law_16 60 182 158 = true ∧ ck1L dS_cL_law_16 63 87 = true ∧ ck3sL dS_cL_law_17 0 167 325 = true ∧ ck1L dS_cL_law_17 3 43 = true ∧ ck3L dS_cL_law_17 4 182 159 = true ∧ ck1L dS_cL_law_17 7 87 = true := by decide +kernel
theorem dL_law_1082 : decode cL_law 1082 = .ok (.pop, 1) := dk_87 (ck1_s (r := 58) dT_cL_law_16 rfl dg_cL_law_107.1)
theorem dL_law_1083 : decode cL_law 1083 = .ok (.aload_n 2, 1) := dk_44 (ck1_s (r := 59) dT_cL_law_16 rfl dg_cL_law_107.2.1)
theorem dL_law_1084 : decode cL_law 1084 = .ok (.invokevirtual 158, 3) := dk_182 (ck3_s (r := 60) dT_cL_law_16 rfl dg_cL_law_107.2.2.1)
theorem dL_law_1087 : decode cL_law 1087 = .ok (.pop, 1) := dk_87 (ck1_s (r := 63) dT_cL_law_16 rfl dg_cL_law_107.2.2.2.1)
theorem dL_law_1088 : decode cL_law 1088 = .ok (.goto 325, 3) := dk_167 (ck3s_s (r := 0) dT_cL_law_17 rfl dg_cL_law_107.2.2.2.2.1)
theorem dL_law_1091 : decode cL_law 1091 = .ok (.aload_n 1, 1) := dk_43 (ck1_s (r := 3) dT_cL_law_17 rfl dg_cL_law_107.2.2.2.2.2.1)
theorem dL_law_1092 : decode cL_law 1092 = .ok (.invokevirtual 159, 3) := dk_182 (ck3_s (r := 4) dT_cL_law_17 rfl dg_cL_law_107.2.2.2.2.2.2.1)
theorem dL_law_1095 : decode cL_law 1095 = .ok (.pop, 1) := dk_87 (ck1_s (r := 7) dT_cL_law_17 rfl dg_cL_law_107.2.2.2.2.2.2.2)
theorem dg_cL_law_108 : ck1L dS_cL_law_17 8 44 = true ∧ ck3L dS_cL_law_17 9 182 162 = true ∧ ck1L dS_cL_law_17 12 87 = true ∧ ck3sL dS_cL_law_17 13 167 312 = true ∧ ck1L dS_cL_law_17 16 43 = true ∧ ck1L dS_cL_law_17 17 42 = true ∧ ck1L dS_cL_law_17 18 29 = true ∧ ck1L dS_cL_law_17 19 4 = true := by decide +kernel
theorem dL_law_1096 : decode cL_law 1096 = .ok (.aload_n 2, 1) := dk_44 (ck1_s (r := 8) dT_cL_law_17 rfl dg_cL_law_108.1)
theorem dL_law_1097 : decode cL_law 1097 = .ok (.invokevirtual 162, 3) := dk_182 (ck3_s (r := 9) dT_cL_law_17 rfl dg_cL_law_108.2.1)
theorem dL_law_1100 : decode cL_law 1100 = .ok (.pop, 1) := dk_87 (ck1_s (r := 12) dT_cL_law_17 rfl dg_cL_law_108.2.2.1)
theorem dL_law_1101 : decode cL_law 1101 = .ok (.goto 312, 3) := dk_167 (ck3s_s (r := 13) dT_cL_law_17 rfl dg_cL_law_108.2.2.2.1)
theorem dL_law_1104 : decode cL_law 1104 = .ok (.aload_n 1, 1) := dk_43 (ck1_s (r := 16) dT_cL_law_17 rfl dg_cL_law_108.2.2.2.2.1)
theorem dL_law_1105 : decode cL_law 1105 = .ok (.aload_n 0, 1) := dk_42 (ck1_s (r := 17) dT_cL_law_17 rfl dg_cL_law_108.2.2.2.2.2.1)
theorem dL_law_1106 : decode cL_law 1106 = .ok (.iload_n 3, 1) := dk_29 (ck1_s (r := 18) dT_cL_law_17 rfl dg_cL_law_108.2.2.2.2.2.2.1)
theorem dL_law_1107 : decode cL_law 1107 = .ok (.iconst 1, 1) := dk_4 (ck1_s (r := 19) dT_cL_law_17 rfl dg_cL_law_108.2.2.2.2.2.2.2)
theorem dg_cL_law_109 : ck1L dS_cL_law_17 20 96 = true ∧ ck1L dS_cL_law_17 21 46 = true ∧ ck1L dS_cL_law_17 22 42 = true ∧ ck1L dS_cL_law_17 23 29 = true ∧ ck1L dS_cL_law_17 24 5 = true ∧ ck1L dS_cL_law_17 25 96 = true ∧ ck1L dS_cL_law_17 26 46 = true ∧ ck3L dS_cL_law_17 27 182 163 = true := by decide +kernel
theorem dL_law_1108 : decode cL_law 1108 = .ok (.iadd, 1) := dk_96 (ck1_s (r := 20) dT_cL_law_17 rfl dg_cL_law_109.1)
theorem dL_law_1109 : decode cL_law 1109 = .ok (.iaload, 1) := dk_46 (ck1_s (r := 21) dT_cL_law_17 rfl dg_cL_law_109.2.1)
theorem dL_law_1110 : decode cL_law 1110 = .ok (.aload_n 0, 1) := dk_42 (ck1_s (r := 22) dT_cL_law_17 rfl dg_cL_law_109.2.2.1)
theorem dL_law_1111 : decode cL_law 1111 = .ok (.iload_n 3, 1) := dk_29 (ck1_s (r := 23) dT_cL_law_17 rfl dg_cL_law_109.2.2.2.1)
theorem dL_law_1112 : decode cL_law 1112 = .ok (.iconst 2, 1) := dk_5 (ck1_s (r := 24) dT_cL_law_17 rfl dg_cL_law_109.2.2.2.2.1)
theorem dL_law_1113 : decode cL_law 1113 = .ok (.iadd, 1) := dk_96 (ck1_s (r := 25) dT_cL_law_17 rfl dg_cL_law_109.2.2.2.2.2.1)
theorem dL_law_1114 : decode cL_law 1114 = .ok (.iaload, 1) := dk_46 (ck1_s (r := 26) dT_cL_law_17 rfl dg_cL_law_109.2.2.2.2.2.2.1)
theorem dL_law_1115 : decode cL_law 1115 = .ok (.invokevirtual 163, 3) := dk_182 (ck3_s (r := 27) dT_cL_law_17 rfl dg_cL_law_109.2.2.2.2.2.2.2)
theorem dg_cL_law_110 : ck1L dS_cL_law_17 30 87 = true ∧ ck1L dS_cL_law_17 31 44 = true ∧ ck1L dS_cL_law_17 32 42 = true ∧ ck1L dS_cL_law_17 33 29 = true ∧ ck1L dS_cL_law_17 34 4 = true ∧ ck1L dS_cL_law_17 35 96 = true ∧ ck1L dS_cL_law_17 36 46 = true ∧ ck1L dS_cL_law_17 37 42 = true := by decide +kernel
theorem dL_law_1118 : decode cL_law 1118 = .ok (.pop, 1) := dk_87 (ck1_s (r := 30) dT_cL_law_17 rfl dg_cL_law_110.1)
theorem dL_law_1119 : decode cL_law 1119 = .ok (.aload_n 2, 1) := dk_44 (ck1_s (r := 31) dT_cL_law_17 rfl dg_cL_law_110.2.1)
theorem dL_law_1120 : decode cL_law 1120 = .ok (.aload_n 0, 1) := dk_42 (ck1_s (r := 32) dT_cL_law_17 rfl dg_cL_law_110.2.2.1)
theorem dL_law_1121 : decode cL_law 1121 = .ok (.iload_n 3, 1) := dk_29 (ck1_s (r := 33) dT_cL_law_17 rfl dg_cL_law_110.2.2.2.1)
theorem dL_law_1122 : decode cL_law 1122 = .ok (.iconst 1, 1) := dk_4 (ck1_s (r := 34) dT_cL_law_17 rfl dg_cL_law_110.2.2.2.2.1)
theorem dL_law_1123 : decode cL_law 1123 = .ok (.iadd, 1) := dk_96 (ck1_s (r := 35) dT_cL_law_17 rfl dg_cL_law_110.2.2.2.2.2.1)
theorem dL_law_1124 : decode cL_law 1124 = .ok (.iaload, 1) := dk_46 (ck1_s (r := 36) dT_cL_law_17 rfl dg_cL_law_110.2.2.2.2.2.2.1)
theorem dL_law_1125 : decode cL_law 1125 = .ok (.aload_n 0, 1) := dk_42 (ck1_s (r := 37) dT_cL_law_17 rfl dg_cL_law_110.2.2.2.2.2.2.2)
theorem dg_cL_law_111 : ck1L dS_cL_law_17 38 29 = true ∧ ck1L dS_cL_law_17 39 5 = true ∧ ck1L dS_cL_law_17 40 96 = true ∧ ck1L dS_cL_law_17 41 46 = true ∧ ck3L dS_cL_law_17 42 182 166 = true ∧ ck1L dS_cL_law_17 45 87 = true ∧ ck3sL dS_cL_law_17 46 167 279 = true ∧ ck1L dS_cL_law_17 49 43 = true := by decide +kernel
theorem dL_law_1126 : decode cL_law 1126 = .ok (.iload_n 3, 1) := dk_29 (ck1_s (r := 38) dT_cL_law_17 rfl dg_cL_law_111.1)
theorem dL_law_1127 : decode cL_law 1127 = .ok (.iconst 2, 1) := dk_5 (ck1_s (r := 39) dT_cL_law_17 rfl dg_cL_law_111.2.1)
theorem dL_law_1128 : decode cL_law 1128 = .ok (.iadd, 1) := dk_96 (ck1_s (r := 40) dT_cL_law_17 rfl dg_cL_law_111.2.2.1)
theorem dL_law_1129 : decode cL_law 1129 = .ok (.iaload, 1) := dk_46 (ck1_s (r := 41) dT_cL_law_17 rfl dg_cL_law_111.2.2.2.1)
theorem dL_law_1130 : decode cL_law 1130 = .ok (.invokevirtual 166, 3) := dk_182 (ck3_s (r := 42) dT_cL_law_17 rfl dg_cL_law_111.2.2.2.2.1)
theorem dL_law_1133 : decode cL_law 1133 = .ok (.pop, 1) := dk_87 (ck1_s (r := 45) dT_cL_law_17 rfl dg_cL_law_111.2.2.2.2.2.1)
theorem dL_law_1134 : decode cL_law 1134 = .ok (.goto 279, 3) := dk_167 (ck3s_s (r := 46) dT_cL_law_17 rfl dg_cL_law_111.2.2.2.2.2.2.1)
theorem dL_law_1137 : decode cL_law 1137 = .ok (.aload_n 1, 1) := dk_43 (ck1_s (r := 49) dT_cL_law_17 rfl dg_cL_law_111.2.2.2.2.2.2.2)
theorem dg_cL_law_112 : ck1L dS_cL_law_17 50 42 = true ∧ ck1L dS_cL_law_17 51 29 = true ∧ ck1L dS_cL_law_17 52 4 = true ∧ ck1L dS_cL_law_17 53 96 = true ∧ ck1L dS_cL_law_17 54 46 = true ∧ ck3L dS_cL_law_17 55 182 167 = true ∧ ck1L dS_cL_law_17 58 87 = true ∧ ck1L dS_cL_law_17 59 44 = true := by decide +kernel
theorem dL_law_1138 : decode cL_law 1138 = .ok (.aload_n 0, 1) := dk_42 (ck1_s (r := 50) dT_cL_law_17 rfl dg_cL_law_112.1)
theorem dL_law_1139 : decode cL_law 1139 = .ok (.iload_n 3, 1) := dk_29 (ck1_s (r := 51) dT_cL_law_17 rfl dg_cL_law_112.2.1)
theorem dL_law_1140 : decode cL_law 1140 = .ok (.iconst 1, 1) := dk_4 (ck1_s (r := 52) dT_cL_law_17 rfl dg_cL_law_112.2.2.1)
theorem dL_law_1141 : decode cL_law 1141 = .ok (.iadd, 1) := dk_96 (ck1_s (r := 53) dT_cL_law_17 rfl dg_cL_law_112.2.2.2.1)
theorem dL_law_1142 : decode cL_law 1142 = .ok (.iaload, 1) := dk_46 (ck1_s (r := 54) dT_cL_law_17 rfl dg_cL_law_112.2.2.2.2.1)
theorem dL_law_1143 : decode cL_law 1143 = .ok (.invokevirtual 167, 3) := dk_182 (ck3_s (r := 55) dT_cL_law_17 rfl dg_cL_law_112.2.2.2.2.2.1)
theorem dL_law_1146 : decode cL_law 1146 = .ok (.pop, 1) := dk_87 (ck1_s (r := 58) dT_cL_law_17 rfl dg_cL_law_112.2.2.2.2.2.2.1)
theorem dL_law_1147 : decode cL_law 1147 = .ok (.aload_n 2, 1) := dk_44 (ck1_s (r := 59) dT_cL_law_17 rfl dg_cL_law_112.2.2.2.2.2.2.2)
theorem dg_cL_law_113 : ck1L dS_cL_law_17 60 42 = true ∧ ck1L dS_cL_law_17 61 29 = true ∧ ck1L dS_cL_law_17 62 4 = true ∧ ck1L dS_cL_law_17 63 96 = true ∧ ck1L dS_cL_law_18 0 46 = true ∧ ck3L dS_cL_law_18 1 182 170 = true ∧ ck1L dS_cL_law_18 4 87 = true ∧ ck3sL dS_cL_law_18 5 167 256 = true := by decide +kernel
theorem dL_law_1148 : decode cL_law 1148 = .ok (.aload_n 0, 1) := dk_42 (ck1_s (r := 60) dT_cL_law_17 rfl dg_cL_law_113.1)
theorem dL_law_1149 : decode cL_law 1149 = .ok (.iload_n 3, 1) := dk_29 (ck1_s (r := 61) dT_cL_law_17 rfl dg_cL_law_113.2.1)
theorem dL_law_1150 : decode cL_law 1150 = .ok (.iconst 1, 1) := dk_4 (ck1_s (r := 62) dT_cL_law_17 rfl dg_cL_law_113.2.2.1)
theorem dL_law_1151 : decode cL_law 1151 = .ok (.iadd, 1) := dk_96 (ck1_s (r := 63) dT_cL_law_17 rfl dg_cL_law_113.2.2.2.1)
theorem dL_law_1152 : decode cL_law 1152 = .ok (.iaload, 1) := dk_46 (ck1_s (r := 0) dT_cL_law_18 rfl dg_cL_law_113.2.2.2.2.1)
theorem dL_law_1153 : decode cL_law 1153 = .ok (.invokevirtual 170, 3) := dk_182 (ck3_s (r := 1) dT_cL_law_18 rfl dg_cL_law_113.2.2.2.2.2.1)
theorem dL_law_1156 : decode cL_law 1156 = .ok (.pop, 1) := dk_87 (ck1_s (r := 4) dT_cL_law_18 rfl dg_cL_law_113.2.2.2.2.2.2.1)
theorem dL_law_1157 : decode cL_law 1157 = .ok (.goto 256, 3) := dk_167 (ck3s_s (r := 5) dT_cL_law_18 rfl dg_cL_law_113.2.2.2.2.2.2.2)
theorem dg_cL_law_114 : ck1L dS_cL_law_18 8 43 = true ∧ ck1L dS_cL_law_18 9 42 = true ∧ ck1L dS_cL_law_18 10 29 = true ∧ ck1L dS_cL_law_18 11 4 = true ∧ ck1L dS_cL_law_18 12 96 = true ∧ ck1L dS_cL_law_18 13 46 = true ∧ ck1L dS_cL_law_18 14 42 = true ∧ ck1L dS_cL_law_18 15 29 = true := by decide +kernel
theorem dL_law_1160 : decode cL_law 1160 = .ok (.aload_n 1, 1) := dk_43 (ck1_s (r := 8) dT_cL_law_18 rfl dg_cL_law_114.1)
theorem dL_law_1161 : decode cL_law 1161 = .ok (.aload_n 0, 1) := dk_42 (ck1_s (r := 9) dT_cL_law_18 rfl dg_cL_law_114.2.1)
theorem dL_law_1162 : decode cL_law 1162 = .ok (.iload_n 3, 1) := dk_29 (ck1_s (r := 10) dT_cL_law_18 rfl dg_cL_law_114.2.2.1)
theorem dL_law_1163 : decode cL_law 1163 = .ok (.iconst 1, 1) := dk_4 (ck1_s (r := 11) dT_cL_law_18 rfl dg_cL_law_114.2.2.2.1)
theorem dL_law_1164 : decode cL_law 1164 = .ok (.iadd, 1) := dk_96 (ck1_s (r := 12) dT_cL_law_18 rfl dg_cL_law_114.2.2.2.2.1)
theorem dL_law_1165 : decode cL_law 1165 = .ok (.iaload, 1) := dk_46 (ck1_s (r := 13) dT_cL_law_18 rfl dg_cL_law_114.2.2.2.2.2.1)
theorem dL_law_1166 : decode cL_law 1166 = .ok (.aload_n 0, 1) := dk_42 (ck1_s (r := 14) dT_cL_law_18 rfl dg_cL_law_114.2.2.2.2.2.2.1)
theorem dL_law_1167 : decode cL_law 1167 = .ok (.iload_n 3, 1) := dk_29 (ck1_s (r := 15) dT_cL_law_18 rfl dg_cL_law_114.2.2.2.2.2.2.2)
theorem dg_cL_law_115 : ck1L dS_cL_law_18 16 5 = true ∧ ck1L dS_cL_law_18 17 96 = true ∧ ck1L dS_cL_law_18 18 46 = true ∧ ck3sL dS_cL_law_18 19 153 7 = true ∧ ck1L dS_cL_law_18 22 4 = true ∧ ck3sL dS_cL_law_18 23 167 4 = true ∧ ck1L dS_cL_law_18 26 3 = true ∧ ck3L dS_cL_law_18 27 182 171 = true := by decide +kernel
theorem dL_law_1168 : decode cL_law 1168 = .ok (.iconst 2, 1) := dk_5 (ck1_s (r := 16) dT_cL_law_18 rfl dg_cL_law_115.1)
theorem dL_law_1169 : decode cL_law 1169 = .ok (.iadd, 1) := dk_96 (ck1_s (r := 17) dT_cL_law_18 rfl dg_cL_law_115.2.1)
theorem dL_law_1170 : decode cL_law 1170 = .ok (.iaload, 1) := dk_46 (ck1_s (r := 18) dT_cL_law_18 rfl dg_cL_law_115.2.2.1)
theorem dL_law_1171 : decode cL_law 1171 = .ok (.ifCond .eq 7, 3) := dk_153 (ck3s_s (r := 19) dT_cL_law_18 rfl dg_cL_law_115.2.2.2.1)
theorem dL_law_1174 : decode cL_law 1174 = .ok (.iconst 1, 1) := dk_4 (ck1_s (r := 22) dT_cL_law_18 rfl dg_cL_law_115.2.2.2.2.1)
theorem dL_law_1175 : decode cL_law 1175 = .ok (.goto 4, 3) := dk_167 (ck3s_s (r := 23) dT_cL_law_18 rfl dg_cL_law_115.2.2.2.2.2.1)
theorem dL_law_1178 : decode cL_law 1178 = .ok (.iconst 0, 1) := dk_3 (ck1_s (r := 26) dT_cL_law_18 rfl dg_cL_law_115.2.2.2.2.2.2.1)
theorem dL_law_1179 : decode cL_law 1179 = .ok (.invokevirtual 171, 3) := dk_182 (ck3_s (r := 27) dT_cL_law_18 rfl dg_cL_law_115.2.2.2.2.2.2.2)
theorem dg_cL_law_116 : ck1L dS_cL_law_18 30 87 = true ∧ ck1L dS_cL_law_18 31 44 = true ∧ ck1L dS_cL_law_18 32 42 = true ∧ ck1L dS_cL_law_18 33 29 = true ∧ ck1L dS_cL_law_18 34 4 = true ∧ ck1L dS_cL_law_18 35 96 = true ∧ ck1L dS_cL_law_18 36 46 = true ∧ ck1L dS_cL_law_18 37 42 = true := by decide +kernel
theorem dL_law_1182 : decode cL_law 1182 = .ok (.pop, 1) := dk_87 (ck1_s (r := 30) dT_cL_law_18 rfl dg_cL_law_116.1)
theorem dL_law_1183 : decode cL_law 1183 = .ok (.aload_n 2, 1) := dk_44 (ck1_s (r := 31) dT_cL_law_18 rfl dg_cL_law_116.2.1)
theorem dL_law_1184 : decode cL_law 1184 = .ok (.aload_n 0, 1) := dk_42 (ck1_s (r := 32) dT_cL_law_18 rfl dg_cL_law_116.2.2.1)
theorem dL_law_1185 : decode cL_law 1185 = .ok (.iload_n 3, 1) := dk_29 (ck1_s (r := 33) dT_cL_law_18 rfl dg_cL_law_116.2.2.2.1)
theorem dL_law_1186 : decode cL_law 1186 = .ok (.iconst 1, 1) := dk_4 (ck1_s (r := 34) dT_cL_law_18 rfl dg_cL_law_116.2.2.2.2.1)
theorem dL_law_1187 : decode cL_law 1187 = .ok (.iadd, 1) := dk_96 (ck1_s (r := 35) dT_cL_law_18 rfl dg_cL_law_116.2.2.2.2.2.1)
theorem dL_law_1188 : decode cL_law 1188 = .ok (.iaload, 1) := dk_46 (ck1_s (r := 36) dT_cL_law_18 rfl dg_cL_law_116.2.2.2.2.2.2.1)
theorem dL_law_1189 : decode cL_law 1189 = .ok (.aload_n 0, 1) := dk_42 (ck1_s (r := 37) dT_cL_law_18 rfl dg_cL_law_116.2.2.2.2.2.2.2)
theorem dg_cL_law_117 : ck1L dS_cL_law_18 38 29 = true ∧ ck1L dS_cL_law_18 39 5 = true ∧ ck1L dS_cL_law_18 40 96 = true ∧ ck1L dS_cL_law_18 41 46 = true ∧ ck3sL dS_cL_law_18 42 153 7 = true ∧ ck1L dS_cL_law_18 45 4 = true ∧ ck3sL dS_cL_law_18 46 167 4 = true ∧ ck1L dS_cL_law_18 49 3 = true := by decide +kernel
theorem dL_law_1190 : decode cL_law 1190 = .ok (.iload_n 3, 1) := dk_29 (ck1_s (r := 38) dT_cL_law_18 rfl dg_cL_law_117.1)
theorem dL_law_1191 : decode cL_law 1191 = .ok (.iconst 2, 1) := dk_5 (ck1_s (r := 39) dT_cL_law_18 rfl dg_cL_law_117.2.1)
theorem dL_law_1192 : decode cL_law 1192 = .ok (.iadd, 1) := dk_96 (ck1_s (r := 40) dT_cL_law_18 rfl dg_cL_law_117.2.2.1)
theorem dL_law_1193 : decode cL_law 1193 = .ok (.iaload, 1) := dk_46 (ck1_s (r := 41) dT_cL_law_18 rfl dg_cL_law_117.2.2.2.1)
theorem dL_law_1194 : decode cL_law 1194 = .ok (.ifCond .eq 7, 3) := dk_153 (ck3s_s (r := 42) dT_cL_law_18 rfl dg_cL_law_117.2.2.2.2.1)
theorem dL_law_1197 : decode cL_law 1197 = .ok (.iconst 1, 1) := dk_4 (ck1_s (r := 45) dT_cL_law_18 rfl dg_cL_law_117.2.2.2.2.2.1)
theorem dL_law_1198 : decode cL_law 1198 = .ok (.goto 4, 3) := dk_167 (ck3s_s (r := 46) dT_cL_law_18 rfl dg_cL_law_117.2.2.2.2.2.2.1)
theorem dL_law_1201 : decode cL_law 1201 = .ok (.iconst 0, 1) := dk_3 (ck1_s (r := 49) dT_cL_law_18 rfl dg_cL_law_117.2.2.2.2.2.2.2)
theorem dg_cL_law_118 : ck3L dS_cL_law_18 50 182 175 = true ∧ ck1L dS_cL_law_18 53 87 = true ∧ ck3sL dS_cL_law_18 54 167 207 = true ∧ ck1L dS_cL_law_18 57 43 = true ∧ ck1L dS_cL_law_18 58 42 = true ∧ ck1L dS_cL_law_18 59 29 = true ∧ ck1L dS_cL_law_18 60 4 = true ∧ ck1L dS_cL_law_18 61 96 = true := by decide +kernel
theorem dL_law_1202 : decode cL_law 1202 = .ok (.invokevirtual 175, 3) := dk_182 (ck3_s (r := 50) dT_cL_law_18 rfl dg_cL_law_118.1)
theorem dL_law_1205 : decode cL_law 1205 = .ok (.pop, 1) := dk_87 (ck1_s (r := 53) dT_cL_law_18 rfl dg_cL_law_118.2.1)
theorem dL_law_1206 : decode cL_law 1206 = .ok (.goto 207, 3) := dk_167 (ck3s_s (r := 54) dT_cL_law_18 rfl dg_cL_law_118.2.2.1)
theorem dL_law_1209 : decode cL_law 1209 = .ok (.aload_n 1, 1) := dk_43 (ck1_s (r := 57) dT_cL_law_18 rfl dg_cL_law_118.2.2.2.1)
theorem dL_law_1210 : decode cL_law 1210 = .ok (.aload_n 0, 1) := dk_42 (ck1_s (r := 58) dT_cL_law_18 rfl dg_cL_law_118.2.2.2.2.1)
theorem dL_law_1211 : decode cL_law 1211 = .ok (.iload_n 3, 1) := dk_29 (ck1_s (r := 59) dT_cL_law_18 rfl dg_cL_law_118.2.2.2.2.2.1)
theorem dL_law_1212 : decode cL_law 1212 = .ok (.iconst 1, 1) := dk_4 (ck1_s (r := 60) dT_cL_law_18 rfl dg_cL_law_118.2.2.2.2.2.2.1)
theorem dL_law_1213 : decode cL_law 1213 = .ok (.iadd, 1) := dk_96 (ck1_s (r := 61) dT_cL_law_18 rfl dg_cL_law_118.2.2.2.2.2.2.2)
theorem dg_cL_law_119 : ck1L dS_cL_law_18 62 46 = true ∧ ck3L dS_cL_law_18 63 182 176 = true ∧ ck1L dS_cL_law_19 2 87 = true ∧ ck1L dS_cL_law_19 3 44 = true ∧ ck1L dS_cL_law_19 4 42 = true ∧ ck1L dS_cL_law_19 5 29 = true ∧ ck1L dS_cL_law_19 6 4 = true ∧ ck1L dS_cL_law_19 7 96 = true := by decide +kernel
theorem dL_law_1214 : decode cL_law 1214 = .ok (.iaload, 1) := dk_46 (ck1_s (r := 62) dT_cL_law_18 rfl dg_cL_law_119.1)
theorem dL_law_1215 : decode cL_law 1215 = .ok (.invokevirtual 176, 3) := dk_182 (ck3_s (r := 63) dT_cL_law_18 rfl dg_cL_law_119.2.1)
theorem dL_law_1218 : decode cL_law 1218 = .ok (.pop, 1) := dk_87 (ck1_s (r := 2) dT_cL_law_19 rfl dg_cL_law_119.2.2.1)
theorem dL_law_1219 : decode cL_law 1219 = .ok (.aload_n 2, 1) := dk_44 (ck1_s (r := 3) dT_cL_law_19 rfl dg_cL_law_119.2.2.2.1)
theorem dL_law_1220 : decode cL_law 1220 = .ok (.aload_n 0, 1) := dk_42 (ck1_s (r := 4) dT_cL_law_19 rfl dg_cL_law_119.2.2.2.2.1)
theorem dL_law_1221 : decode cL_law 1221 = .ok (.iload_n 3, 1) := dk_29 (ck1_s (r := 5) dT_cL_law_19 rfl dg_cL_law_119.2.2.2.2.2.1)
theorem dL_law_1222 : decode cL_law 1222 = .ok (.iconst 1, 1) := dk_4 (ck1_s (r := 6) dT_cL_law_19 rfl dg_cL_law_119.2.2.2.2.2.2.1)
theorem dL_law_1223 : decode cL_law 1223 = .ok (.iadd, 1) := dk_96 (ck1_s (r := 7) dT_cL_law_19 rfl dg_cL_law_119.2.2.2.2.2.2.2)
theorem dg_cL_law_120 : ck1L dS_cL_law_19 8 46 = true ∧ ck3L dS_cL_law_19 9 182 180 = true ∧ ck1L dS_cL_law_19 12 87 = true ∧ ck3sL dS_cL_law_19 13 167 184 = true ∧ ck1L dS_cL_law_19 16 43 = true ∧ ck1L dS_cL_law_19 17 42 = true ∧ ck1L dS_cL_law_19 18 29 = true ∧ ck1L dS_cL_law_19 19 4 = true := by decide +kernel
theorem dL_law_1224 : decode cL_law 1224 = .ok (.iaload, 1) := dk_46 (ck1_s (r := 8) dT_cL_law_19 rfl dg_cL_law_120.1)
theorem dL_law_1225 : decode cL_law 1225 = .ok (.invokevirtual 180, 3) := dk_182 (ck3_s (r := 9) dT_cL_law_19 rfl dg_cL_law_120.2.1)
theorem dL_law_1228 : decode cL_law 1228 = .ok (.pop, 1) := dk_87 (ck1_s (r := 12) dT_cL_law_19 rfl dg_cL_law_120.2.2.1)
theorem dL_law_1229 : decode cL_law 1229 = .ok (.goto 184, 3) := dk_167 (ck3s_s (r := 13) dT_cL_law_19 rfl dg_cL_law_120.2.2.2.1)
theorem dL_law_1232 : decode cL_law 1232 = .ok (.aload_n 1, 1) := dk_43 (ck1_s (r := 16) dT_cL_law_19 rfl dg_cL_law_120.2.2.2.2.1)
theorem dL_law_1233 : decode cL_law 1233 = .ok (.aload_n 0, 1) := dk_42 (ck1_s (r := 17) dT_cL_law_19 rfl dg_cL_law_120.2.2.2.2.2.1)
theorem dL_law_1234 : decode cL_law 1234 = .ok (.iload_n 3, 1) := dk_29 (ck1_s (r := 18) dT_cL_law_19 rfl dg_cL_law_120.2.2.2.2.2.2.1)
theorem dL_law_1235 : decode cL_law 1235 = .ok (.iconst 1, 1) := dk_4 (ck1_s (r := 19) dT_cL_law_19 rfl dg_cL_law_120.2.2.2.2.2.2.2)
theorem dg_cL_law_121 : ck1L dS_cL_law_19 20 96 = true ∧ ck1L dS_cL_law_19 21 46 = true ∧ ck3L dS_cL_law_19 22 182 181 = true ∧ ck1L dS_cL_law_19 25 87 = true ∧ ck1L dS_cL_law_19 26 44 = true ∧ ck1L dS_cL_law_19 27 42 = true ∧ ck1L dS_cL_law_19 28 29 = true ∧ ck1L dS_cL_law_19 29 4 = true := by decide +kernel
theorem dL_law_1236 : decode cL_law 1236 = .ok (.iadd, 1) := dk_96 (ck1_s (r := 20) dT_cL_law_19 rfl dg_cL_law_121.1)
theorem dL_law_1237 : decode cL_law 1237 = .ok (.iaload, 1) := dk_46 (ck1_s (r := 21) dT_cL_law_19 rfl dg_cL_law_121.2.1)
theorem dL_law_1238 : decode cL_law 1238 = .ok (.invokevirtual 181, 3) := dk_182 (ck3_s (r := 22) dT_cL_law_19 rfl dg_cL_law_121.2.2.1)
theorem dL_law_1241 : decode cL_law 1241 = .ok (.pop, 1) := dk_87 (ck1_s (r := 25) dT_cL_law_19 rfl dg_cL_law_121.2.2.2.1)
theorem dL_law_1242 : decode cL_law 1242 = .ok (.aload_n 2, 1) := dk_44 (ck1_s (r := 26) dT_cL_law_19 rfl dg_cL_law_121.2.2.2.2.1)
theorem dL_law_1243 : decode cL_law 1243 = .ok (.aload_n 0, 1) := dk_42 (ck1_s (r := 27) dT_cL_law_19 rfl dg_cL_law_121.2.2.2.2.2.1)
theorem dL_law_1244 : decode cL_law 1244 = .ok (.iload_n 3, 1) := dk_29 (ck1_s (r := 28) dT_cL_law_19 rfl dg_cL_law_121.2.2.2.2.2.2.1)
theorem dL_law_1245 : decode cL_law 1245 = .ok (.iconst 1, 1) := dk_4 (ck1_s (r := 29) dT_cL_law_19 rfl dg_cL_law_121.2.2.2.2.2.2.2)
theorem dg_cL_law_122 : ck1L dS_cL_law_19 30 96 = true ∧ ck1L dS_cL_law_19 31 46 = true ∧ ck3L dS_cL_law_19 32 182 184 = true ∧ ck1L dS_cL_law_19 35 87 = true ∧ ck3sL dS_cL_law_19 36 167 161 = true ∧ ck1L dS_cL_law_19 39 43 = true ∧ ck1L dS_cL_law_19 40 42 = true ∧ ck1L dS_cL_law_19 41 29 = true := by decide +kernel
theorem dL_law_1246 : decode cL_law 1246 = .ok (.iadd, 1) := dk_96 (ck1_s (r := 30) dT_cL_law_19 rfl dg_cL_law_122.1)
theorem dL_law_1247 : decode cL_law 1247 = .ok (.iaload, 1) := dk_46 (ck1_s (r := 31) dT_cL_law_19 rfl dg_cL_law_122.2.1)
theorem dL_law_1248 : decode cL_law 1248 = .ok (.invokevirtual 184, 3) := dk_182 (ck3_s (r := 32) dT_cL_law_19 rfl dg_cL_law_122.2.2.1)
theorem dL_law_1251 : decode cL_law 1251 = .ok (.pop, 1) := dk_87 (ck1_s (r := 35) dT_cL_law_19 rfl dg_cL_law_122.2.2.2.1)
theorem dL_law_1252 : decode cL_law 1252 = .ok (.goto 161, 3) := dk_167 (ck3s_s (r := 36) dT_cL_law_19 rfl dg_cL_law_122.2.2.2.2.1)
theorem dL_law_1255 : decode cL_law 1255 = .ok (.aload_n 1, 1) := dk_43 (ck1_s (r := 39) dT_cL_law_19 rfl dg_cL_law_122.2.2.2.2.2.1)
theorem dL_law_1256 : decode cL_law 1256 = .ok (.aload_n 0, 1) := dk_42 (ck1_s (r := 40) dT_cL_law_19 rfl dg_cL_law_122.2.2.2.2.2.2.1)
theorem dL_law_1257 : decode cL_law 1257 = .ok (.iload_n 3, 1) := dk_29 (ck1_s (r := 41) dT_cL_law_19 rfl dg_cL_law_122.2.2.2.2.2.2.2)
theorem dg_cL_law_123 : ck1L dS_cL_law_19 42 4 = true ∧ ck1L dS_cL_law_19 43 96 = true ∧ ck1L dS_cL_law_19 44 46 = true ∧ ck3L dS_cL_law_19 45 182 185 = true ∧ ck1L dS_cL_law_19 48 87 = true ∧ ck1L dS_cL_law_19 49 44 = true ∧ ck1L dS_cL_law_19 50 42 = true ∧ ck1L dS_cL_law_19 51 29 = true := by decide +kernel
theorem dL_law_1258 : decode cL_law 1258 = .ok (.iconst 1, 1) := dk_4 (ck1_s (r := 42) dT_cL_law_19 rfl dg_cL_law_123.1)
theorem dL_law_1259 : decode cL_law 1259 = .ok (.iadd, 1) := dk_96 (ck1_s (r := 43) dT_cL_law_19 rfl dg_cL_law_123.2.1)
theorem dL_law_1260 : decode cL_law 1260 = .ok (.iaload, 1) := dk_46 (ck1_s (r := 44) dT_cL_law_19 rfl dg_cL_law_123.2.2.1)
theorem dL_law_1261 : decode cL_law 1261 = .ok (.invokevirtual 185, 3) := dk_182 (ck3_s (r := 45) dT_cL_law_19 rfl dg_cL_law_123.2.2.2.1)
theorem dL_law_1264 : decode cL_law 1264 = .ok (.pop, 1) := dk_87 (ck1_s (r := 48) dT_cL_law_19 rfl dg_cL_law_123.2.2.2.2.1)
theorem dL_law_1265 : decode cL_law 1265 = .ok (.aload_n 2, 1) := dk_44 (ck1_s (r := 49) dT_cL_law_19 rfl dg_cL_law_123.2.2.2.2.2.1)
theorem dL_law_1266 : decode cL_law 1266 = .ok (.aload_n 0, 1) := dk_42 (ck1_s (r := 50) dT_cL_law_19 rfl dg_cL_law_123.2.2.2.2.2.2.1)
theorem dL_law_1267 : decode cL_law 1267 = .ok (.iload_n 3, 1) := dk_29 (ck1_s (r := 51) dT_cL_law_19 rfl dg_cL_law_123.2.2.2.2.2.2.2)
theorem dg_cL_law_124 : ck1L dS_cL_law_19 52 4 = true ∧ ck1L dS_cL_law_19 53 96 = true ∧ ck1L dS_cL_law_19 54 46 = true ∧ ck3L dS_cL_law_19 55 182 188 = true ∧ ck1L dS_cL_law_19 58 87 = true ∧ ck3sL dS_cL_law_19 59 167 138 = true ∧ ck1L dS_cL_law_19 62 43 = true ∧ ck1L dS_cL_law_19 63 42 = true := by decide +kernel
theorem dL_law_1268 : decode cL_law 1268 = .ok (.iconst 1, 1) := dk_4 (ck1_s (r := 52) dT_cL_law_19 rfl dg_cL_law_124.1)
theorem dL_law_1269 : decode cL_law 1269 = .ok (.iadd, 1) := dk_96 (ck1_s (r := 53) dT_cL_law_19 rfl dg_cL_law_124.2.1)
theorem dL_law_1270 : decode cL_law 1270 = .ok (.iaload, 1) := dk_46 (ck1_s (r := 54) dT_cL_law_19 rfl dg_cL_law_124.2.2.1)
theorem dL_law_1271 : decode cL_law 1271 = .ok (.invokevirtual 188, 3) := dk_182 (ck3_s (r := 55) dT_cL_law_19 rfl dg_cL_law_124.2.2.2.1)
theorem dL_law_1274 : decode cL_law 1274 = .ok (.pop, 1) := dk_87 (ck1_s (r := 58) dT_cL_law_19 rfl dg_cL_law_124.2.2.2.2.1)
theorem dL_law_1275 : decode cL_law 1275 = .ok (.goto 138, 3) := dk_167 (ck3s_s (r := 59) dT_cL_law_19 rfl dg_cL_law_124.2.2.2.2.2.1)
theorem dL_law_1278 : decode cL_law 1278 = .ok (.aload_n 1, 1) := dk_43 (ck1_s (r := 62) dT_cL_law_19 rfl dg_cL_law_124.2.2.2.2.2.2.1)
theorem dL_law_1279 : decode cL_law 1279 = .ok (.aload_n 0, 1) := dk_42 (ck1_s (r := 63) dT_cL_law_19 rfl dg_cL_law_124.2.2.2.2.2.2.2)
theorem dg_cL_law_125 : ck1L dS_cL_law_20 0 29 = true ∧ ck1L dS_cL_law_20 1 4 = true ∧ ck1L dS_cL_law_20 2 96 = true ∧ ck1L dS_cL_law_20 3 46 = true ∧ ck1L dS_cL_law_20 4 42 = true ∧ ck1L dS_cL_law_20 5 29 = true ∧ ck1L dS_cL_law_20 6 5 = true ∧ ck1L dS_cL_law_20 7 96 = true := by decide +kernel
theorem dL_law_1280 : decode cL_law 1280 = .ok (.iload_n 3, 1) := dk_29 (ck1_s (r := 0) dT_cL_law_20 rfl dg_cL_law_125.1)
theorem dL_law_1281 : decode cL_law 1281 = .ok (.iconst 1, 1) := dk_4 (ck1_s (r := 1) dT_cL_law_20 rfl dg_cL_law_125.2.1)
theorem dL_law_1282 : decode cL_law 1282 = .ok (.iadd, 1) := dk_96 (ck1_s (r := 2) dT_cL_law_20 rfl dg_cL_law_125.2.2.1)
theorem dL_law_1283 : decode cL_law 1283 = .ok (.iaload, 1) := dk_46 (ck1_s (r := 3) dT_cL_law_20 rfl dg_cL_law_125.2.2.2.1)
theorem dL_law_1284 : decode cL_law 1284 = .ok (.aload_n 0, 1) := dk_42 (ck1_s (r := 4) dT_cL_law_20 rfl dg_cL_law_125.2.2.2.2.1)
theorem dL_law_1285 : decode cL_law 1285 = .ok (.iload_n 3, 1) := dk_29 (ck1_s (r := 5) dT_cL_law_20 rfl dg_cL_law_125.2.2.2.2.2.1)
theorem dL_law_1286 : decode cL_law 1286 = .ok (.iconst 2, 1) := dk_5 (ck1_s (r := 6) dT_cL_law_20 rfl dg_cL_law_125.2.2.2.2.2.2.1)
theorem dL_law_1287 : decode cL_law 1287 = .ok (.iadd, 1) := dk_96 (ck1_s (r := 7) dT_cL_law_20 rfl dg_cL_law_125.2.2.2.2.2.2.2)
theorem dg_cL_law_126 : ck1L dS_cL_law_20 8 46 = true ∧ ck3L dS_cL_law_20 9 182 189 = true ∧ ck1L dS_cL_law_20 12 87 = true ∧ ck1L dS_cL_law_20 13 44 = true ∧ ck1L dS_cL_law_20 14 42 = true ∧ ck1L dS_cL_law_20 15 29 = true ∧ ck1L dS_cL_law_20 16 4 = true ∧ ck1L dS_cL_law_20 17 96 = true := by decide +kernel
theorem dL_law_1288 : decode cL_law 1288 = .ok (.iaload, 1) := dk_46 (ck1_s (r := 8) dT_cL_law_20 rfl dg_cL_law_126.1)
theorem dL_law_1289 : decode cL_law 1289 = .ok (.invokevirtual 189, 3) := dk_182 (ck3_s (r := 9) dT_cL_law_20 rfl dg_cL_law_126.2.1)
theorem dL_law_1292 : decode cL_law 1292 = .ok (.pop, 1) := dk_87 (ck1_s (r := 12) dT_cL_law_20 rfl dg_cL_law_126.2.2.1)
theorem dL_law_1293 : decode cL_law 1293 = .ok (.aload_n 2, 1) := dk_44 (ck1_s (r := 13) dT_cL_law_20 rfl dg_cL_law_126.2.2.2.1)
theorem dL_law_1294 : decode cL_law 1294 = .ok (.aload_n 0, 1) := dk_42 (ck1_s (r := 14) dT_cL_law_20 rfl dg_cL_law_126.2.2.2.2.1)
theorem dL_law_1295 : decode cL_law 1295 = .ok (.iload_n 3, 1) := dk_29 (ck1_s (r := 15) dT_cL_law_20 rfl dg_cL_law_126.2.2.2.2.2.1)
theorem dL_law_1296 : decode cL_law 1296 = .ok (.iconst 1, 1) := dk_4 (ck1_s (r := 16) dT_cL_law_20 rfl dg_cL_law_126.2.2.2.2.2.2.1)
theorem dL_law_1297 : decode cL_law 1297 = .ok (.iadd, 1) := dk_96 (ck1_s (r := 17) dT_cL_law_20 rfl dg_cL_law_126.2.2.2.2.2.2.2)
theorem dg_cL_law_127 : ck1L dS_cL_law_20 18 46 = true ∧ ck1L dS_cL_law_20 19 42 = true ∧ ck1L dS_cL_law_20 20 29 = true ∧ ck1L dS_cL_law_20 21 5 = true ∧ ck1L dS_cL_law_20 22 96 = true ∧ ck1L dS_cL_law_20 23 46 = true ∧ ck3L dS_cL_law_20 24 182 192 = true ∧ ck1L dS_cL_law_20 27 87 = true := by decide +kernel
theorem dL_law_1298 : decode cL_law 1298 = .ok (.iaload, 1) := dk_46 (ck1_s (r := 18) dT_cL_law_20 rfl dg_cL_law_127.1)
theorem dL_law_1299 : decode cL_law 1299 = .ok (.aload_n 0, 1) := dk_42 (ck1_s (r := 19) dT_cL_law_20 rfl dg_cL_law_127.2.1)
theorem dL_law_1300 : decode cL_law 1300 = .ok (.iload_n 3, 1) := dk_29 (ck1_s (r := 20) dT_cL_law_20 rfl dg_cL_law_127.2.2.1)
theorem dL_law_1301 : decode cL_law 1301 = .ok (.iconst 2, 1) := dk_5 (ck1_s (r := 21) dT_cL_law_20 rfl dg_cL_law_127.2.2.2.1)
theorem dL_law_1302 : decode cL_law 1302 = .ok (.iadd, 1) := dk_96 (ck1_s (r := 22) dT_cL_law_20 rfl dg_cL_law_127.2.2.2.2.1)
theorem dL_law_1303 : decode cL_law 1303 = .ok (.iaload, 1) := dk_46 (ck1_s (r := 23) dT_cL_law_20 rfl dg_cL_law_127.2.2.2.2.2.1)
theorem dL_law_1304 : decode cL_law 1304 = .ok (.invokevirtual 192, 3) := dk_182 (ck3_s (r := 24) dT_cL_law_20 rfl dg_cL_law_127.2.2.2.2.2.2.1)
theorem dL_law_1307 : decode cL_law 1307 = .ok (.pop, 1) := dk_87 (ck1_s (r := 27) dT_cL_law_20 rfl dg_cL_law_127.2.2.2.2.2.2.2)
theorem dg_cL_law_128 : ck3sL dS_cL_law_20 28 167 105 = true ∧ ck1L dS_cL_law_20 31 43 = true ∧ ck1L dS_cL_law_20 32 42 = true ∧ ck1L dS_cL_law_20 33 29 = true ∧ ck1L dS_cL_law_20 34 4 = true ∧ ck1L dS_cL_law_20 35 96 = true ∧ ck1L dS_cL_law_20 36 46 = true ∧ ck1L dS_cL_law_20 37 42 = true := by decide +kernel
theorem dL_law_1308 : decode cL_law 1308 = .ok (.goto 105, 3) := dk_167 (ck3s_s (r := 28) dT_cL_law_20 rfl dg_cL_law_128.1)
theorem dL_law_1311 : decode cL_law 1311 = .ok (.aload_n 1, 1) := dk_43 (ck1_s (r := 31) dT_cL_law_20 rfl dg_cL_law_128.2.1)
theorem dL_law_1312 : decode cL_law 1312 = .ok (.aload_n 0, 1) := dk_42 (ck1_s (r := 32) dT_cL_law_20 rfl dg_cL_law_128.2.2.1)
theorem dL_law_1313 : decode cL_law 1313 = .ok (.iload_n 3, 1) := dk_29 (ck1_s (r := 33) dT_cL_law_20 rfl dg_cL_law_128.2.2.2.1)
theorem dL_law_1314 : decode cL_law 1314 = .ok (.iconst 1, 1) := dk_4 (ck1_s (r := 34) dT_cL_law_20 rfl dg_cL_law_128.2.2.2.2.1)
theorem dL_law_1315 : decode cL_law 1315 = .ok (.iadd, 1) := dk_96 (ck1_s (r := 35) dT_cL_law_20 rfl dg_cL_law_128.2.2.2.2.2.1)
theorem dL_law_1316 : decode cL_law 1316 = .ok (.iaload, 1) := dk_46 (ck1_s (r := 36) dT_cL_law_20 rfl dg_cL_law_128.2.2.2.2.2.2.1)
theorem dL_law_1317 : decode cL_law 1317 = .ok (.aload_n 0, 1) := dk_42 (ck1_s (r := 37) dT_cL_law_20 rfl dg_cL_law_128.2.2.2.2.2.2.2)
theorem dg_cL_law_129 : ck1L dS_cL_law_20 38 29 = true ∧ ck1L dS_cL_law_20 39 5 = true ∧ ck1L dS_cL_law_20 40 96 = true ∧ ck1L dS_cL_law_20 41 46 = true ∧ ck3L dS_cL_law_20 42 182 193 = true ∧ ck1L dS_cL_law_20 45 87 = true ∧ ck1L dS_cL_law_20 46 44 = true ∧ ck1L dS_cL_law_20 47 42 = true := by decide +kernel
theorem dL_law_1318 : decode cL_law 1318 = .ok (.iload_n 3, 1) := dk_29 (ck1_s (r := 38) dT_cL_law_20 rfl dg_cL_law_129.1)
theorem dL_law_1319 : decode cL_law 1319 = .ok (.iconst 2, 1) := dk_5 (ck1_s (r := 39) dT_cL_law_20 rfl dg_cL_law_129.2.1)
theorem dL_law_1320 : decode cL_law 1320 = .ok (.iadd, 1) := dk_96 (ck1_s (r := 40) dT_cL_law_20 rfl dg_cL_law_129.2.2.1)
theorem dL_law_1321 : decode cL_law 1321 = .ok (.iaload, 1) := dk_46 (ck1_s (r := 41) dT_cL_law_20 rfl dg_cL_law_129.2.2.2.1)
theorem dL_law_1322 : decode cL_law 1322 = .ok (.invokevirtual 193, 3) := dk_182 (ck3_s (r := 42) dT_cL_law_20 rfl dg_cL_law_129.2.2.2.2.1)
theorem dL_law_1325 : decode cL_law 1325 = .ok (.pop, 1) := dk_87 (ck1_s (r := 45) dT_cL_law_20 rfl dg_cL_law_129.2.2.2.2.2.1)
theorem dL_law_1326 : decode cL_law 1326 = .ok (.aload_n 2, 1) := dk_44 (ck1_s (r := 46) dT_cL_law_20 rfl dg_cL_law_129.2.2.2.2.2.2.1)
theorem dL_law_1327 : decode cL_law 1327 = .ok (.aload_n 0, 1) := dk_42 (ck1_s (r := 47) dT_cL_law_20 rfl dg_cL_law_129.2.2.2.2.2.2.2)
theorem dg_cL_law_130 : ck1L dS_cL_law_20 48 29 = true ∧ ck1L dS_cL_law_20 49 4 = true ∧ ck1L dS_cL_law_20 50 96 = true ∧ ck1L dS_cL_law_20 51 46 = true ∧ ck1L dS_cL_law_20 52 42 = true ∧ ck1L dS_cL_law_20 53 29 = true ∧ ck1L dS_cL_law_20 54 5 = true ∧ ck1L dS_cL_law_20 55 96 = true := by decide +kernel
theorem dL_law_1328 : decode cL_law 1328 = .ok (.iload_n 3, 1) := dk_29 (ck1_s (r := 48) dT_cL_law_20 rfl dg_cL_law_130.1)
theorem dL_law_1329 : decode cL_law 1329 = .ok (.iconst 1, 1) := dk_4 (ck1_s (r := 49) dT_cL_law_20 rfl dg_cL_law_130.2.1)
theorem dL_law_1330 : decode cL_law 1330 = .ok (.iadd, 1) := dk_96 (ck1_s (r := 50) dT_cL_law_20 rfl dg_cL_law_130.2.2.1)
theorem dL_law_1331 : decode cL_law 1331 = .ok (.iaload, 1) := dk_46 (ck1_s (r := 51) dT_cL_law_20 rfl dg_cL_law_130.2.2.2.1)
theorem dL_law_1332 : decode cL_law 1332 = .ok (.aload_n 0, 1) := dk_42 (ck1_s (r := 52) dT_cL_law_20 rfl dg_cL_law_130.2.2.2.2.1)
theorem dL_law_1333 : decode cL_law 1333 = .ok (.iload_n 3, 1) := dk_29 (ck1_s (r := 53) dT_cL_law_20 rfl dg_cL_law_130.2.2.2.2.2.1)
theorem dL_law_1334 : decode cL_law 1334 = .ok (.iconst 2, 1) := dk_5 (ck1_s (r := 54) dT_cL_law_20 rfl dg_cL_law_130.2.2.2.2.2.2.1)
theorem dL_law_1335 : decode cL_law 1335 = .ok (.iadd, 1) := dk_96 (ck1_s (r := 55) dT_cL_law_20 rfl dg_cL_law_130.2.2.2.2.2.2.2)
theorem dg_cL_law_131 : ck1L dS_cL_law_20 56 46 = true ∧ ck3L dS_cL_law_20 57 182 196 = true ∧ ck1L dS_cL_law_20 60 87 = true ∧ ck3sL dS_cL_law_20 61 167 72 = true ∧ ck1L dS_cL_law_21 0 43 = true ∧ ck1L dS_cL_law_21 1 42 = true ∧ ck1L dS_cL_law_21 2 29 = true ∧ ck1L dS_cL_law_21 3 4 = true := by decide +kernel
theorem dL_law_1336 : decode cL_law 1336 = .ok (.iaload, 1) := dk_46 (ck1_s (r := 56) dT_cL_law_20 rfl dg_cL_law_131.1)
theorem dL_law_1337 : decode cL_law 1337 = .ok (.invokevirtual 196, 3) := dk_182 (ck3_s (r := 57) dT_cL_law_20 rfl dg_cL_law_131.2.1)
theorem dL_law_1340 : decode cL_law 1340 = .ok (.pop, 1) := dk_87 (ck1_s (r := 60) dT_cL_law_20 rfl dg_cL_law_131.2.2.1)
theorem dL_law_1341 : decode cL_law 1341 = .ok (.goto 72, 3) := dk_167 (ck3s_s (r := 61) dT_cL_law_20 rfl dg_cL_law_131.2.2.2.1)
theorem dL_law_1344 : decode cL_law 1344 = .ok (.aload_n 1, 1) := dk_43 (ck1_s (r := 0) dT_cL_law_21 rfl dg_cL_law_131.2.2.2.2.1)
theorem dL_law_1345 : decode cL_law 1345 = .ok (.aload_n 0, 1) := dk_42 (ck1_s (r := 1) dT_cL_law_21 rfl dg_cL_law_131.2.2.2.2.2.1)
theorem dL_law_1346 : decode cL_law 1346 = .ok (.iload_n 3, 1) := dk_29 (ck1_s (r := 2) dT_cL_law_21 rfl dg_cL_law_131.2.2.2.2.2.2.1)
theorem dL_law_1347 : decode cL_law 1347 = .ok (.iconst 1, 1) := dk_4 (ck1_s (r := 3) dT_cL_law_21 rfl dg_cL_law_131.2.2.2.2.2.2.2)
theorem dg_cL_law_132 : ck1L dS_cL_law_21 4 96 = true ∧ ck1L dS_cL_law_21 5 46 = true ∧ ck3L dS_cL_law_21 6 182 197 = true ∧ ck1L dS_cL_law_21 9 87 = true ∧ ck1L dS_cL_law_21 10 44 = true ∧ ck1L dS_cL_law_21 11 42 = true ∧ ck1L dS_cL_law_21 12 29 = true ∧ ck1L dS_cL_law_21 13 4 = true := by decide +kernel
theorem dL_law_1348 : decode cL_law 1348 = .ok (.iadd, 1) := dk_96 (ck1_s (r := 4) dT_cL_law_21 rfl dg_cL_law_132.1)
theorem dL_law_1349 : decode cL_law 1349 = .ok (.iaload, 1) := dk_46 (ck1_s (r := 5) dT_cL_law_21 rfl dg_cL_law_132.2.1)
theorem dL_law_1350 : decode cL_law 1350 = .ok (.invokevirtual 197, 3) := dk_182 (ck3_s (r := 6) dT_cL_law_21 rfl dg_cL_law_132.2.2.1)
theorem dL_law_1353 : decode cL_law 1353 = .ok (.pop, 1) := dk_87 (ck1_s (r := 9) dT_cL_law_21 rfl dg_cL_law_132.2.2.2.1)
theorem dL_law_1354 : decode cL_law 1354 = .ok (.aload_n 2, 1) := dk_44 (ck1_s (r := 10) dT_cL_law_21 rfl dg_cL_law_132.2.2.2.2.1)
theorem dL_law_1355 : decode cL_law 1355 = .ok (.aload_n 0, 1) := dk_42 (ck1_s (r := 11) dT_cL_law_21 rfl dg_cL_law_132.2.2.2.2.2.1)
theorem dL_law_1356 : decode cL_law 1356 = .ok (.iload_n 3, 1) := dk_29 (ck1_s (r := 12) dT_cL_law_21 rfl dg_cL_law_132.2.2.2.2.2.2.1)
theorem dL_law_1357 : decode cL_law 1357 = .ok (.iconst 1, 1) := dk_4 (ck1_s (r := 13) dT_cL_law_21 rfl dg_cL_law_132.2.2.2.2.2.2.2)
theorem dg_cL_law_133 : ck1L dS_cL_law_21 14 96 = true ∧ ck1L dS_cL_law_21 15 46 = true ∧ ck3L dS_cL_law_21 16 182 200 = true ∧ ck1L dS_cL_law_21 19 87 = true ∧ ck3sL dS_cL_law_21 20 167 49 = true ∧ ck1L dS_cL_law_21 23 43 = true ∧ ck1L dS_cL_law_21 24 42 = true ∧ ck1L dS_cL_law_21 25 29 = true := by decide +kernel
theorem dL_law_1358 : decode cL_law 1358 = .ok (.iadd, 1) := dk_96 (ck1_s (r := 14) dT_cL_law_21 rfl dg_cL_law_133.1)
theorem dL_law_1359 : decode cL_law 1359 = .ok (.iaload, 1) := dk_46 (ck1_s (r := 15) dT_cL_law_21 rfl dg_cL_law_133.2.1)
theorem dL_law_1360 : decode cL_law 1360 = .ok (.invokevirtual 200, 3) := dk_182 (ck3_s (r := 16) dT_cL_law_21 rfl dg_cL_law_133.2.2.1)
theorem dL_law_1363 : decode cL_law 1363 = .ok (.pop, 1) := dk_87 (ck1_s (r := 19) dT_cL_law_21 rfl dg_cL_law_133.2.2.2.1)
theorem dL_law_1364 : decode cL_law 1364 = .ok (.goto 49, 3) := dk_167 (ck3s_s (r := 20) dT_cL_law_21 rfl dg_cL_law_133.2.2.2.2.1)
theorem dL_law_1367 : decode cL_law 1367 = .ok (.aload_n 1, 1) := dk_43 (ck1_s (r := 23) dT_cL_law_21 rfl dg_cL_law_133.2.2.2.2.2.1)
theorem dL_law_1368 : decode cL_law 1368 = .ok (.aload_n 0, 1) := dk_42 (ck1_s (r := 24) dT_cL_law_21 rfl dg_cL_law_133.2.2.2.2.2.2.1)
theorem dL_law_1369 : decode cL_law 1369 = .ok (.iload_n 3, 1) := dk_29 (ck1_s (r := 25) dT_cL_law_21 rfl dg_cL_law_133.2.2.2.2.2.2.2)
theorem dg_cL_law_134 : ck1L dS_cL_law_21 26 4 = true ∧ ck1L dS_cL_law_21 27 96 = true ∧ ck1L dS_cL_law_21 28 46 = true ∧ ck3L dS_cL_law_21 29 182 201 = true ∧ ck1L dS_cL_law_21 32 87 = true ∧ ck1L dS_cL_law_21 33 44 = true ∧ ck1L dS_cL_law_21 34 42 = true ∧ ck1L dS_cL_law_21 35 29 = true := by decide +kernel
theorem dL_law_1370 : decode cL_law 1370 = .ok (.iconst 1, 1) := dk_4 (ck1_s (r := 26) dT_cL_law_21 rfl dg_cL_law_134.1)
theorem dL_law_1371 : decode cL_law 1371 = .ok (.iadd, 1) := dk_96 (ck1_s (r := 27) dT_cL_law_21 rfl dg_cL_law_134.2.1)
theorem dL_law_1372 : decode cL_law 1372 = .ok (.iaload, 1) := dk_46 (ck1_s (r := 28) dT_cL_law_21 rfl dg_cL_law_134.2.2.1)
theorem dL_law_1373 : decode cL_law 1373 = .ok (.invokevirtual 201, 3) := dk_182 (ck3_s (r := 29) dT_cL_law_21 rfl dg_cL_law_134.2.2.2.1)
theorem dL_law_1376 : decode cL_law 1376 = .ok (.pop, 1) := dk_87 (ck1_s (r := 32) dT_cL_law_21 rfl dg_cL_law_134.2.2.2.2.1)
theorem dL_law_1377 : decode cL_law 1377 = .ok (.aload_n 2, 1) := dk_44 (ck1_s (r := 33) dT_cL_law_21 rfl dg_cL_law_134.2.2.2.2.2.1)
theorem dL_law_1378 : decode cL_law 1378 = .ok (.aload_n 0, 1) := dk_42 (ck1_s (r := 34) dT_cL_law_21 rfl dg_cL_law_134.2.2.2.2.2.2.1)
theorem dL_law_1379 : decode cL_law 1379 = .ok (.iload_n 3, 1) := dk_29 (ck1_s (r := 35) dT_cL_law_21 rfl dg_cL_law_134.2.2.2.2.2.2.2)
theorem dg_cL_law_135 : ck1L dS_cL_law_21 36 4 = true ∧ ck1L dS_cL_law_21 37 96 = true ∧ ck1L dS_cL_law_21 38 46 = true ∧ ck3L dS_cL_law_21 39 182 204 = true ∧ ck1L dS_cL_law_21 42 87 = true ∧ ck3sL dS_cL_law_21 43 167 26 = true ∧ ck1L dS_cL_law_21 46 43 = true ∧ ck1L dS_cL_law_21 47 42 = true := by decide +kernel
theorem dL_law_1380 : decode cL_law 1380 = .ok (.iconst 1, 1) := dk_4 (ck1_s (r := 36) dT_cL_law_21 rfl dg_cL_law_135.1)
theorem dL_law_1381 : decode cL_law 1381 = .ok (.iadd, 1) := dk_96 (ck1_s (r := 37) dT_cL_law_21 rfl dg_cL_law_135.2.1)
theorem dL_law_1382 : decode cL_law 1382 = .ok (.iaload, 1) := dk_46 (ck1_s (r := 38) dT_cL_law_21 rfl dg_cL_law_135.2.2.1)
theorem dL_law_1383 : decode cL_law 1383 = .ok (.invokevirtual 204, 3) := dk_182 (ck3_s (r := 39) dT_cL_law_21 rfl dg_cL_law_135.2.2.2.1)
theorem dL_law_1386 : decode cL_law 1386 = .ok (.pop, 1) := dk_87 (ck1_s (r := 42) dT_cL_law_21 rfl dg_cL_law_135.2.2.2.2.1)
theorem dL_law_1387 : decode cL_law 1387 = .ok (.goto 26, 3) := dk_167 (ck3s_s (r := 43) dT_cL_law_21 rfl dg_cL_law_135.2.2.2.2.2.1)
theorem dL_law_1390 : decode cL_law 1390 = .ok (.aload_n 1, 1) := dk_43 (ck1_s (r := 46) dT_cL_law_21 rfl dg_cL_law_135.2.2.2.2.2.2.1)
theorem dL_law_1391 : decode cL_law 1391 = .ok (.aload_n 0, 1) := dk_42 (ck1_s (r := 47) dT_cL_law_21 rfl dg_cL_law_135.2.2.2.2.2.2.2)
theorem dg_cL_law_136 : ck1L dS_cL_law_21 48 29 = true ∧ ck1L dS_cL_law_21 49 4 = true ∧ ck1L dS_cL_law_21 50 96 = true ∧ ck1L dS_cL_law_21 51 46 = true ∧ ck3L dS_cL_law_21 52 182 205 = true ∧ ck1L dS_cL_law_21 55 87 = true ∧ ck1L dS_cL_law_21 56 44 = true ∧ ck1L dS_cL_law_21 57 42 = true := by decide +kernel
theorem dL_law_1392 : decode cL_law 1392 = .ok (.iload_n 3, 1) := dk_29 (ck1_s (r := 48) dT_cL_law_21 rfl dg_cL_law_136.1)
theorem dL_law_1393 : decode cL_law 1393 = .ok (.iconst 1, 1) := dk_4 (ck1_s (r := 49) dT_cL_law_21 rfl dg_cL_law_136.2.1)
theorem dL_law_1394 : decode cL_law 1394 = .ok (.iadd, 1) := dk_96 (ck1_s (r := 50) dT_cL_law_21 rfl dg_cL_law_136.2.2.1)
theorem dL_law_1395 : decode cL_law 1395 = .ok (.iaload, 1) := dk_46 (ck1_s (r := 51) dT_cL_law_21 rfl dg_cL_law_136.2.2.2.1)
theorem dL_law_1396 : decode cL_law 1396 = .ok (.invokevirtual 205, 3) := dk_182 (ck3_s (r := 52) dT_cL_law_21 rfl dg_cL_law_136.2.2.2.2.1)
theorem dL_law_1399 : decode cL_law 1399 = .ok (.pop, 1) := dk_87 (ck1_s (r := 55) dT_cL_law_21 rfl dg_cL_law_136.2.2.2.2.2.1)
theorem dL_law_1400 : decode cL_law 1400 = .ok (.aload_n 2, 1) := dk_44 (ck1_s (r := 56) dT_cL_law_21 rfl dg_cL_law_136.2.2.2.2.2.2.1)
theorem dL_law_1401 : decode cL_law 1401 = .ok (.aload_n 0, 1) := dk_42 (ck1_s (r := 57) dT_cL_law_21 rfl dg_cL_law_136.2.2.2.2.2.2.2)
theorem dg_cL_law_137 : ck1L dS_cL_law_21 58 29 = true ∧ ck1L dS_cL_law_21 59 4 = true ∧ ck1L dS_cL_law_21 60 96 = true ∧ ck1L dS_cL_law_21 61 46 = true ∧ ck3L dS_cL_law_21 62 182 208 = true ∧ ck1L dS_cL_law_22 1 87 = true ∧ ck3sL dS_cL_law_22 2 167 3 = true ∧ ck3iL dS_cL_law_22 5 132 3 6 = true := by decide +kernel
theorem dL_law_1402 : decode cL_law 1402 = .ok (.iload_n 3, 1) := dk_29 (ck1_s (r := 58) dT_cL_law_21 rfl dg_cL_law_137.1)
theorem dL_law_1403 : decode cL_law 1403 = .ok (.iconst 1, 1) := dk_4 (ck1_s (r := 59) dT_cL_law_21 rfl dg_cL_law_137.2.1)
theorem dL_law_1404 : decode cL_law 1404 = .ok (.iadd, 1) := dk_96 (ck1_s (r := 60) dT_cL_law_21 rfl dg_cL_law_137.2.2.1)
theorem dL_law_1405 : decode cL_law 1405 = .ok (.iaload, 1) := dk_46 (ck1_s (r := 61) dT_cL_law_21 rfl dg_cL_law_137.2.2.2.1)
theorem dL_law_1406 : decode cL_law 1406 = .ok (.invokevirtual 208, 3) := dk_182 (ck3_s (r := 62) dT_cL_law_21 rfl dg_cL_law_137.2.2.2.2.1)
theorem dL_law_1409 : decode cL_law 1409 = .ok (.pop, 1) := dk_87 (ck1_s (r := 1) dT_cL_law_22 rfl dg_cL_law_137.2.2.2.2.2.1)
theorem dL_law_1410 : decode cL_law 1410 = .ok (.goto 3, 3) := dk_167 (ck3s_s (r := 2) dT_cL_law_22 rfl dg_cL_law_137.2.2.2.2.2.2.1)
theorem dL_law_1413 : decode cL_law 1413 = .ok (.iinc 3 6, 3) := dk_132 (ck3i_s (r := 5) dT_cL_law_22 rfl dg_cL_law_137.2.2.2.2.2.2.2)
theorem dg_cL_law_138 : ck3sL dS_cL_law_22 8 167 (-1398) = true ∧ ck1L dS_cL_law_22 11 4 = true ∧ ck1L dS_cL_law_22 12 172 = true := by decide +kernel
theorem dL_law_1416 : decode cL_law 1416 = .ok (.goto (-1398), 3) := dk_167 (ck3s_s (r := 8) dT_cL_law_22 rfl dg_cL_law_138.1)
theorem dL_law_1419 : decode cL_law 1419 = .ok (.iconst 1, 1) := dk_4 (ck1_s (r := 11) dT_cL_law_22 rfl dg_cL_law_138.2.1)
theorem dL_law_1420 : decode cL_law 1420 = .ok (.ireturn, 1) := dk_172 (ck1_s (r := 12) dT_cL_law_22 rfl dg_cL_law_138.2.2)
theorem dg_cX0_clear_139 : ck1 cX0_clear 0 42 = true ∧ ck1 cX0_clear 1 3 = true ∧ ck3 cX0_clear 2 181 29 = true ∧ ck1 cX0_clear 5 177 = true := by decide +kernel
theorem dX0_clear_0 : decode cX0_clear 0 = .ok (.aload_n 0, 1) := dk_42 dg_cX0_clear_139.1
theorem dX0_clear_1 : decode cX0_clear 1 = .ok (.iconst 0, 1) := dk_3 dg_cX0_clear_139.2.1
theorem dX0_clear_2 : decode cX0_clear 2 = .ok (.putfield 29, 3) := dk_181 dg_cX0_clear_139.2.2.1
theorem dX0_clear_5 : decode cX0_clear 5 = .ok (.return_, 1) := dk_177 dg_cX0_clear_139.2.2.2
theorem dg_cX0_firstBest_140 : ck1 cX0_firstBest 0 3 = true ∧ ck1 cX0_firstBest 1 62 = true ∧ ck1 cX0_firstBest 2 29 = true ∧ ck1 cX0_firstBest 3 42 = true ∧ ck3 cX0_firstBest 4 180 21 = true ∧ ck3 cX0_firstBest 7 180 66 = true ∧ ck3s cX0_firstBest 10 162 32 = true ∧ ck1 cX0_firstBest 13 42 = true := by decide +kernel
theorem dX0_firstBest_0 : decode cX0_firstBest 0 = .ok (.iconst 0, 1) := dk_3 dg_cX0_firstBest_140.1
theorem dX0_firstBest_1 : decode cX0_firstBest 1 = .ok (.istore_n 3, 1) := dk_62 dg_cX0_firstBest_140.2.1
theorem dX0_firstBest_2 : decode cX0_firstBest 2 = .ok (.iload_n 3, 1) := dk_29 dg_cX0_firstBest_140.2.2.1
theorem dX0_firstBest_3 : decode cX0_firstBest 3 = .ok (.aload_n 0, 1) := dk_42 dg_cX0_firstBest_140.2.2.2.1
theorem dX0_firstBest_4 : decode cX0_firstBest 4 = .ok (.getfield 21, 3) := dk_180 dg_cX0_firstBest_140.2.2.2.2.1
theorem dX0_firstBest_7 : decode cX0_firstBest 7 = .ok (.getfield 66, 3) := dk_180 dg_cX0_firstBest_140.2.2.2.2.2.1
theorem dX0_firstBest_10 : decode cX0_firstBest 10 = .ok (.if_icmp .ge 32, 3) := dk_162 dg_cX0_firstBest_140.2.2.2.2.2.2.1
theorem dX0_firstBest_13 : decode cX0_firstBest 13 = .ok (.aload_n 0, 1) := dk_42 dg_cX0_firstBest_140.2.2.2.2.2.2.2
theorem dg_cX0_firstBest_141 : ck1 cX0_firstBest 14 27 = true ∧ ck1 cX0_firstBest 15 29 = true ∧ ck1 cX0_firstBest 16 28 = true ∧ ck3 cX0_firstBest 17 182 78 = true ∧ ck1 cX0_firstBest 20 42 = true ∧ ck3 cX0_firstBest 21 180 15 = true ∧ ck1 cX0_firstBest 24 27 = true ∧ ck2s cX0_firstBest 25 16 64 = true := by decide +kernel
theorem dX0_firstBest_14 : decode cX0_firstBest 14 = .ok (.iload_n 1, 1) := dk_27 dg_cX0_firstBest_141.1
theorem dX0_firstBest_15 : decode cX0_firstBest 15 = .ok (.iload_n 3, 1) := dk_29 dg_cX0_firstBest_141.2.1
theorem dX0_firstBest_16 : decode cX0_firstBest 16 = .ok (.iload_n 2, 1) := dk_28 dg_cX0_firstBest_141.2.2.1
theorem dX0_firstBest_17 : decode cX0_firstBest 17 = .ok (.invokevirtual 78, 3) := dk_182 dg_cX0_firstBest_141.2.2.2.1
theorem dX0_firstBest_20 : decode cX0_firstBest 20 = .ok (.aload_n 0, 1) := dk_42 dg_cX0_firstBest_141.2.2.2.2.1
theorem dX0_firstBest_21 : decode cX0_firstBest 21 = .ok (.getfield 15, 3) := dk_180 dg_cX0_firstBest_141.2.2.2.2.2.1
theorem dX0_firstBest_24 : decode cX0_firstBest 24 = .ok (.iload_n 1, 1) := dk_27 dg_cX0_firstBest_141.2.2.2.2.2.2.1
theorem dX0_firstBest_25 : decode cX0_firstBest 25 = .ok (.bipush 64, 2) := dk_16 dg_cX0_firstBest_141.2.2.2.2.2.2.2
theorem dg_cX0_firstBest_142 : ck1 cX0_firstBest 27 104 = true ∧ ck1 cX0_firstBest 28 28 = true ∧ ck1 cX0_firstBest 29 96 = true ∧ ck1 cX0_firstBest 30 46 = true ∧ ck3s cX0_firstBest 31 160 5 = true ∧ ck1 cX0_firstBest 34 29 = true ∧ ck1 cX0_firstBest 35 172 = true ∧ ck3i cX0_firstBest 36 132 3 1 = true := by decide +kernel
theorem dX0_firstBest_27 : decode cX0_firstBest 27 = .ok (.imul, 1) := dk_104 dg_cX0_firstBest_142.1
theorem dX0_firstBest_28 : decode cX0_firstBest 28 = .ok (.iload_n 2, 1) := dk_28 dg_cX0_firstBest_142.2.1
theorem dX0_firstBest_29 : decode cX0_firstBest 29 = .ok (.iadd, 1) := dk_96 dg_cX0_firstBest_142.2.2.1
theorem dX0_firstBest_30 : decode cX0_firstBest 30 = .ok (.iaload, 1) := dk_46 dg_cX0_firstBest_142.2.2.2.1
theorem dX0_firstBest_31 : decode cX0_firstBest 31 = .ok (.if_icmp .ne 5, 3) := dk_160 dg_cX0_firstBest_142.2.2.2.2.1
theorem dX0_firstBest_34 : decode cX0_firstBest 34 = .ok (.iload_n 3, 1) := dk_29 dg_cX0_firstBest_142.2.2.2.2.2.1
theorem dX0_firstBest_35 : decode cX0_firstBest 35 = .ok (.ireturn, 1) := dk_172 dg_cX0_firstBest_142.2.2.2.2.2.2.1
theorem dX0_firstBest_36 : decode cX0_firstBest 36 = .ok (.iinc 3 1, 3) := dk_132 dg_cX0_firstBest_142.2.2.2.2.2.2.2
theorem dg_cX0_firstBest_143 : ck3s cX0_firstBest 39 167 (-37) = true ∧ ck1 cX0_firstBest 42 2 = true ∧ ck1 cX0_firstBest 43 172 = true := by decide +kernel
theorem dX0_firstBest_39 : decode cX0_firstBest 39 = .ok (.goto (-37), 3) := dk_167 dg_cX0_firstBest_143.1
theorem dX0_firstBest_42 : decode cX0_firstBest 42 = .ok (.iconst (-1), 1) := dk_2 dg_cX0_firstBest_143.2.1
theorem dX0_firstBest_43 : decode cX0_firstBest 43 = .ok (.ireturn, 1) := dk_172 dg_cX0_firstBest_143.2.2
theorem dg_cX0_illGetting_144 : ck1 cX0_illGetting 0 28 = true ∧ ck1 cX0_illGetting 1 29 = true ∧ ck3s cX0_illGetting 2 160 9 = true ∧ ck3s cX0_illGetting 5 17 1000 = true ∧ ck3s cX0_illGetting 8 167 12 = true ∧ ck1 cX0_illGetting 11 42 = true ∧ ck3 cX0_illGetting 12 180 25 = true ∧ ck1 cX0_illGetting 15 27 = true := by decide +kernel
theorem dX0_illGetting_0 : decode cX0_illGetting 0 = .ok (.iload_n 2, 1) := dk_28 dg_cX0_illGetting_144.1
theorem dX0_illGetting_1 : decode cX0_illGetting 1 = .ok (.iload_n 3, 1) := dk_29 dg_cX0_illGetting_144.2.1
theorem dX0_illGetting_2 : decode cX0_illGetting 2 = .ok (.if_icmp .ne 9, 3) := dk_160 dg_cX0_illGetting_144.2.2.1
theorem dX0_illGetting_5 : decode cX0_illGetting 5 = .ok (.sipush 1000, 3) := dk_17 dg_cX0_illGetting_144.2.2.2.1
theorem dX0_illGetting_8 : decode cX0_illGetting 8 = .ok (.goto 12, 3) := dk_167 dg_cX0_illGetting_144.2.2.2.2.1
theorem dX0_illGetting_11 : decode cX0_illGetting 11 = .ok (.aload_n 0, 1) := dk_42 dg_cX0_illGetting_144.2.2.2.2.2.1
theorem dX0_illGetting_12 : decode cX0_illGetting 12 = .ok (.getfield 25, 3) := dk_180 dg_cX0_illGetting_144.2.2.2.2.2.2.1
theorem dX0_illGetting_15 : decode cX0_illGetting 15 = .ok (.iload_n 1, 1) := dk_27 dg_cX0_illGetting_144.2.2.2.2.2.2.2
theorem dg_cX0_illGetting_145 : ck1 cX0_illGetting 16 28 = true ∧ ck3 cX0_illGetting 17 182 61 = true ∧ ck1 cX0_illGetting 20 172 = true := by decide +kernel
theorem dX0_illGetting_16 : decode cX0_illGetting 16 = .ok (.iload_n 2, 1) := dk_28 dg_cX0_illGetting_145.1
theorem dX0_illGetting_17 : decode cX0_illGetting 17 = .ok (.invokevirtual 61, 3) := dk_182 dg_cX0_illGetting_145.2.1
theorem dX0_illGetting_20 : decode cX0_illGetting 20 = .ok (.ireturn, 1) := dk_172 dg_cX0_illGetting_145.2.2
theorem dg_cX0_init_146 : ck1 cX0_init 0 42 = true ∧ ck3 cX0_init 1 183 3 = true ∧ ck1 cX0_init 4 42 = true ∧ ck2s cX0_init 5 16 6 = true := by decide +kernel
theorem dX0_init_0 : decode cX0_init 0 = .ok (.aload_n 0, 1) := dk_42 dg_cX0_init_146.1
theorem dX0_init_1 : decode cX0_init 1 = .ok (.invokespecial 3, 3) := dk_183 dg_cX0_init_146.2.1
theorem dX0_init_4 : decode cX0_init 4 = .ok (.aload_n 0, 1) := dk_42 dg_cX0_init_146.2.2.1
theorem dX0_init_5 : decode cX0_init 5 = .ok (.bipush 6, 2) := dk_16 dg_cX0_init_146.2.2.2
theorem dX0_init_7 : decode cX0_init 7 = .ok (.newarray .int, 2) := by decide +kernel
theorem dg_cX0_init_147 : ck3 cX0_init 9 181 9 = true ∧ ck1 cX0_init 12 42 = true ∧ ck3s cX0_init 13 17 448 = true := by decide +kernel
theorem dX0_init_9 : decode cX0_init 9 = .ok (.putfield 9, 3) := dk_181 dg_cX0_init_147.1
theorem dX0_init_12 : decode cX0_init 12 = .ok (.aload_n 0, 1) := dk_42 dg_cX0_init_147.2.1
theorem dX0_init_13 : decode cX0_init 13 = .ok (.sipush 448, 3) := dk_17 dg_cX0_init_147.2.2
theorem dX0_init_16 : decode cX0_init 16 = .ok (.newarray .int, 2) := by decide +kernel
theorem dg_cX0_init_148 : ck3 cX0_init 18 181 15 = true ∧ ck1 cX0_init 21 42 = true ∧ ck2s cX0_init 22 16 36 = true := by decide +kernel
theorem dX0_init_18 : decode cX0_init 18 = .ok (.putfield 15, 3) := dk_181 dg_cX0_init_148.1
theorem dX0_init_21 : decode cX0_init 21 = .ok (.aload_n 0, 1) := dk_42 dg_cX0_init_148.2.1
theorem dX0_init_22 : decode cX0_init 22 = .ok (.bipush 36, 2) := dk_16 dg_cX0_init_148.2.2
theorem dX0_init_24 : decode cX0_init 24 = .ok (.newarray .int, 2) := by decide +kernel
theorem dg_cX0_init_149 : ck3 cX0_init 26 181 18 = true ∧ ck1 cX0_init 29 42 = true ∧ ck1 cX0_init 30 43 = true ∧ ck3 cX0_init 31 181 21 = true ∧ ck1 cX0_init 34 42 = true ∧ ck1 cX0_init 35 44 = true ∧ ck3 cX0_init 36 181 25 = true ∧ ck1 cX0_init 39 177 = true := by decide +kernel
theorem dX0_init_26 : decode cX0_init 26 = .ok (.putfield 18, 3) := dk_181 dg_cX0_init_149.1
theorem dX0_init_29 : decode cX0_init 29 = .ok (.aload_n 0, 1) := dk_42 dg_cX0_init_149.2.1
theorem dX0_init_30 : decode cX0_init 30 = .ok (.aload_n 1, 1) := dk_43 dg_cX0_init_149.2.2.1
theorem dX0_init_31 : decode cX0_init 31 = .ok (.putfield 21, 3) := dk_181 dg_cX0_init_149.2.2.2.1
theorem dX0_init_34 : decode cX0_init 34 = .ok (.aload_n 0, 1) := dk_42 dg_cX0_init_149.2.2.2.2.1
theorem dX0_init_35 : decode cX0_init 35 = .ok (.aload_n 2, 1) := dk_44 dg_cX0_init_149.2.2.2.2.2.1
theorem dX0_init_36 : decode cX0_init 36 = .ok (.putfield 25, 3) := dk_181 dg_cX0_init_149.2.2.2.2.2.2.1
theorem dX0_init_39 : decode cX0_init 39 = .ok (.return_, 1) := dk_177 dg_cX0_init_149.2.2.2.2.2.2.2
theorem dg_cX0_isClear_150 : ck1 cX0_isClear 0 42 = true ∧ ck3 cX0_isClear 1 180 21 = true ∧ ck1 cX0_isClear 4 3 = true ∧ ck1 cX0_isClear 5 27 = true ∧ ck3 cX0_isClear 6 182 94 = true ∧ ck1 cX0_isClear 9 62 = true ∧ ck1 cX0_isClear 10 3 = true ∧ ck2 cX0_isClear 11 54 4 = true := by decide +kernel
theorem dX0_isClear_0 : decode cX0_isClear 0 = .ok (.aload_n 0, 1) := dk_42 dg_cX0_isClear_150.1
theorem dX0_isClear_1 : decode cX0_isClear 1 = .ok (.getfield 21, 3) := dk_180 dg_cX0_isClear_150.2.1
theorem dX0_isClear_4 : decode cX0_isClear 4 = .ok (.iconst 0, 1) := dk_3 dg_cX0_isClear_150.2.2.1
theorem dX0_isClear_5 : decode cX0_isClear 5 = .ok (.iload_n 1, 1) := dk_27 dg_cX0_isClear_150.2.2.2.1
theorem dX0_isClear_6 : decode cX0_isClear 6 = .ok (.invokevirtual 94, 3) := dk_182 dg_cX0_isClear_150.2.2.2.2.1
theorem dX0_isClear_9 : decode cX0_isClear 9 = .ok (.istore_n 3, 1) := dk_62 dg_cX0_isClear_150.2.2.2.2.2.1
theorem dX0_isClear_10 : decode cX0_isClear 10 = .ok (.iconst 0, 1) := dk_3 dg_cX0_isClear_150.2.2.2.2.2.2.1
theorem dX0_isClear_11 : decode cX0_isClear 11 = .ok (.istore 4, 2) := dk_54 dg_cX0_isClear_150.2.2.2.2.2.2.2
theorem dg_cX0_isClear_151 : ck2 cX0_isClear 13 21 4 = true ∧ ck1 cX0_isClear 15 27 = true ∧ ck3s cX0_isClear 16 162 61 = true ∧ ck2 cX0_isClear 19 21 4 = true ∧ ck1 cX0_isClear 21 42 = true ∧ ck3 cX0_isClear 22 180 9 = true ∧ ck1 cX0_isClear 25 190 = true ∧ ck3s cX0_isClear 26 162 51 = true := by decide +kernel
theorem dX0_isClear_13 : decode cX0_isClear 13 = .ok (.iload 4, 2) := dk_21 dg_cX0_isClear_151.1
theorem dX0_isClear_15 : decode cX0_isClear 15 = .ok (.iload_n 1, 1) := dk_27 dg_cX0_isClear_151.2.1
theorem dX0_isClear_16 : decode cX0_isClear 16 = .ok (.if_icmp .ge 61, 3) := dk_162 dg_cX0_isClear_151.2.2.1
theorem dX0_isClear_19 : decode cX0_isClear 19 = .ok (.iload 4, 2) := dk_21 dg_cX0_isClear_151.2.2.2.1
theorem dX0_isClear_21 : decode cX0_isClear 21 = .ok (.aload_n 0, 1) := dk_42 dg_cX0_isClear_151.2.2.2.2.1
theorem dX0_isClear_22 : decode cX0_isClear 22 = .ok (.getfield 9, 3) := dk_180 dg_cX0_isClear_151.2.2.2.2.2.1
theorem dX0_isClear_25 : decode cX0_isClear 25 = .ok (.arraylength, 1) := dk_190 dg_cX0_isClear_151.2.2.2.2.2.2.1
theorem dX0_isClear_26 : decode cX0_isClear 26 = .ok (.if_icmp .ge 51, 3) := dk_162 dg_cX0_isClear_151.2.2.2.2.2.2.2
theorem dg_cX0_isClear_152 : ck1 cX0_isClear 29 29 = true ∧ ck1 cX0_isClear 30 42 = true ∧ ck3 cX0_isClear 31 180 21 = true ∧ ck1 cX0_isClear 34 3 = true ∧ ck2 cX0_isClear 35 21 4 = true ∧ ck3 cX0_isClear 37 182 94 = true ∧ ck1 cX0_isClear 40 100 = true ∧ ck3 cX0_isClear 41 184 97 = true := by decide +kernel
theorem dX0_isClear_29 : decode cX0_isClear 29 = .ok (.iload_n 3, 1) := dk_29 dg_cX0_isClear_152.1
theorem dX0_isClear_30 : decode cX0_isClear 30 = .ok (.aload_n 0, 1) := dk_42 dg_cX0_isClear_152.2.1
theorem dX0_isClear_31 : decode cX0_isClear 31 = .ok (.getfield 21, 3) := dk_180 dg_cX0_isClear_152.2.2.1
theorem dX0_isClear_34 : decode cX0_isClear 34 = .ok (.iconst 0, 1) := dk_3 dg_cX0_isClear_152.2.2.2.1
theorem dX0_isClear_35 : decode cX0_isClear 35 = .ok (.iload 4, 2) := dk_21 dg_cX0_isClear_152.2.2.2.2.1
theorem dX0_isClear_37 : decode cX0_isClear 37 = .ok (.invokevirtual 94, 3) := dk_182 dg_cX0_isClear_152.2.2.2.2.2.1
theorem dX0_isClear_40 : decode cX0_isClear 40 = .ok (.isub, 1) := dk_100 dg_cX0_isClear_152.2.2.2.2.2.2.1
theorem dX0_isClear_41 : decode cX0_isClear 41 = .ok (.invokestatic 97, 3) := dk_184 dg_cX0_isClear_152.2.2.2.2.2.2.2
theorem dg_cX0_isClear_153 : ck2 cX0_isClear 44 54 5 = true ∧ ck1 cX0_isClear 46 42 = true ∧ ck3 cX0_isClear 47 180 9 = true ∧ ck2 cX0_isClear 50 21 4 = true ∧ ck1 cX0_isClear 52 46 = true ∧ ck1 cX0_isClear 53 28 = true ∧ ck3s cX0_isClear 54 160 17 = true ∧ ck2 cX0_isClear 57 21 5 = true := by decide +kernel
theorem dX0_isClear_44 : decode cX0_isClear 44 = .ok (.istore 5, 2) := dk_54 dg_cX0_isClear_153.1
theorem dX0_isClear_46 : decode cX0_isClear 46 = .ok (.aload_n 0, 1) := dk_42 dg_cX0_isClear_153.2.1
theorem dX0_isClear_47 : decode cX0_isClear 47 = .ok (.getfield 9, 3) := dk_180 dg_cX0_isClear_153.2.2.1
theorem dX0_isClear_50 : decode cX0_isClear 50 = .ok (.iload 4, 2) := dk_21 dg_cX0_isClear_153.2.2.2.1
theorem dX0_isClear_52 : decode cX0_isClear 52 = .ok (.iaload, 1) := dk_46 dg_cX0_isClear_153.2.2.2.2.1
theorem dX0_isClear_53 : decode cX0_isClear 53 = .ok (.iload_n 2, 1) := dk_28 dg_cX0_isClear_153.2.2.2.2.2.1
theorem dX0_isClear_54 : decode cX0_isClear 54 = .ok (.if_icmp .ne 17, 3) := dk_160 dg_cX0_isClear_153.2.2.2.2.2.2.1
theorem dX0_isClear_57 : decode cX0_isClear 57 = .ok (.iload 5, 2) := dk_21 dg_cX0_isClear_153.2.2.2.2.2.2.2
theorem dg_cX0_isClear_154 : ck1 cX0_isClear 59 42 = true ∧ ck3 cX0_isClear 60 180 21 = true ∧ ck3 cX0_isClear 63 180 101 = true := by decide +kernel
theorem dX0_isClear_59 : decode cX0_isClear 59 = .ok (.aload_n 0, 1) := dk_42 dg_cX0_isClear_154.1
theorem dX0_isClear_60 : decode cX0_isClear 60 = .ok (.getfield 21, 3) := dk_180 dg_cX0_isClear_154.2.1
theorem dX0_isClear_63 : decode cX0_isClear 63 = .ok (.getfield 101, 3) := dk_180 dg_cX0_isClear_154.2.2
def dS_cX0_isClear_1 : List UInt8 := 0 :: 101 :: 163 :: 0 :: 5 :: 3 :: 172 :: 132 :: 4 :: 1 :: 167 :: 255 :: 195 :: 4 :: 172 :: []
def dS_cX0_isClear_0 : List UInt8 := 42 :: 180 :: 0 :: 21 :: 3 :: 27 :: 182 :: 0 :: 94 :: 62 :: 3 :: 54 :: 4 :: 21 :: 4 :: 27 :: 162 :: 0 :: 61 :: 21 :: 4 :: 42 :: 180 :: 0 :: 9 :: 190 :: 162 :: 0 :: 51 :: 29 :: 42 :: 180 :: 0 :: 21 :: 3 :: 21 :: 4 :: 182 :: 0 :: 94 :: 100 :: 184 :: 0 :: 97 :: 54 :: 5 :: 42 :: 180 :: 0 :: 9 :: 21 :: 4 :: 46 :: 28 :: 160 :: 0 :: 17 :: 21 :: 5 :: 42 :: 180 :: 0 :: 21 :: 180 :: dS_cX0_isClear_1
theorem dT_cX0_isClear_0 : cX0_isClear.data.toList.drop 0 = dS_cX0_isClear_0 := by decide +kernel
theorem dT_cX0_isClear_1 : cX0_isClear.data.toList.drop 64 = dS_cX0_isClear_1 := ck_nx dT_cX0_isClear_0 (by decide +kernel) rfl
theorem dg_cX0_isClear_155 : ck3sL dS_cX0_isClear_1 2 163 5 = true ∧ ck1L dS_cX0_isClear_1 5 3 = true ∧ ck1L dS_cX0_isClear_1 6 172 = true ∧ ck3iL dS_cX0_isClear_1 7 132 4 1 = true ∧ ck3sL dS_cX0_isClear_1 10 167 (-61) = true ∧ ck1L dS_cX0_isClear_1 13 4 = true ∧ ck1L dS_cX0_isClear_1 14 172 = true := by decide +kernel
theorem dX0_isClear_66 : decode cX0_isClear 66 = .ok (.if_icmp .gt 5, 3) := dk_163 (ck3s_s (r := 2) dT_cX0_isClear_1 rfl dg_cX0_isClear_155.1)
theorem dX0_isClear_69 : decode cX0_isClear 69 = .ok (.iconst 0, 1) := dk_3 (ck1_s (r := 5) dT_cX0_isClear_1 rfl dg_cX0_isClear_155.2.1)
theorem dX0_isClear_70 : decode cX0_isClear 70 = .ok (.ireturn, 1) := dk_172 (ck1_s (r := 6) dT_cX0_isClear_1 rfl dg_cX0_isClear_155.2.2.1)
theorem dX0_isClear_71 : decode cX0_isClear 71 = .ok (.iinc 4 1, 3) := dk_132 (ck3i_s (r := 7) dT_cX0_isClear_1 rfl dg_cX0_isClear_155.2.2.2.1)
theorem dX0_isClear_74 : decode cX0_isClear 74 = .ok (.goto (-61), 3) := dk_167 (ck3s_s (r := 10) dT_cX0_isClear_1 rfl dg_cX0_isClear_155.2.2.2.2.1)
theorem dX0_isClear_77 : decode cX0_isClear 77 = .ok (.iconst 1, 1) := dk_4 (ck1_s (r := 13) dT_cX0_isClear_1 rfl dg_cX0_isClear_155.2.2.2.2.2.1)
theorem dX0_isClear_78 : decode cX0_isClear 78 = .ok (.ireturn, 1) := dk_172 (ck1_s (r := 14) dT_cX0_isClear_1 rfl dg_cX0_isClear_155.2.2.2.2.2.2)
theorem dg_cX0_isContent_156 : ck1 cX0_isContent 0 42 = true ∧ ck1 cX0_isContent 1 27 = true ∧ ck1 cX0_isContent 2 28 = true ∧ ck1 cX0_isContent 3 29 = true ∧ ck3 cX0_isContent 4 182 115 = true ∧ ck2 cX0_isContent 7 54 4 = true ∧ ck1 cX0_isContent 9 3 = true ∧ ck2 cX0_isContent 10 54 5 = true := by decide +kernel
theorem dX0_isContent_0 : decode cX0_isContent 0 = .ok (.aload_n 0, 1) := dk_42 dg_cX0_isContent_156.1
theorem dX0_isContent_1 : decode cX0_isContent 1 = .ok (.iload_n 1, 1) := dk_27 dg_cX0_isContent_156.2.1
theorem dX0_isContent_2 : decode cX0_isContent 2 = .ok (.iload_n 2, 1) := dk_28 dg_cX0_isContent_156.2.2.1
theorem dX0_isContent_3 : decode cX0_isContent 3 = .ok (.iload_n 3, 1) := dk_29 dg_cX0_isContent_156.2.2.2.1
theorem dX0_isContent_4 : decode cX0_isContent 4 = .ok (.invokevirtual 115, 3) := dk_182 dg_cX0_isContent_156.2.2.2.2.1
theorem dX0_isContent_7 : decode cX0_isContent 7 = .ok (.istore 4, 2) := dk_54 dg_cX0_isContent_156.2.2.2.2.2.1
theorem dX0_isContent_9 : decode cX0_isContent 9 = .ok (.iconst 0, 1) := dk_3 dg_cX0_isContent_156.2.2.2.2.2.2.1
theorem dX0_isContent_10 : decode cX0_isContent 10 = .ok (.istore 5, 2) := dk_54 dg_cX0_isContent_156.2.2.2.2.2.2.2
theorem dg_cX0_isContent_157 : ck2 cX0_isContent 12 21 5 = true ∧ ck1 cX0_isContent 14 42 = true ∧ ck3 cX0_isContent 15 180 21 = true ∧ ck3 cX0_isContent 18 180 66 = true ∧ ck3s cX0_isContent 21 162 33 = true ∧ ck1 cX0_isContent 24 42 = true ∧ ck2 cX0_isContent 25 21 5 = true ∧ ck3 cX0_isContent 27 182 104 = true := by decide +kernel
theorem dX0_isContent_12 : decode cX0_isContent 12 = .ok (.iload 5, 2) := dk_21 dg_cX0_isContent_157.1
theorem dX0_isContent_14 : decode cX0_isContent 14 = .ok (.aload_n 0, 1) := dk_42 dg_cX0_isContent_157.2.1
theorem dX0_isContent_15 : decode cX0_isContent 15 = .ok (.getfield 21, 3) := dk_180 dg_cX0_isContent_157.2.2.1
theorem dX0_isContent_18 : decode cX0_isContent 18 = .ok (.getfield 66, 3) := dk_180 dg_cX0_isContent_157.2.2.2.1
theorem dX0_isContent_21 : decode cX0_isContent 21 = .ok (.if_icmp .ge 33, 3) := dk_162 dg_cX0_isContent_157.2.2.2.2.1
theorem dX0_isContent_24 : decode cX0_isContent 24 = .ok (.aload_n 0, 1) := dk_42 dg_cX0_isContent_157.2.2.2.2.2.1
theorem dX0_isContent_25 : decode cX0_isContent 25 = .ok (.iload 5, 2) := dk_21 dg_cX0_isContent_157.2.2.2.2.2.2.1
theorem dX0_isContent_27 : decode cX0_isContent 27 = .ok (.invokevirtual 104, 3) := dk_182 dg_cX0_isContent_157.2.2.2.2.2.2.2
theorem dg_cX0_isContent_158 : ck3s cX0_isContent 30 153 18 = true ∧ ck1 cX0_isContent 33 42 = true ∧ ck1 cX0_isContent 34 27 = true ∧ ck2 cX0_isContent 35 21 5 = true ∧ ck1 cX0_isContent 37 29 = true ∧ ck3 cX0_isContent 38 182 115 = true ∧ ck2 cX0_isContent 41 21 4 = true ∧ ck3s cX0_isContent 43 162 5 = true := by decide +kernel
theorem dX0_isContent_30 : decode cX0_isContent 30 = .ok (.ifCond .eq 18, 3) := dk_153 dg_cX0_isContent_158.1
theorem dX0_isContent_33 : decode cX0_isContent 33 = .ok (.aload_n 0, 1) := dk_42 dg_cX0_isContent_158.2.1
theorem dX0_isContent_34 : decode cX0_isContent 34 = .ok (.iload_n 1, 1) := dk_27 dg_cX0_isContent_158.2.2.1
theorem dX0_isContent_35 : decode cX0_isContent 35 = .ok (.iload 5, 2) := dk_21 dg_cX0_isContent_158.2.2.2.1
theorem dX0_isContent_37 : decode cX0_isContent 37 = .ok (.iload_n 3, 1) := dk_29 dg_cX0_isContent_158.2.2.2.2.1
theorem dX0_isContent_38 : decode cX0_isContent 38 = .ok (.invokevirtual 115, 3) := dk_182 dg_cX0_isContent_158.2.2.2.2.2.1
theorem dX0_isContent_41 : decode cX0_isContent 41 = .ok (.iload 4, 2) := dk_21 dg_cX0_isContent_158.2.2.2.2.2.2.1
theorem dX0_isContent_43 : decode cX0_isContent 43 = .ok (.if_icmp .ge 5, 3) := dk_162 dg_cX0_isContent_158.2.2.2.2.2.2.2
theorem dg_cX0_isContent_159 : ck1 cX0_isContent 46 3 = true ∧ ck1 cX0_isContent 47 172 = true ∧ ck3i cX0_isContent 48 132 5 1 = true ∧ ck3s cX0_isContent 51 167 (-39) = true ∧ ck1 cX0_isContent 54 4 = true ∧ ck1 cX0_isContent 55 172 = true := by decide +kernel
theorem dX0_isContent_46 : decode cX0_isContent 46 = .ok (.iconst 0, 1) := dk_3 dg_cX0_isContent_159.1
theorem dX0_isContent_47 : decode cX0_isContent 47 = .ok (.ireturn, 1) := dk_172 dg_cX0_isContent_159.2.1
theorem dX0_isContent_48 : decode cX0_isContent 48 = .ok (.iinc 5 1, 3) := dk_132 dg_cX0_isContent_159.2.2.1
theorem dX0_isContent_51 : decode cX0_isContent 51 = .ok (.goto (-39), 3) := dk_167 dg_cX0_isContent_159.2.2.2.1
theorem dX0_isContent_54 : decode cX0_isContent 54 = .ok (.iconst 1, 1) := dk_4 dg_cX0_isContent_159.2.2.2.2.1
theorem dX0_isContent_55 : decode cX0_isContent 55 = .ok (.ireturn, 1) := dk_172 dg_cX0_isContent_159.2.2.2.2.2
theorem dg_cX0_isFree_160 : ck1 cX0_isFree 0 42 = true ∧ ck3 cX0_isFree 1 180 25 = true ∧ ck1 cX0_isFree 4 27 = true ∧ ck3 cX0_isFree 5 182 112 = true ∧ ck1 cX0_isFree 8 2 = true ∧ ck3s cX0_isFree 9 160 7 = true ∧ ck1 cX0_isFree 12 4 = true ∧ ck3s cX0_isFree 13 167 4 = true := by decide +kernel
theorem dX0_isFree_0 : decode cX0_isFree 0 = .ok (.aload_n 0, 1) := dk_42 dg_cX0_isFree_160.1
theorem dX0_isFree_1 : decode cX0_isFree 1 = .ok (.getfield 25, 3) := dk_180 dg_cX0_isFree_160.2.1
theorem dX0_isFree_4 : decode cX0_isFree 4 = .ok (.iload_n 1, 1) := dk_27 dg_cX0_isFree_160.2.2.1
theorem dX0_isFree_5 : decode cX0_isFree 5 = .ok (.invokevirtual 112, 3) := dk_182 dg_cX0_isFree_160.2.2.2.1
theorem dX0_isFree_8 : decode cX0_isFree 8 = .ok (.iconst (-1), 1) := dk_2 dg_cX0_isFree_160.2.2.2.2.1
theorem dX0_isFree_9 : decode cX0_isFree 9 = .ok (.if_icmp .ne 7, 3) := dk_160 dg_cX0_isFree_160.2.2.2.2.2.1
theorem dX0_isFree_12 : decode cX0_isFree 12 = .ok (.iconst 1, 1) := dk_4 dg_cX0_isFree_160.2.2.2.2.2.2.1
theorem dX0_isFree_13 : decode cX0_isFree 13 = .ok (.goto 4, 3) := dk_167 dg_cX0_isFree_160.2.2.2.2.2.2.2
theorem dg_cX0_isFree_161 : ck1 cX0_isFree 16 3 = true ∧ ck1 cX0_isFree 17 172 = true := by decide +kernel
theorem dX0_isFree_16 : decode cX0_isFree 16 = .ok (.iconst 0, 1) := dk_3 dg_cX0_isFree_161.1
theorem dX0_isFree_17 : decode cX0_isFree 17 = .ok (.ireturn, 1) := dk_172 dg_cX0_isFree_161.2
theorem dg_cX0_lay_162 : ck1 cX0_lay 0 42 = true ∧ ck3 cX0_lay 1 180 29 = true ∧ ck1 cX0_lay 4 42 = true ∧ ck3 cX0_lay 5 180 9 = true ∧ ck1 cX0_lay 8 190 = true ∧ ck3s cX0_lay 9 162 23 = true ∧ ck1 cX0_lay 12 42 = true ∧ ck3 cX0_lay 13 180 9 = true := by decide +kernel
theorem dX0_lay_0 : decode cX0_lay 0 = .ok (.aload_n 0, 1) := dk_42 dg_cX0_lay_162.1
theorem dX0_lay_1 : decode cX0_lay 1 = .ok (.getfield 29, 3) := dk_180 dg_cX0_lay_162.2.1
theorem dX0_lay_4 : decode cX0_lay 4 = .ok (.aload_n 0, 1) := dk_42 dg_cX0_lay_162.2.2.1
theorem dX0_lay_5 : decode cX0_lay 5 = .ok (.getfield 9, 3) := dk_180 dg_cX0_lay_162.2.2.2.1
theorem dX0_lay_8 : decode cX0_lay 8 = .ok (.arraylength, 1) := dk_190 dg_cX0_lay_162.2.2.2.2.1
theorem dX0_lay_9 : decode cX0_lay 9 = .ok (.if_icmp .ge 23, 3) := dk_162 dg_cX0_lay_162.2.2.2.2.2.1
theorem dX0_lay_12 : decode cX0_lay 12 = .ok (.aload_n 0, 1) := dk_42 dg_cX0_lay_162.2.2.2.2.2.2.1
theorem dX0_lay_13 : decode cX0_lay 13 = .ok (.getfield 9, 3) := dk_180 dg_cX0_lay_162.2.2.2.2.2.2.2
theorem dg_cX0_lay_163 : ck1 cX0_lay 16 42 = true ∧ ck3 cX0_lay 17 180 29 = true ∧ ck1 cX0_lay 20 27 = true ∧ ck1 cX0_lay 21 79 = true ∧ ck1 cX0_lay 22 42 = true ∧ ck1 cX0_lay 23 89 = true ∧ ck3 cX0_lay 24 180 29 = true ∧ ck1 cX0_lay 27 4 = true := by decide +kernel
theorem dX0_lay_16 : decode cX0_lay 16 = .ok (.aload_n 0, 1) := dk_42 dg_cX0_lay_163.1
theorem dX0_lay_17 : decode cX0_lay 17 = .ok (.getfield 29, 3) := dk_180 dg_cX0_lay_163.2.1
theorem dX0_lay_20 : decode cX0_lay 20 = .ok (.iload_n 1, 1) := dk_27 dg_cX0_lay_163.2.2.1
theorem dX0_lay_21 : decode cX0_lay 21 = .ok (.iastore, 1) := dk_79 dg_cX0_lay_163.2.2.2.1
theorem dX0_lay_22 : decode cX0_lay 22 = .ok (.aload_n 0, 1) := dk_42 dg_cX0_lay_163.2.2.2.2.1
theorem dX0_lay_23 : decode cX0_lay 23 = .ok (.dup, 1) := dk_89 dg_cX0_lay_163.2.2.2.2.2.1
theorem dX0_lay_24 : decode cX0_lay 24 = .ok (.getfield 29, 3) := dk_180 dg_cX0_lay_163.2.2.2.2.2.2.1
theorem dX0_lay_27 : decode cX0_lay 27 = .ok (.iconst 1, 1) := dk_4 dg_cX0_lay_163.2.2.2.2.2.2.2
theorem dg_cX0_lay_164 : ck1 cX0_lay 28 96 = true ∧ ck3 cX0_lay 29 181 29 = true ∧ ck1 cX0_lay 32 177 = true := by decide +kernel
theorem dX0_lay_28 : decode cX0_lay 28 = .ok (.iadd, 1) := dk_96 dg_cX0_lay_164.1
theorem dX0_lay_29 : decode cX0_lay 29 = .ok (.putfield 29, 3) := dk_181 dg_cX0_lay_164.2.1
theorem dX0_lay_32 : decode cX0_lay 32 = .ok (.return_, 1) := dk_177 dg_cX0_lay_164.2.2
theorem dg_cX0_layColours_165 : ck1 cX0_layColours 0 42 = true ∧ ck3 cX0_layColours 1 182 39 = true ∧ ck1 cX0_layColours 4 3 = true ∧ ck1 cX0_layColours 5 60 = true ∧ ck1 cX0_layColours 6 27 = true ∧ ck1 cX0_layColours 7 42 = true ∧ ck3 cX0_layColours 8 180 21 = true ∧ ck3 cX0_layColours 11 180 48 = true := by decide +kernel
theorem dX0_layColours_0 : decode cX0_layColours 0 = .ok (.aload_n 0, 1) := dk_42 dg_cX0_layColours_165.1
theorem dX0_layColours_1 : decode cX0_layColours 1 = .ok (.invokevirtual 39, 3) := dk_182 dg_cX0_layColours_165.2.1
theorem dX0_layColours_4 : decode cX0_layColours 4 = .ok (.iconst 0, 1) := dk_3 dg_cX0_layColours_165.2.2.1
theorem dX0_layColours_5 : decode cX0_layColours 5 = .ok (.istore_n 1, 1) := dk_60 dg_cX0_layColours_165.2.2.2.1
theorem dX0_layColours_6 : decode cX0_layColours 6 = .ok (.iload_n 1, 1) := dk_27 dg_cX0_layColours_165.2.2.2.2.1
theorem dX0_layColours_7 : decode cX0_layColours 7 = .ok (.aload_n 0, 1) := dk_42 dg_cX0_layColours_165.2.2.2.2.2.1
theorem dX0_layColours_8 : decode cX0_layColours 8 = .ok (.getfield 21, 3) := dk_180 dg_cX0_layColours_165.2.2.2.2.2.2.1
theorem dX0_layColours_11 : decode cX0_layColours 11 = .ok (.getfield 48, 3) := dk_180 dg_cX0_layColours_165.2.2.2.2.2.2.2
theorem dg_cX0_layColours_166 : ck3s cX0_layColours 14 163 20 = true ∧ ck1 cX0_layColours 17 42 = true ∧ ck1 cX0_layColours 18 3 = true ∧ ck1 cX0_layColours 19 27 = true ∧ ck3 cX0_layColours 20 182 87 = true ∧ ck3s cX0_layColours 23 153 5 = true ∧ ck1 cX0_layColours 26 27 = true ∧ ck1 cX0_layColours 27 172 = true := by decide +kernel
theorem dX0_layColours_14 : decode cX0_layColours 14 = .ok (.if_icmp .gt 20, 3) := dk_163 dg_cX0_layColours_166.1
theorem dX0_layColours_17 : decode cX0_layColours 17 = .ok (.aload_n 0, 1) := dk_42 dg_cX0_layColours_166.2.1
theorem dX0_layColours_18 : decode cX0_layColours 18 = .ok (.iconst 0, 1) := dk_3 dg_cX0_layColours_166.2.2.1
theorem dX0_layColours_19 : decode cX0_layColours 19 = .ok (.iload_n 1, 1) := dk_27 dg_cX0_layColours_166.2.2.2.1
theorem dX0_layColours_20 : decode cX0_layColours 20 = .ok (.invokevirtual 87, 3) := dk_182 dg_cX0_layColours_166.2.2.2.2.1
theorem dX0_layColours_23 : decode cX0_layColours 23 = .ok (.ifCond .eq 5, 3) := dk_153 dg_cX0_layColours_166.2.2.2.2.2.1
theorem dX0_layColours_26 : decode cX0_layColours 26 = .ok (.iload_n 1, 1) := dk_27 dg_cX0_layColours_166.2.2.2.2.2.2.1
theorem dX0_layColours_27 : decode cX0_layColours 27 = .ok (.ireturn, 1) := dk_172 dg_cX0_layColours_166.2.2.2.2.2.2.2
theorem dg_cX0_layColours_167 : ck3i cX0_layColours 28 132 1 1 = true ∧ ck3s cX0_layColours 31 167 (-25) = true ∧ ck1 cX0_layColours 34 42 = true ∧ ck3 cX0_layColours 35 180 21 = true ∧ ck3 cX0_layColours 38 180 48 = true ∧ ck1 cX0_layColours 41 172 = true := by decide +kernel
theorem dX0_layColours_28 : decode cX0_layColours 28 = .ok (.iinc 1 1, 3) := dk_132 dg_cX0_layColours_167.1
theorem dX0_layColours_31 : decode cX0_layColours 31 = .ok (.goto (-25), 3) := dk_167 dg_cX0_layColours_167.2.1
theorem dX0_layColours_34 : decode cX0_layColours 34 = .ok (.aload_n 0, 1) := dk_42 dg_cX0_layColours_167.2.2.1
theorem dX0_layColours_35 : decode cX0_layColours 35 = .ok (.getfield 21, 3) := dk_180 dg_cX0_layColours_167.2.2.2.1
theorem dX0_layColours_38 : decode cX0_layColours 38 = .ok (.getfield 48, 3) := dk_180 dg_cX0_layColours_167.2.2.2.2.1
theorem dX0_layColours_41 : decode cX0_layColours 41 = .ok (.ireturn, 1) := dk_172 dg_cX0_layColours_167.2.2.2.2.2
theorem dg_cX0_layDressing_168 : ck1 cX0_layDressing 0 42 = true ∧ ck3 cX0_layDressing 1 182 33 = true ∧ ck1 cX0_layDressing 4 42 = true ∧ ck3 cX0_layDressing 5 182 36 = true ∧ ck1 cX0_layDressing 8 42 = true ∧ ck3 cX0_layDressing 9 182 39 = true ∧ ck1 cX0_layDressing 12 42 = true ∧ ck1 cX0_layDressing 13 3 = true := by decide +kernel
theorem dX0_layDressing_0 : decode cX0_layDressing 0 = .ok (.aload_n 0, 1) := dk_42 dg_cX0_layDressing_168.1
theorem dX0_layDressing_1 : decode cX0_layDressing 1 = .ok (.invokevirtual 33, 3) := dk_182 dg_cX0_layDressing_168.2.1
theorem dX0_layDressing_4 : decode cX0_layDressing 4 = .ok (.aload_n 0, 1) := dk_42 dg_cX0_layDressing_168.2.2.1
theorem dX0_layDressing_5 : decode cX0_layDressing 5 = .ok (.invokevirtual 36, 3) := dk_182 dg_cX0_layDressing_168.2.2.2.1
theorem dX0_layDressing_8 : decode cX0_layDressing 8 = .ok (.aload_n 0, 1) := dk_42 dg_cX0_layDressing_168.2.2.2.2.1
theorem dX0_layDressing_9 : decode cX0_layDressing 9 = .ok (.invokevirtual 39, 3) := dk_182 dg_cX0_layDressing_168.2.2.2.2.2.1
theorem dX0_layDressing_12 : decode cX0_layDressing 12 = .ok (.aload_n 0, 1) := dk_42 dg_cX0_layDressing_168.2.2.2.2.2.2.1
theorem dX0_layDressing_13 : decode cX0_layDressing 13 = .ok (.iconst 0, 1) := dk_3 dg_cX0_layDressing_168.2.2.2.2.2.2.2
theorem dg_cX0_layDressing_169 : ck3 cX0_layDressing 14 181 42 = true ∧ ck1 cX0_layDressing 17 42 = true ∧ ck1 cX0_layDressing 18 3 = true ∧ ck3 cX0_layDressing 19 181 45 = true ∧ ck1 cX0_layDressing 22 3 = true ∧ ck1 cX0_layDressing 23 60 = true ∧ ck1 cX0_layDressing 24 3 = true ∧ ck1 cX0_layDressing 25 61 = true := by decide +kernel
theorem dX0_layDressing_14 : decode cX0_layDressing 14 = .ok (.putfield 42, 3) := dk_181 dg_cX0_layDressing_169.1
theorem dX0_layDressing_17 : decode cX0_layDressing 17 = .ok (.aload_n 0, 1) := dk_42 dg_cX0_layDressing_169.2.1
theorem dX0_layDressing_18 : decode cX0_layDressing 18 = .ok (.iconst 0, 1) := dk_3 dg_cX0_layDressing_169.2.2.1
theorem dX0_layDressing_19 : decode cX0_layDressing 19 = .ok (.putfield 45, 3) := dk_181 dg_cX0_layDressing_169.2.2.2.1
theorem dX0_layDressing_22 : decode cX0_layDressing 22 = .ok (.iconst 0, 1) := dk_3 dg_cX0_layDressing_169.2.2.2.2.1
theorem dX0_layDressing_23 : decode cX0_layDressing 23 = .ok (.istore_n 1, 1) := dk_60 dg_cX0_layDressing_169.2.2.2.2.2.1
theorem dX0_layDressing_24 : decode cX0_layDressing 24 = .ok (.iconst 0, 1) := dk_3 dg_cX0_layDressing_169.2.2.2.2.2.2.1
theorem dX0_layDressing_25 : decode cX0_layDressing 25 = .ok (.istore_n 2, 1) := dk_61 dg_cX0_layDressing_169.2.2.2.2.2.2.2
theorem dg_cX0_layDressing_170 : ck1 cX0_layDressing 26 28 = true ∧ ck1 cX0_layDressing 27 42 = true ∧ ck3 cX0_layDressing 28 180 21 = true ∧ ck3 cX0_layDressing 31 180 48 = true ∧ ck3s cX0_layDressing 34 162 60 = true ∧ ck1 cX0_layDressing 37 42 = true ∧ ck1 cX0_layDressing 38 28 = true ∧ ck1 cX0_layDressing 39 27 = true := by decide +kernel
theorem dX0_layDressing_26 : decode cX0_layDressing 26 = .ok (.iload_n 2, 1) := dk_28 dg_cX0_layDressing_170.1
theorem dX0_layDressing_27 : decode cX0_layDressing 27 = .ok (.aload_n 0, 1) := dk_42 dg_cX0_layDressing_170.2.1
theorem dX0_layDressing_28 : decode cX0_layDressing 28 = .ok (.getfield 21, 3) := dk_180 dg_cX0_layDressing_170.2.2.1
theorem dX0_layDressing_31 : decode cX0_layDressing 31 = .ok (.getfield 48, 3) := dk_180 dg_cX0_layDressing_170.2.2.2.1
theorem dX0_layDressing_34 : decode cX0_layDressing 34 = .ok (.if_icmp .ge 60, 3) := dk_162 dg_cX0_layDressing_170.2.2.2.2.1
theorem dX0_layDressing_37 : decode cX0_layDressing 37 = .ok (.aload_n 0, 1) := dk_42 dg_cX0_layDressing_170.2.2.2.2.2.1
theorem dX0_layDressing_38 : decode cX0_layDressing 38 = .ok (.iload_n 2, 1) := dk_28 dg_cX0_layDressing_170.2.2.2.2.2.2.1
theorem dX0_layDressing_39 : decode cX0_layDressing 39 = .ok (.iload_n 1, 1) := dk_27 dg_cX0_layDressing_170.2.2.2.2.2.2.2
theorem dg_cX0_layDressing_171 : ck3 cX0_layDressing 40 182 53 = true ∧ ck1 cX0_layDressing 43 62 = true ∧ ck1 cX0_layDressing 44 42 = true ∧ ck1 cX0_layDressing 45 29 = true ∧ ck3 cX0_layDressing 46 182 57 = true ∧ ck1 cX0_layDressing 49 29 = true ∧ ck1 cX0_layDressing 50 2 = true ∧ ck3s cX0_layDressing 51 159 37 = true := by decide +kernel
theorem dX0_layDressing_40 : decode cX0_layDressing 40 = .ok (.invokevirtual 53, 3) := dk_182 dg_cX0_layDressing_171.1
theorem dX0_layDressing_43 : decode cX0_layDressing 43 = .ok (.istore_n 3, 1) := dk_62 dg_cX0_layDressing_171.2.1
theorem dX0_layDressing_44 : decode cX0_layDressing 44 = .ok (.aload_n 0, 1) := dk_42 dg_cX0_layDressing_171.2.2.1
theorem dX0_layDressing_45 : decode cX0_layDressing 45 = .ok (.iload_n 3, 1) := dk_29 dg_cX0_layDressing_171.2.2.2.1
theorem dX0_layDressing_46 : decode cX0_layDressing 46 = .ok (.invokevirtual 57, 3) := dk_182 dg_cX0_layDressing_171.2.2.2.2.1
theorem dX0_layDressing_49 : decode cX0_layDressing 49 = .ok (.iload_n 3, 1) := dk_29 dg_cX0_layDressing_171.2.2.2.2.2.1
theorem dX0_layDressing_50 : decode cX0_layDressing 50 = .ok (.iconst (-1), 1) := dk_2 dg_cX0_layDressing_171.2.2.2.2.2.2.1
theorem dX0_layDressing_51 : decode cX0_layDressing 51 = .ok (.if_icmp .eq 37, 3) := dk_159 dg_cX0_layDressing_171.2.2.2.2.2.2.2
theorem dg_cX0_layDressing_172 : ck1 cX0_layDressing 54 27 = true ∧ ck1 cX0_layDressing 55 4 = true ∧ ck1 cX0_layDressing 56 29 = true ∧ ck1 cX0_layDressing 57 120 = true ∧ ck1 cX0_layDressing 58 128 = true ∧ ck1 cX0_layDressing 59 60 = true ∧ ck1 cX0_layDressing 60 42 = true ∧ ck1 cX0_layDressing 61 89 = true := by decide +kernel
theorem dX0_layDressing_54 : decode cX0_layDressing 54 = .ok (.iload_n 1, 1) := dk_27 dg_cX0_layDressing_172.1
theorem dX0_layDressing_55 : decode cX0_layDressing 55 = .ok (.iconst 1, 1) := dk_4 dg_cX0_layDressing_172.2.1
theorem dX0_layDressing_56 : decode cX0_layDressing 56 = .ok (.iload_n 3, 1) := dk_29 dg_cX0_layDressing_172.2.2.1
theorem dX0_layDressing_57 : decode cX0_layDressing 57 = .ok (.ishl, 1) := dk_120 dg_cX0_layDressing_172.2.2.2.1
theorem dX0_layDressing_58 : decode cX0_layDressing 58 = .ok (.ior, 1) := dk_128 dg_cX0_layDressing_172.2.2.2.2.1
theorem dX0_layDressing_59 : decode cX0_layDressing 59 = .ok (.istore_n 1, 1) := dk_60 dg_cX0_layDressing_172.2.2.2.2.2.1
theorem dX0_layDressing_60 : decode cX0_layDressing 60 = .ok (.aload_n 0, 1) := dk_42 dg_cX0_layDressing_172.2.2.2.2.2.2.1
theorem dX0_layDressing_61 : decode cX0_layDressing 61 = .ok (.dup, 1) := dk_89 dg_cX0_layDressing_172.2.2.2.2.2.2.2
theorem dg_cX0_layDressing_173 : ck3 cX0_layDressing 62 180 42 = true := by decide +kernel
theorem dX0_layDressing_62 : decode cX0_layDressing 62 = .ok (.getfield 42, 3) := dk_180 dg_cX0_layDressing_173
def dS_cX0_layDressing_1 : List UInt8 := 42 :: 4 :: 96 :: 181 :: 0 :: 42 :: 42 :: 89 :: 180 :: 0 :: 45 :: 42 :: 180 :: 0 :: 25 :: 28 :: 29 :: 182 :: 0 :: 61 :: 96 :: 181 :: 0 :: 45 :: 132 :: 2 :: 1 :: 167 :: 255 :: 191 :: 177 :: []
def dS_cX0_layDressing_0 : List UInt8 := 42 :: 182 :: 0 :: 33 :: 42 :: 182 :: 0 :: 36 :: 42 :: 182 :: 0 :: 39 :: 42 :: 3 :: 181 :: 0 :: 42 :: 42 :: 3 :: 181 :: 0 :: 45 :: 3 :: 60 :: 3 :: 61 :: 28 :: 42 :: 180 :: 0 :: 21 :: 180 :: 0 :: 48 :: 162 :: 0 :: 60 :: 42 :: 28 :: 27 :: 182 :: 0 :: 53 :: 62 :: 42 :: 29 :: 182 :: 0 :: 57 :: 29 :: 2 :: 159 :: 0 :: 37 :: 27 :: 4 :: 29 :: 120 :: 128 :: 60 :: 42 :: 89 :: 180 :: 0 :: dS_cX0_layDressing_1
theorem dT_cX0_layDressing_0 : cX0_layDressing.data.toList.drop 0 = dS_cX0_layDressing_0 := by decide +kernel
theorem dT_cX0_layDressing_1 : cX0_layDressing.data.toList.drop 64 = dS_cX0_layDressing_1 := ck_nx dT_cX0_layDressing_0 (by decide +kernel) rfl
theorem dg_cX0_layDressing_174 : ck1L dS_cX0_layDressing_1 1 4 = true ∧ ck1L dS_cX0_layDressing_1 2 96 = true ∧ ck3L dS_cX0_layDressing_1 3 181 42 = true ∧ ck1L dS_cX0_layDressing_1 6 42 = true ∧ ck1L dS_cX0_layDressing_1 7 89 = true ∧ ck3L dS_cX0_layDressing_1 8 180 45 = true ∧ ck1L dS_cX0_layDressing_1 11 42 = true ∧ ck3L dS_cX0_layDressing_1 12 180 25 = true := by decide +kernel
theorem dX0_layDressing_65 : decode cX0_layDressing 65 = .ok (.iconst 1, 1) := dk_4 (ck1_s (r := 1) dT_cX0_layDressing_1 rfl dg_cX0_layDressing_174.1)
theorem dX0_layDressing_66 : decode cX0_layDressing 66 = .ok (.iadd, 1) := dk_96 (ck1_s (r := 2) dT_cX0_layDressing_1 rfl dg_cX0_layDressing_174.2.1)
theorem dX0_layDressing_67 : decode cX0_layDressing 67 = .ok (.putfield 42, 3) := dk_181 (ck3_s (r := 3) dT_cX0_layDressing_1 rfl dg_cX0_layDressing_174.2.2.1)
theorem dX0_layDressing_70 : decode cX0_layDressing 70 = .ok (.aload_n 0, 1) := dk_42 (ck1_s (r := 6) dT_cX0_layDressing_1 rfl dg_cX0_layDressing_174.2.2.2.1)
theorem dX0_layDressing_71 : decode cX0_layDressing 71 = .ok (.dup, 1) := dk_89 (ck1_s (r := 7) dT_cX0_layDressing_1 rfl dg_cX0_layDressing_174.2.2.2.2.1)
theorem dX0_layDressing_72 : decode cX0_layDressing 72 = .ok (.getfield 45, 3) := dk_180 (ck3_s (r := 8) dT_cX0_layDressing_1 rfl dg_cX0_layDressing_174.2.2.2.2.2.1)
theorem dX0_layDressing_75 : decode cX0_layDressing 75 = .ok (.aload_n 0, 1) := dk_42 (ck1_s (r := 11) dT_cX0_layDressing_1 rfl dg_cX0_layDressing_174.2.2.2.2.2.2.1)
theorem dX0_layDressing_76 : decode cX0_layDressing 76 = .ok (.getfield 25, 3) := dk_180 (ck3_s (r := 12) dT_cX0_layDressing_1 rfl dg_cX0_layDressing_174.2.2.2.2.2.2.2)
theorem dg_cX0_layDressing_175 : ck1L dS_cX0_layDressing_1 15 28 = true ∧ ck1L dS_cX0_layDressing_1 16 29 = true ∧ ck3L dS_cX0_layDressing_1 17 182 61 = true ∧ ck1L dS_cX0_layDressing_1 20 96 = true ∧ ck3L dS_cX0_layDressing_1 21 181 45 = true ∧ ck3iL dS_cX0_layDressing_1 24 132 2 1 = true ∧ ck3sL dS_cX0_layDressing_1 27 167 (-65) = true ∧ ck1L dS_cX0_layDressing_1 30 177 = true := by decide +kernel
theorem dX0_layDressing_79 : decode cX0_layDressing 79 = .ok (.iload_n 2, 1) := dk_28 (ck1_s (r := 15) dT_cX0_layDressing_1 rfl dg_cX0_layDressing_175.1)
theorem dX0_layDressing_80 : decode cX0_layDressing 80 = .ok (.iload_n 3, 1) := dk_29 (ck1_s (r := 16) dT_cX0_layDressing_1 rfl dg_cX0_layDressing_175.2.1)
theorem dX0_layDressing_81 : decode cX0_layDressing 81 = .ok (.invokevirtual 61, 3) := dk_182 (ck3_s (r := 17) dT_cX0_layDressing_1 rfl dg_cX0_layDressing_175.2.2.1)
theorem dX0_layDressing_84 : decode cX0_layDressing 84 = .ok (.iadd, 1) := dk_96 (ck1_s (r := 20) dT_cX0_layDressing_1 rfl dg_cX0_layDressing_175.2.2.2.1)
theorem dX0_layDressing_85 : decode cX0_layDressing 85 = .ok (.putfield 45, 3) := dk_181 (ck3_s (r := 21) dT_cX0_layDressing_1 rfl dg_cX0_layDressing_175.2.2.2.2.1)
theorem dX0_layDressing_88 : decode cX0_layDressing 88 = .ok (.iinc 2 1, 3) := dk_132 (ck3i_s (r := 24) dT_cX0_layDressing_1 rfl dg_cX0_layDressing_175.2.2.2.2.2.1)
theorem dX0_layDressing_91 : decode cX0_layDressing 91 = .ok (.goto (-65), 3) := dk_167 (ck3s_s (r := 27) dT_cX0_layDressing_1 rfl dg_cX0_layDressing_175.2.2.2.2.2.2.1)
theorem dX0_layDressing_94 : decode cX0_layDressing 94 = .ok (.return_, 1) := dk_177 (ck1_s (r := 30) dT_cX0_layDressing_1 rfl dg_cX0_layDressing_175.2.2.2.2.2.2.2)
theorem dg_cX0_layRest_176 : ck1 cX0_layRest 0 3 = true ∧ ck1 cX0_layRest 1 62 = true ∧ ck1 cX0_layRest 2 3 = true ∧ ck2 cX0_layRest 3 54 4 = true ∧ ck1 cX0_layRest 5 3 = true ∧ ck2 cX0_layRest 6 54 5 = true ∧ ck2 cX0_layRest 8 21 5 = true ∧ ck1 cX0_layRest 10 42 = true := by decide +kernel
theorem dX0_layRest_0 : decode cX0_layRest 0 = .ok (.iconst 0, 1) := dk_3 dg_cX0_layRest_176.1
theorem dX0_layRest_1 : decode cX0_layRest 1 = .ok (.istore_n 3, 1) := dk_62 dg_cX0_layRest_176.2.1
theorem dX0_layRest_2 : decode cX0_layRest 2 = .ok (.iconst 0, 1) := dk_3 dg_cX0_layRest_176.2.2.1
theorem dX0_layRest_3 : decode cX0_layRest 3 = .ok (.istore 4, 2) := dk_54 dg_cX0_layRest_176.2.2.2.1
theorem dX0_layRest_5 : decode cX0_layRest 5 = .ok (.iconst 0, 1) := dk_3 dg_cX0_layRest_176.2.2.2.2.1
theorem dX0_layRest_6 : decode cX0_layRest 6 = .ok (.istore 5, 2) := dk_54 dg_cX0_layRest_176.2.2.2.2.2.1
theorem dX0_layRest_8 : decode cX0_layRest 8 = .ok (.iload 5, 2) := dk_21 dg_cX0_layRest_176.2.2.2.2.2.2.1
theorem dX0_layRest_10 : decode cX0_layRest 10 = .ok (.aload_n 0, 1) := dk_42 dg_cX0_layRest_176.2.2.2.2.2.2.2
theorem dg_cX0_layRest_177 : ck3 cX0_layRest 11 180 21 = true ∧ ck3 cX0_layRest 14 180 66 = true ∧ ck3s cX0_layRest 17 162 111 = true ∧ ck1 cX0_layRest 20 3 = true ∧ ck2 cX0_layRest 21 54 6 = true ∧ ck2 cX0_layRest 23 21 6 = true ∧ ck1 cX0_layRest 25 42 = true ∧ ck3 cX0_layRest 26 180 21 = true := by decide +kernel
theorem dX0_layRest_11 : decode cX0_layRest 11 = .ok (.getfield 21, 3) := dk_180 dg_cX0_layRest_177.1
theorem dX0_layRest_14 : decode cX0_layRest 14 = .ok (.getfield 66, 3) := dk_180 dg_cX0_layRest_177.2.1
theorem dX0_layRest_17 : decode cX0_layRest 17 = .ok (.if_icmp .ge 111, 3) := dk_162 dg_cX0_layRest_177.2.2.1
theorem dX0_layRest_20 : decode cX0_layRest 20 = .ok (.iconst 0, 1) := dk_3 dg_cX0_layRest_177.2.2.2.1
theorem dX0_layRest_21 : decode cX0_layRest 21 = .ok (.istore 6, 2) := dk_54 dg_cX0_layRest_177.2.2.2.2.1
theorem dX0_layRest_23 : decode cX0_layRest 23 = .ok (.iload 6, 2) := dk_21 dg_cX0_layRest_177.2.2.2.2.2.1
theorem dX0_layRest_25 : decode cX0_layRest 25 = .ok (.aload_n 0, 1) := dk_42 dg_cX0_layRest_177.2.2.2.2.2.2.1
theorem dX0_layRest_26 : decode cX0_layRest 26 = .ok (.getfield 21, 3) := dk_180 dg_cX0_layRest_177.2.2.2.2.2.2.2
theorem dg_cX0_layRest_178 : ck3 cX0_layRest 29 180 66 = true ∧ ck3s cX0_layRest 32 162 90 = true ∧ ck1 cX0_layRest 35 42 = true ∧ ck2 cX0_layRest 36 21 5 = true ∧ ck3 cX0_layRest 38 182 104 = true ∧ ck3s cX0_layRest 41 153 16 = true ∧ ck1 cX0_layRest 44 42 = true ∧ ck2 cX0_layRest 45 21 6 = true := by decide +kernel
theorem dX0_layRest_29 : decode cX0_layRest 29 = .ok (.getfield 66, 3) := dk_180 dg_cX0_layRest_178.1
theorem dX0_layRest_32 : decode cX0_layRest 32 = .ok (.if_icmp .ge 90, 3) := dk_162 dg_cX0_layRest_178.2.1
theorem dX0_layRest_35 : decode cX0_layRest 35 = .ok (.aload_n 0, 1) := dk_42 dg_cX0_layRest_178.2.2.1
theorem dX0_layRest_36 : decode cX0_layRest 36 = .ok (.iload 5, 2) := dk_21 dg_cX0_layRest_178.2.2.2.1
theorem dX0_layRest_38 : decode cX0_layRest 38 = .ok (.invokevirtual 104, 3) := dk_182 dg_cX0_layRest_178.2.2.2.2.1
theorem dX0_layRest_41 : decode cX0_layRest 41 = .ok (.ifCond .eq 16, 3) := dk_153 dg_cX0_layRest_178.2.2.2.2.2.1
theorem dX0_layRest_44 : decode cX0_layRest 44 = .ok (.aload_n 0, 1) := dk_42 dg_cX0_layRest_178.2.2.2.2.2.2.1
theorem dX0_layRest_45 : decode cX0_layRest 45 = .ok (.iload 6, 2) := dk_21 dg_cX0_layRest_178.2.2.2.2.2.2.2
theorem dg_cX0_layRest_179 : ck3 cX0_layRest 47 182 104 = true ∧ ck3s cX0_layRest 50 153 7 = true ∧ ck1 cX0_layRest 53 4 = true ∧ ck3s cX0_layRest 54 167 4 = true ∧ ck1 cX0_layRest 57 3 = true ∧ ck2 cX0_layRest 58 54 7 = true ∧ ck2 cX0_layRest 60 21 4 = true ∧ ck2 cX0_layRest 62 21 7 = true := by decide +kernel
theorem dX0_layRest_47 : decode cX0_layRest 47 = .ok (.invokevirtual 104, 3) := dk_182 dg_cX0_layRest_179.1
theorem dX0_layRest_50 : decode cX0_layRest 50 = .ok (.ifCond .eq 7, 3) := dk_153 dg_cX0_layRest_179.2.1
theorem dX0_layRest_53 : decode cX0_layRest 53 = .ok (.iconst 1, 1) := dk_4 dg_cX0_layRest_179.2.2.1
theorem dX0_layRest_54 : decode cX0_layRest 54 = .ok (.goto 4, 3) := dk_167 dg_cX0_layRest_179.2.2.2.1
theorem dX0_layRest_57 : decode cX0_layRest 57 = .ok (.iconst 0, 1) := dk_3 dg_cX0_layRest_179.2.2.2.2.1
theorem dX0_layRest_58 : decode cX0_layRest 58 = .ok (.istore 7, 2) := dk_54 dg_cX0_layRest_179.2.2.2.2.2.1
theorem dX0_layRest_60 : decode cX0_layRest 60 = .ok (.iload 4, 2) := dk_21 dg_cX0_layRest_179.2.2.2.2.2.2.1
theorem dX0_layRest_62 : decode cX0_layRest 62 = .ok (.iload 7, 2) := dk_21 dg_cX0_layRest_179.2.2.2.2.2.2.2
def dS_cX0_layRest_2 : List UInt8 := 21 :: 4 :: 153 :: 0 :: 7 :: 29 :: 167 :: 0 :: 4 :: 2 :: 172 :: []
def dS_cX0_layRest_1 : List UInt8 := 128 :: 54 :: 4 :: 21 :: 7 :: 153 :: 0 :: 47 :: 42 :: 27 :: 21 :: 5 :: 21 :: 6 :: 182 :: 0 :: 108 :: 153 :: 0 :: 35 :: 42 :: 28 :: 21 :: 6 :: 21 :: 5 :: 182 :: 0 :: 108 :: 153 :: 0 :: 23 :: 132 :: 3 :: 1 :: 29 :: 4 :: 160 :: 0 :: 15 :: 42 :: 21 :: 5 :: 182 :: 0 :: 57 :: 42 :: 21 :: 6 :: 182 :: 0 :: 57 :: 132 :: 6 :: 1 :: 167 :: 255 :: 160 :: 132 :: 5 :: 1 :: 167 :: 255 :: 139 :: dS_cX0_layRest_2
def dS_cX0_layRest_0 : List UInt8 := 3 :: 62 :: 3 :: 54 :: 4 :: 3 :: 54 :: 5 :: 21 :: 5 :: 42 :: 180 :: 0 :: 21 :: 180 :: 0 :: 66 :: 162 :: 0 :: 111 :: 3 :: 54 :: 6 :: 21 :: 6 :: 42 :: 180 :: 0 :: 21 :: 180 :: 0 :: 66 :: 162 :: 0 :: 90 :: 42 :: 21 :: 5 :: 182 :: 0 :: 104 :: 153 :: 0 :: 16 :: 42 :: 21 :: 6 :: 182 :: 0 :: 104 :: 153 :: 0 :: 7 :: 4 :: 167 :: 0 :: 4 :: 3 :: 54 :: 7 :: 21 :: 4 :: 21 :: 7 :: dS_cX0_layRest_1
theorem dT_cX0_layRest_0 : cX0_layRest.data.toList.drop 0 = dS_cX0_layRest_0 := by decide +kernel
theorem dT_cX0_layRest_1 : cX0_layRest.data.toList.drop 64 = dS_cX0_layRest_1 := ck_nx dT_cX0_layRest_0 (by decide +kernel) rfl
theorem dT_cX0_layRest_2 : cX0_layRest.data.toList.drop 128 = dS_cX0_layRest_2 := ck_nx dT_cX0_layRest_1 (by decide +kernel) rfl
theorem dg_cX0_layRest_180 : ck1L dS_cX0_layRest_1 0 128 = true ∧ ck2L dS_cX0_layRest_1 1 54 4 = true ∧ ck2L dS_cX0_layRest_1 3 21 7 = true ∧ ck3sL dS_cX0_layRest_1 5 153 47 = true ∧ ck1L dS_cX0_layRest_1 8 42 = true ∧ ck1L dS_cX0_layRest_1 9 27 = true ∧ ck2L dS_cX0_layRest_1 10 21 5 = true ∧ ck2L dS_cX0_layRest_1 12 21 6 = true := by decide +kernel
theorem dX0_layRest_64 : decode cX0_layRest 64 = .ok (.ior, 1) := dk_128 (ck1_s (r := 0) dT_cX0_layRest_1 rfl dg_cX0_layRest_180.1)
theorem dX0_layRest_65 : decode cX0_layRest 65 = .ok (.istore 4, 2) := dk_54 (ck2_s (r := 1) dT_cX0_layRest_1 rfl dg_cX0_layRest_180.2.1)
theorem dX0_layRest_67 : decode cX0_layRest 67 = .ok (.iload 7, 2) := dk_21 (ck2_s (r := 3) dT_cX0_layRest_1 rfl dg_cX0_layRest_180.2.2.1)
theorem dX0_layRest_69 : decode cX0_layRest 69 = .ok (.ifCond .eq 47, 3) := dk_153 (ck3s_s (r := 5) dT_cX0_layRest_1 rfl dg_cX0_layRest_180.2.2.2.1)
theorem dX0_layRest_72 : decode cX0_layRest 72 = .ok (.aload_n 0, 1) := dk_42 (ck1_s (r := 8) dT_cX0_layRest_1 rfl dg_cX0_layRest_180.2.2.2.2.1)
theorem dX0_layRest_73 : decode cX0_layRest 73 = .ok (.iload_n 1, 1) := dk_27 (ck1_s (r := 9) dT_cX0_layRest_1 rfl dg_cX0_layRest_180.2.2.2.2.2.1)
theorem dX0_layRest_74 : decode cX0_layRest 74 = .ok (.iload 5, 2) := dk_21 (ck2_s (r := 10) dT_cX0_layRest_1 rfl dg_cX0_layRest_180.2.2.2.2.2.2.1)
theorem dX0_layRest_76 : decode cX0_layRest 76 = .ok (.iload 6, 2) := dk_21 (ck2_s (r := 12) dT_cX0_layRest_1 rfl dg_cX0_layRest_180.2.2.2.2.2.2.2)
theorem dg_cX0_layRest_181 : ck3L dS_cX0_layRest_1 14 182 108 = true ∧ ck3sL dS_cX0_layRest_1 17 153 35 = true ∧ ck1L dS_cX0_layRest_1 20 42 = true ∧ ck1L dS_cX0_layRest_1 21 28 = true ∧ ck2L dS_cX0_layRest_1 22 21 6 = true ∧ ck2L dS_cX0_layRest_1 24 21 5 = true ∧ ck3L dS_cX0_layRest_1 26 182 108 = true ∧ ck3sL dS_cX0_layRest_1 29 153 23 = true := by decide +kernel
theorem dX0_layRest_78 : decode cX0_layRest 78 = .ok (.invokevirtual 108, 3) := dk_182 (ck3_s (r := 14) dT_cX0_layRest_1 rfl dg_cX0_layRest_181.1)
theorem dX0_layRest_81 : decode cX0_layRest 81 = .ok (.ifCond .eq 35, 3) := dk_153 (ck3s_s (r := 17) dT_cX0_layRest_1 rfl dg_cX0_layRest_181.2.1)
theorem dX0_layRest_84 : decode cX0_layRest 84 = .ok (.aload_n 0, 1) := dk_42 (ck1_s (r := 20) dT_cX0_layRest_1 rfl dg_cX0_layRest_181.2.2.1)
theorem dX0_layRest_85 : decode cX0_layRest 85 = .ok (.iload_n 2, 1) := dk_28 (ck1_s (r := 21) dT_cX0_layRest_1 rfl dg_cX0_layRest_181.2.2.2.1)
theorem dX0_layRest_86 : decode cX0_layRest 86 = .ok (.iload 6, 2) := dk_21 (ck2_s (r := 22) dT_cX0_layRest_1 rfl dg_cX0_layRest_181.2.2.2.2.1)
theorem dX0_layRest_88 : decode cX0_layRest 88 = .ok (.iload 5, 2) := dk_21 (ck2_s (r := 24) dT_cX0_layRest_1 rfl dg_cX0_layRest_181.2.2.2.2.2.1)
theorem dX0_layRest_90 : decode cX0_layRest 90 = .ok (.invokevirtual 108, 3) := dk_182 (ck3_s (r := 26) dT_cX0_layRest_1 rfl dg_cX0_layRest_181.2.2.2.2.2.2.1)
theorem dX0_layRest_93 : decode cX0_layRest 93 = .ok (.ifCond .eq 23, 3) := dk_153 (ck3s_s (r := 29) dT_cX0_layRest_1 rfl dg_cX0_layRest_181.2.2.2.2.2.2.2)
theorem dg_cX0_layRest_182 : ck3iL dS_cX0_layRest_1 32 132 3 1 = true ∧ ck1L dS_cX0_layRest_1 35 29 = true ∧ ck1L dS_cX0_layRest_1 36 4 = true ∧ ck3sL dS_cX0_layRest_1 37 160 15 = true ∧ ck1L dS_cX0_layRest_1 40 42 = true ∧ ck2L dS_cX0_layRest_1 41 21 5 = true ∧ ck3L dS_cX0_layRest_1 43 182 57 = true ∧ ck1L dS_cX0_layRest_1 46 42 = true := by decide +kernel
theorem dX0_layRest_96 : decode cX0_layRest 96 = .ok (.iinc 3 1, 3) := dk_132 (ck3i_s (r := 32) dT_cX0_layRest_1 rfl dg_cX0_layRest_182.1)
theorem dX0_layRest_99 : decode cX0_layRest 99 = .ok (.iload_n 3, 1) := dk_29 (ck1_s (r := 35) dT_cX0_layRest_1 rfl dg_cX0_layRest_182.2.1)
theorem dX0_layRest_100 : decode cX0_layRest 100 = .ok (.iconst 1, 1) := dk_4 (ck1_s (r := 36) dT_cX0_layRest_1 rfl dg_cX0_layRest_182.2.2.1)
theorem dX0_layRest_101 : decode cX0_layRest 101 = .ok (.if_icmp .ne 15, 3) := dk_160 (ck3s_s (r := 37) dT_cX0_layRest_1 rfl dg_cX0_layRest_182.2.2.2.1)
theorem dX0_layRest_104 : decode cX0_layRest 104 = .ok (.aload_n 0, 1) := dk_42 (ck1_s (r := 40) dT_cX0_layRest_1 rfl dg_cX0_layRest_182.2.2.2.2.1)
theorem dX0_layRest_105 : decode cX0_layRest 105 = .ok (.iload 5, 2) := dk_21 (ck2_s (r := 41) dT_cX0_layRest_1 rfl dg_cX0_layRest_182.2.2.2.2.2.1)
theorem dX0_layRest_107 : decode cX0_layRest 107 = .ok (.invokevirtual 57, 3) := dk_182 (ck3_s (r := 43) dT_cX0_layRest_1 rfl dg_cX0_layRest_182.2.2.2.2.2.2.1)
theorem dX0_layRest_110 : decode cX0_layRest 110 = .ok (.aload_n 0, 1) := dk_42 (ck1_s (r := 46) dT_cX0_layRest_1 rfl dg_cX0_layRest_182.2.2.2.2.2.2.2)
theorem dg_cX0_layRest_183 : ck2L dS_cX0_layRest_1 47 21 6 = true ∧ ck3L dS_cX0_layRest_1 49 182 57 = true ∧ ck3iL dS_cX0_layRest_1 52 132 6 1 = true ∧ ck3sL dS_cX0_layRest_1 55 167 (-96) = true ∧ ck3iL dS_cX0_layRest_1 58 132 5 1 = true ∧ ck3sL dS_cX0_layRest_1 61 167 (-117) = true ∧ ck2L dS_cX0_layRest_2 0 21 4 = true ∧ ck3sL dS_cX0_layRest_2 2 153 7 = true := by decide +kernel
theorem dX0_layRest_111 : decode cX0_layRest 111 = .ok (.iload 6, 2) := dk_21 (ck2_s (r := 47) dT_cX0_layRest_1 rfl dg_cX0_layRest_183.1)
theorem dX0_layRest_113 : decode cX0_layRest 113 = .ok (.invokevirtual 57, 3) := dk_182 (ck3_s (r := 49) dT_cX0_layRest_1 rfl dg_cX0_layRest_183.2.1)
theorem dX0_layRest_116 : decode cX0_layRest 116 = .ok (.iinc 6 1, 3) := dk_132 (ck3i_s (r := 52) dT_cX0_layRest_1 rfl dg_cX0_layRest_183.2.2.1)
theorem dX0_layRest_119 : decode cX0_layRest 119 = .ok (.goto (-96), 3) := dk_167 (ck3s_s (r := 55) dT_cX0_layRest_1 rfl dg_cX0_layRest_183.2.2.2.1)
theorem dX0_layRest_122 : decode cX0_layRest 122 = .ok (.iinc 5 1, 3) := dk_132 (ck3i_s (r := 58) dT_cX0_layRest_1 rfl dg_cX0_layRest_183.2.2.2.2.1)
theorem dX0_layRest_125 : decode cX0_layRest 125 = .ok (.goto (-117), 3) := dk_167 (ck3s_s (r := 61) dT_cX0_layRest_1 rfl dg_cX0_layRest_183.2.2.2.2.2.1)
theorem dX0_layRest_128 : decode cX0_layRest 128 = .ok (.iload 4, 2) := dk_21 (ck2_s (r := 0) dT_cX0_layRest_2 rfl dg_cX0_layRest_183.2.2.2.2.2.2.1)
theorem dX0_layRest_130 : decode cX0_layRest 130 = .ok (.ifCond .eq 7, 3) := dk_153 (ck3s_s (r := 2) dT_cX0_layRest_2 rfl dg_cX0_layRest_183.2.2.2.2.2.2.2)
theorem dg_cX0_layRest_184 : ck1L dS_cX0_layRest_2 5 29 = true ∧ ck3sL dS_cX0_layRest_2 6 167 4 = true ∧ ck1L dS_cX0_layRest_2 9 2 = true ∧ ck1L dS_cX0_layRest_2 10 172 = true := by decide +kernel
theorem dX0_layRest_133 : decode cX0_layRest 133 = .ok (.iload_n 3, 1) := dk_29 (ck1_s (r := 5) dT_cX0_layRest_2 rfl dg_cX0_layRest_184.1)
theorem dX0_layRest_134 : decode cX0_layRest 134 = .ok (.goto 4, 3) := dk_167 (ck3s_s (r := 6) dT_cX0_layRest_2 rfl dg_cX0_layRest_184.2.1)
theorem dX0_layRest_137 : decode cX0_layRest 137 = .ok (.iconst (-1), 1) := dk_2 (ck1_s (r := 9) dT_cX0_layRest_2 rfl dg_cX0_layRest_184.2.2.1)
theorem dX0_layRest_138 : decode cX0_layRest 138 = .ok (.ireturn, 1) := dk_172 (ck1_s (r := 10) dT_cX0_layRest_2 rfl dg_cX0_layRest_184.2.2.2)
theorem dg_cX0_lying_185 : ck1 cX0_lying 0 27 = true ∧ ck3s cX0_lying 1 155 29 = true ∧ ck1 cX0_lying 4 27 = true ∧ ck1 cX0_lying 5 42 = true ∧ ck3 cX0_lying 6 180 29 = true ∧ ck3s cX0_lying 9 162 21 = true ∧ ck1 cX0_lying 12 27 = true ∧ ck1 cX0_lying 13 42 = true := by decide +kernel
theorem dX0_lying_0 : decode cX0_lying 0 = .ok (.iload_n 1, 1) := dk_27 dg_cX0_lying_185.1
theorem dX0_lying_1 : decode cX0_lying 1 = .ok (.ifCond .lt 29, 3) := dk_155 dg_cX0_lying_185.2.1
theorem dX0_lying_4 : decode cX0_lying 4 = .ok (.iload_n 1, 1) := dk_27 dg_cX0_lying_185.2.2.1
theorem dX0_lying_5 : decode cX0_lying 5 = .ok (.aload_n 0, 1) := dk_42 dg_cX0_lying_185.2.2.2.1
theorem dX0_lying_6 : decode cX0_lying 6 = .ok (.getfield 29, 3) := dk_180 dg_cX0_lying_185.2.2.2.2.1
theorem dX0_lying_9 : decode cX0_lying 9 = .ok (.if_icmp .ge 21, 3) := dk_162 dg_cX0_lying_185.2.2.2.2.2.1
theorem dX0_lying_12 : decode cX0_lying 12 = .ok (.iload_n 1, 1) := dk_27 dg_cX0_lying_185.2.2.2.2.2.2.1
theorem dX0_lying_13 : decode cX0_lying 13 = .ok (.aload_n 0, 1) := dk_42 dg_cX0_lying_185.2.2.2.2.2.2.2
theorem dg_cX0_lying_186 : ck3 cX0_lying 14 180 9 = true ∧ ck1 cX0_lying 17 190 = true ∧ ck3s cX0_lying 18 162 12 = true ∧ ck1 cX0_lying 21 42 = true ∧ ck3 cX0_lying 22 180 9 = true ∧ ck1 cX0_lying 25 27 = true ∧ ck1 cX0_lying 26 46 = true ∧ ck3s cX0_lying 27 167 5 = true := by decide +kernel
theorem dX0_lying_14 : decode cX0_lying 14 = .ok (.getfield 9, 3) := dk_180 dg_cX0_lying_186.1
theorem dX0_lying_17 : decode cX0_lying 17 = .ok (.arraylength, 1) := dk_190 dg_cX0_lying_186.2.1
theorem dX0_lying_18 : decode cX0_lying 18 = .ok (.if_icmp .ge 12, 3) := dk_162 dg_cX0_lying_186.2.2.1
theorem dX0_lying_21 : decode cX0_lying 21 = .ok (.aload_n 0, 1) := dk_42 dg_cX0_lying_186.2.2.2.1
theorem dX0_lying_22 : decode cX0_lying 22 = .ok (.getfield 9, 3) := dk_180 dg_cX0_lying_186.2.2.2.2.1
theorem dX0_lying_25 : decode cX0_lying 25 = .ok (.iload_n 1, 1) := dk_27 dg_cX0_lying_186.2.2.2.2.2.1
theorem dX0_lying_26 : decode cX0_lying 26 = .ok (.iaload, 1) := dk_46 dg_cX0_lying_186.2.2.2.2.2.2.1
theorem dX0_lying_27 : decode cX0_lying 27 = .ok (.goto 5, 3) := dk_167 dg_cX0_lying_186.2.2.2.2.2.2.2
theorem dg_cX0_lying_187 : ck2s cX0_lying 30 16 (-2) = true ∧ ck1 cX0_lying 32 172 = true := by decide +kernel
theorem dX0_lying_30 : decode cX0_lying 30 = .ok (.bipush (-2), 2) := dk_16 dg_cX0_lying_187.1
theorem dX0_lying_32 : decode cX0_lying 32 = .ok (.ireturn, 1) := dk_172 dg_cX0_lying_187.2
theorem dg_cX0_painted_188 : ck1 cX0_painted 0 27 = true ∧ ck1 cX0_painted 1 42 = true ∧ ck3 cX0_painted 2 180 21 = true ∧ ck3 cX0_painted 5 180 48 = true ∧ ck3s cX0_painted 8 162 9 = true ∧ ck1 cX0_painted 11 27 = true ∧ ck2s cX0_painted 12 16 6 = true ∧ ck3s cX0_painted 14 161 5 = true := by decide +kernel
theorem dX0_painted_0 : decode cX0_painted 0 = .ok (.iload_n 1, 1) := dk_27 dg_cX0_painted_188.1
theorem dX0_painted_1 : decode cX0_painted 1 = .ok (.aload_n 0, 1) := dk_42 dg_cX0_painted_188.2.1
theorem dX0_painted_2 : decode cX0_painted 2 = .ok (.getfield 21, 3) := dk_180 dg_cX0_painted_188.2.2.1
theorem dX0_painted_5 : decode cX0_painted 5 = .ok (.getfield 48, 3) := dk_180 dg_cX0_painted_188.2.2.2.1
theorem dX0_painted_8 : decode cX0_painted 8 = .ok (.if_icmp .ge 9, 3) := dk_162 dg_cX0_painted_188.2.2.2.2.1
theorem dX0_painted_11 : decode cX0_painted 11 = .ok (.iload_n 1, 1) := dk_27 dg_cX0_painted_188.2.2.2.2.2.1
theorem dX0_painted_12 : decode cX0_painted 12 = .ok (.bipush 6, 2) := dk_16 dg_cX0_painted_188.2.2.2.2.2.2.1
theorem dX0_painted_14 : decode cX0_painted 14 = .ok (.if_icmp .lt 5, 3) := dk_161 dg_cX0_painted_188.2.2.2.2.2.2.2
theorem dg_cX0_painted_189 : ck1 cX0_painted 17 4 = true ∧ ck1 cX0_painted 18 172 = true ∧ ck1 cX0_painted 19 3 = true ∧ ck1 cX0_painted 20 62 = true ∧ ck1 cX0_painted 21 29 = true ∧ ck1 cX0_painted 22 28 = true ∧ ck3s cX0_painted 23 162 41 = true ∧ ck1 cX0_painted 26 42 = true := by decide +kernel
theorem dX0_painted_17 : decode cX0_painted 17 = .ok (.iconst 1, 1) := dk_4 dg_cX0_painted_189.1
theorem dX0_painted_18 : decode cX0_painted 18 = .ok (.ireturn, 1) := dk_172 dg_cX0_painted_189.2.1
theorem dX0_painted_19 : decode cX0_painted 19 = .ok (.iconst 0, 1) := dk_3 dg_cX0_painted_189.2.2.1
theorem dX0_painted_20 : decode cX0_painted 20 = .ok (.istore_n 3, 1) := dk_62 dg_cX0_painted_189.2.2.2.1
theorem dX0_painted_21 : decode cX0_painted 21 = .ok (.iload_n 3, 1) := dk_29 dg_cX0_painted_189.2.2.2.2.1
theorem dX0_painted_22 : decode cX0_painted 22 = .ok (.iload_n 2, 1) := dk_28 dg_cX0_painted_189.2.2.2.2.2.1
theorem dX0_painted_23 : decode cX0_painted 23 = .ok (.if_icmp .ge 41, 3) := dk_162 dg_cX0_painted_189.2.2.2.2.2.2.1
theorem dX0_painted_26 : decode cX0_painted 26 = .ok (.aload_n 0, 1) := dk_42 dg_cX0_painted_189.2.2.2.2.2.2.2
theorem dg_cX0_painted_190 : ck1 cX0_painted 27 27 = true ∧ ck1 cX0_painted 28 29 = true ∧ ck3 cX0_painted 29 182 91 = true ∧ ck3s cX0_painted 32 153 26 = true ∧ ck1 cX0_painted 35 42 = true ∧ ck1 cX0_painted 36 27 = true ∧ ck3 cX0_painted 37 181 29 = true ∧ ck1 cX0_painted 40 42 = true := by decide +kernel
theorem dX0_painted_27 : decode cX0_painted 27 = .ok (.iload_n 1, 1) := dk_27 dg_cX0_painted_190.1
theorem dX0_painted_28 : decode cX0_painted 28 = .ok (.iload_n 3, 1) := dk_29 dg_cX0_painted_190.2.1
theorem dX0_painted_29 : decode cX0_painted 29 = .ok (.invokevirtual 91, 3) := dk_182 dg_cX0_painted_190.2.2.1
theorem dX0_painted_32 : decode cX0_painted 32 = .ok (.ifCond .eq 26, 3) := dk_153 dg_cX0_painted_190.2.2.2.1
theorem dX0_painted_35 : decode cX0_painted 35 = .ok (.aload_n 0, 1) := dk_42 dg_cX0_painted_190.2.2.2.2.1
theorem dX0_painted_36 : decode cX0_painted 36 = .ok (.iload_n 1, 1) := dk_27 dg_cX0_painted_190.2.2.2.2.2.1
theorem dX0_painted_37 : decode cX0_painted 37 = .ok (.putfield 29, 3) := dk_181 dg_cX0_painted_190.2.2.2.2.2.2.1
theorem dX0_painted_40 : decode cX0_painted 40 = .ok (.aload_n 0, 1) := dk_42 dg_cX0_painted_190.2.2.2.2.2.2.2
theorem dg_cX0_painted_191 : ck1 cX0_painted 41 29 = true ∧ ck3 cX0_painted 42 182 57 = true ∧ ck1 cX0_painted 45 42 = true ∧ ck1 cX0_painted 46 27 = true ∧ ck1 cX0_painted 47 4 = true ∧ ck1 cX0_painted 48 96 = true ∧ ck1 cX0_painted 49 28 = true ∧ ck3 cX0_painted 50 182 87 = true := by decide +kernel
theorem dX0_painted_41 : decode cX0_painted 41 = .ok (.iload_n 3, 1) := dk_29 dg_cX0_painted_191.1
theorem dX0_painted_42 : decode cX0_painted 42 = .ok (.invokevirtual 57, 3) := dk_182 dg_cX0_painted_191.2.1
theorem dX0_painted_45 : decode cX0_painted 45 = .ok (.aload_n 0, 1) := dk_42 dg_cX0_painted_191.2.2.1
theorem dX0_painted_46 : decode cX0_painted 46 = .ok (.iload_n 1, 1) := dk_27 dg_cX0_painted_191.2.2.2.1
theorem dX0_painted_47 : decode cX0_painted 47 = .ok (.iconst 1, 1) := dk_4 dg_cX0_painted_191.2.2.2.2.1
theorem dX0_painted_48 : decode cX0_painted 48 = .ok (.iadd, 1) := dk_96 dg_cX0_painted_191.2.2.2.2.2.1
theorem dX0_painted_49 : decode cX0_painted 49 = .ok (.iload_n 2, 1) := dk_28 dg_cX0_painted_191.2.2.2.2.2.2.1
theorem dX0_painted_50 : decode cX0_painted 50 = .ok (.invokevirtual 87, 3) := dk_182 dg_cX0_painted_191.2.2.2.2.2.2.2
theorem dg_cX0_painted_192 : ck3s cX0_painted 53 153 5 = true ∧ ck1 cX0_painted 56 4 = true ∧ ck1 cX0_painted 57 172 = true ∧ ck3i cX0_painted 58 132 3 1 = true ∧ ck3s cX0_painted 61 167 (-40) = true := by decide +kernel
theorem dX0_painted_53 : decode cX0_painted 53 = .ok (.ifCond .eq 5, 3) := dk_153 dg_cX0_painted_192.1
theorem dX0_painted_56 : decode cX0_painted 56 = .ok (.iconst 1, 1) := dk_4 dg_cX0_painted_192.2.1
theorem dX0_painted_57 : decode cX0_painted 57 = .ok (.ireturn, 1) := dk_172 dg_cX0_painted_192.2.2.1
theorem dX0_painted_58 : decode cX0_painted 58 = .ok (.iinc 3 1, 3) := dk_132 dg_cX0_painted_192.2.2.2.1
theorem dX0_painted_61 : decode cX0_painted 61 = .ok (.goto (-40), 3) := dk_167 dg_cX0_painted_192.2.2.2.2
def dS_cX0_painted_1 : List UInt8 := 3 :: 172 :: []
def dS_cX0_painted_0 : List UInt8 := 27 :: 42 :: 180 :: 0 :: 21 :: 180 :: 0 :: 48 :: 162 :: 0 :: 9 :: 27 :: 16 :: 6 :: 161 :: 0 :: 5 :: 4 :: 172 :: 3 :: 62 :: 29 :: 28 :: 162 :: 0 :: 41 :: 42 :: 27 :: 29 :: 182 :: 0 :: 91 :: 153 :: 0 :: 26 :: 42 :: 27 :: 181 :: 0 :: 29 :: 42 :: 29 :: 182 :: 0 :: 57 :: 42 :: 27 :: 4 :: 96 :: 28 :: 182 :: 0 :: 87 :: 153 :: 0 :: 5 :: 4 :: 172 :: 132 :: 3 :: 1 :: 167 :: 255 :: 216 :: dS_cX0_painted_1
theorem dT_cX0_painted_0 : cX0_painted.data.toList.drop 0 = dS_cX0_painted_0 := by decide +kernel
theorem dT_cX0_painted_1 : cX0_painted.data.toList.drop 64 = dS_cX0_painted_1 := ck_nx dT_cX0_painted_0 (by decide +kernel) rfl
theorem dg_cX0_painted_193 : ck1L dS_cX0_painted_1 0 3 = true ∧ ck1L dS_cX0_painted_1 1 172 = true := by decide +kernel
theorem dX0_painted_64 : decode cX0_painted 64 = .ok (.iconst 0, 1) := dk_3 (ck1_s (r := 0) dT_cX0_painted_1 rfl dg_cX0_painted_193.1)
theorem dX0_painted_65 : decode cX0_painted 65 = .ok (.ireturn, 1) := dk_172 (ck1_s (r := 1) dT_cX0_painted_1 rfl dg_cX0_painted_193.2)
theorem dg_cX0_reckonBest_194 : ck1 cX0_reckonBest 0 42 = true ∧ ck3 cX0_reckonBest 1 180 15 = true ∧ ck1 cX0_reckonBest 4 3 = true ∧ ck3 cX0_reckonBest 5 184 72 = true ∧ ck1 cX0_reckonBest 8 42 = true ∧ ck3 cX0_reckonBest 9 180 21 = true ∧ ck3 cX0_reckonBest 12 180 48 = true ∧ ck1 cX0_reckonBest 15 4 = true := by decide +kernel
theorem dX0_reckonBest_0 : decode cX0_reckonBest 0 = .ok (.aload_n 0, 1) := dk_42 dg_cX0_reckonBest_194.1
theorem dX0_reckonBest_1 : decode cX0_reckonBest 1 = .ok (.getfield 15, 3) := dk_180 dg_cX0_reckonBest_194.2.1
theorem dX0_reckonBest_4 : decode cX0_reckonBest 4 = .ok (.iconst 0, 1) := dk_3 dg_cX0_reckonBest_194.2.2.1
theorem dX0_reckonBest_5 : decode cX0_reckonBest 5 = .ok (.invokestatic 72, 3) := dk_184 dg_cX0_reckonBest_194.2.2.2.1
theorem dX0_reckonBest_8 : decode cX0_reckonBest 8 = .ok (.aload_n 0, 1) := dk_42 dg_cX0_reckonBest_194.2.2.2.2.1
theorem dX0_reckonBest_9 : decode cX0_reckonBest 9 = .ok (.getfield 21, 3) := dk_180 dg_cX0_reckonBest_194.2.2.2.2.2.1
theorem dX0_reckonBest_12 : decode cX0_reckonBest 12 = .ok (.getfield 48, 3) := dk_180 dg_cX0_reckonBest_194.2.2.2.2.2.2.1
theorem dX0_reckonBest_15 : decode cX0_reckonBest 15 = .ok (.iconst 1, 1) := dk_4 dg_cX0_reckonBest_194.2.2.2.2.2.2.2
theorem dg_cX0_reckonBest_195 : ck1 cX0_reckonBest 16 100 = true ∧ ck1 cX0_reckonBest 17 60 = true ∧ ck1 cX0_reckonBest 18 27 = true ∧ ck3s cX0_reckonBest 19 155 83 = true ∧ ck1 cX0_reckonBest 22 3 = true ∧ ck1 cX0_reckonBest 23 61 = true ∧ ck1 cX0_reckonBest 24 28 = true ∧ ck2s cX0_reckonBest 25 16 64 = true := by decide +kernel
theorem dX0_reckonBest_16 : decode cX0_reckonBest 16 = .ok (.isub, 1) := dk_100 dg_cX0_reckonBest_195.1
theorem dX0_reckonBest_17 : decode cX0_reckonBest 17 = .ok (.istore_n 1, 1) := dk_60 dg_cX0_reckonBest_195.2.1
theorem dX0_reckonBest_18 : decode cX0_reckonBest 18 = .ok (.iload_n 1, 1) := dk_27 dg_cX0_reckonBest_195.2.2.1
theorem dX0_reckonBest_19 : decode cX0_reckonBest 19 = .ok (.ifCond .lt 83, 3) := dk_155 dg_cX0_reckonBest_195.2.2.2.1
theorem dX0_reckonBest_22 : decode cX0_reckonBest 22 = .ok (.iconst 0, 1) := dk_3 dg_cX0_reckonBest_195.2.2.2.2.1
theorem dX0_reckonBest_23 : decode cX0_reckonBest 23 = .ok (.istore_n 2, 1) := dk_61 dg_cX0_reckonBest_195.2.2.2.2.2.1
theorem dX0_reckonBest_24 : decode cX0_reckonBest 24 = .ok (.iload_n 2, 1) := dk_28 dg_cX0_reckonBest_195.2.2.2.2.2.2.1
theorem dX0_reckonBest_25 : decode cX0_reckonBest 25 = .ok (.bipush 64, 2) := dk_16 dg_cX0_reckonBest_195.2.2.2.2.2.2.2
theorem dg_cX0_reckonBest_196 : ck3s cX0_reckonBest 27 162 69 = true ∧ ck1 cX0_reckonBest 30 42 = true ∧ ck3 cX0_reckonBest 31 180 15 = true ∧ ck1 cX0_reckonBest 34 27 = true ∧ ck1 cX0_reckonBest 35 4 = true ∧ ck1 cX0_reckonBest 36 96 = true ∧ ck2s cX0_reckonBest 37 16 64 = true ∧ ck1 cX0_reckonBest 39 104 = true := by decide +kernel
theorem dX0_reckonBest_27 : decode cX0_reckonBest 27 = .ok (.if_icmp .ge 69, 3) := dk_162 dg_cX0_reckonBest_196.1
theorem dX0_reckonBest_30 : decode cX0_reckonBest 30 = .ok (.aload_n 0, 1) := dk_42 dg_cX0_reckonBest_196.2.1
theorem dX0_reckonBest_31 : decode cX0_reckonBest 31 = .ok (.getfield 15, 3) := dk_180 dg_cX0_reckonBest_196.2.2.1
theorem dX0_reckonBest_34 : decode cX0_reckonBest 34 = .ok (.iload_n 1, 1) := dk_27 dg_cX0_reckonBest_196.2.2.2.1
theorem dX0_reckonBest_35 : decode cX0_reckonBest 35 = .ok (.iconst 1, 1) := dk_4 dg_cX0_reckonBest_196.2.2.2.2.1
theorem dX0_reckonBest_36 : decode cX0_reckonBest 36 = .ok (.iadd, 1) := dk_96 dg_cX0_reckonBest_196.2.2.2.2.2.1
theorem dX0_reckonBest_37 : decode cX0_reckonBest 37 = .ok (.bipush 64, 2) := dk_16 dg_cX0_reckonBest_196.2.2.2.2.2.2.1
theorem dX0_reckonBest_39 : decode cX0_reckonBest 39 = .ok (.imul, 1) := dk_104 dg_cX0_reckonBest_196.2.2.2.2.2.2.2
theorem dg_cX0_reckonBest_197 : ck1 cX0_reckonBest 40 28 = true ∧ ck1 cX0_reckonBest 41 96 = true ∧ ck1 cX0_reckonBest 42 46 = true ∧ ck1 cX0_reckonBest 43 62 = true ∧ ck1 cX0_reckonBest 44 3 = true ∧ ck2 cX0_reckonBest 45 54 4 = true ∧ ck2 cX0_reckonBest 47 21 4 = true ∧ ck1 cX0_reckonBest 49 42 = true := by decide +kernel
theorem dX0_reckonBest_40 : decode cX0_reckonBest 40 = .ok (.iload_n 2, 1) := dk_28 dg_cX0_reckonBest_197.1
theorem dX0_reckonBest_41 : decode cX0_reckonBest 41 = .ok (.iadd, 1) := dk_96 dg_cX0_reckonBest_197.2.1
theorem dX0_reckonBest_42 : decode cX0_reckonBest 42 = .ok (.iaload, 1) := dk_46 dg_cX0_reckonBest_197.2.2.1
theorem dX0_reckonBest_43 : decode cX0_reckonBest 43 = .ok (.istore_n 3, 1) := dk_62 dg_cX0_reckonBest_197.2.2.2.1
theorem dX0_reckonBest_44 : decode cX0_reckonBest 44 = .ok (.iconst 0, 1) := dk_3 dg_cX0_reckonBest_197.2.2.2.2.1
theorem dX0_reckonBest_45 : decode cX0_reckonBest 45 = .ok (.istore 4, 2) := dk_54 dg_cX0_reckonBest_197.2.2.2.2.2.1
theorem dX0_reckonBest_47 : decode cX0_reckonBest 47 = .ok (.iload 4, 2) := dk_21 dg_cX0_reckonBest_197.2.2.2.2.2.2.1
theorem dX0_reckonBest_49 : decode cX0_reckonBest 49 = .ok (.aload_n 0, 1) := dk_42 dg_cX0_reckonBest_197.2.2.2.2.2.2.2
theorem dg_cX0_reckonBest_198 : ck3 cX0_reckonBest 50 180 21 = true ∧ ck3 cX0_reckonBest 53 180 66 = true ∧ ck3s cX0_reckonBest 56 162 22 = true ∧ ck1 cX0_reckonBest 59 29 = true ∧ ck1 cX0_reckonBest 60 42 = true ∧ ck1 cX0_reckonBest 61 27 = true ∧ ck2 cX0_reckonBest 62 21 4 = true := by decide +kernel
theorem dX0_reckonBest_50 : decode cX0_reckonBest 50 = .ok (.getfield 21, 3) := dk_180 dg_cX0_reckonBest_198.1
theorem dX0_reckonBest_53 : decode cX0_reckonBest 53 = .ok (.getfield 66, 3) := dk_180 dg_cX0_reckonBest_198.2.1
theorem dX0_reckonBest_56 : decode cX0_reckonBest 56 = .ok (.if_icmp .ge 22, 3) := dk_162 dg_cX0_reckonBest_198.2.2.1
theorem dX0_reckonBest_59 : decode cX0_reckonBest 59 = .ok (.iload_n 3, 1) := dk_29 dg_cX0_reckonBest_198.2.2.2.1
theorem dX0_reckonBest_60 : decode cX0_reckonBest 60 = .ok (.aload_n 0, 1) := dk_42 dg_cX0_reckonBest_198.2.2.2.2.1
theorem dX0_reckonBest_61 : decode cX0_reckonBest 61 = .ok (.iload_n 1, 1) := dk_27 dg_cX0_reckonBest_198.2.2.2.2.2.1
theorem dX0_reckonBest_62 : decode cX0_reckonBest 62 = .ok (.iload 4, 2) := dk_21 dg_cX0_reckonBest_198.2.2.2.2.2.2
def dS_cX0_reckonBest_1 : List UInt8 := 28 :: 182 :: 0 :: 78 :: 184 :: 0 :: 82 :: 62 :: 132 :: 4 :: 1 :: 167 :: 255 :: 228 :: 42 :: 180 :: 0 :: 15 :: 27 :: 16 :: 64 :: 104 :: 28 :: 96 :: 29 :: 79 :: 132 :: 2 :: 1 :: 167 :: 255 :: 187 :: 132 :: 1 :: 255 :: 167 :: 255 :: 175 :: 177 :: []
def dS_cX0_reckonBest_0 : List UInt8 := 42 :: 180 :: 0 :: 15 :: 3 :: 184 :: 0 :: 72 :: 42 :: 180 :: 0 :: 21 :: 180 :: 0 :: 48 :: 4 :: 100 :: 60 :: 27 :: 155 :: 0 :: 83 :: 3 :: 61 :: 28 :: 16 :: 64 :: 162 :: 0 :: 69 :: 42 :: 180 :: 0 :: 15 :: 27 :: 4 :: 96 :: 16 :: 64 :: 104 :: 28 :: 96 :: 46 :: 62 :: 3 :: 54 :: 4 :: 21 :: 4 :: 42 :: 180 :: 0 :: 21 :: 180 :: 0 :: 66 :: 162 :: 0 :: 22 :: 29 :: 42 :: 27 :: 21 :: 4 :: dS_cX0_reckonBest_1
theorem dT_cX0_reckonBest_0 : cX0_reckonBest.data.toList.drop 0 = dS_cX0_reckonBest_0 := by decide +kernel
theorem dT_cX0_reckonBest_1 : cX0_reckonBest.data.toList.drop 64 = dS_cX0_reckonBest_1 := ck_nx dT_cX0_reckonBest_0 (by decide +kernel) rfl
theorem dg_cX0_reckonBest_199 : ck1L dS_cX0_reckonBest_1 0 28 = true ∧ ck3L dS_cX0_reckonBest_1 1 182 78 = true ∧ ck3L dS_cX0_reckonBest_1 4 184 82 = true ∧ ck1L dS_cX0_reckonBest_1 7 62 = true ∧ ck3iL dS_cX0_reckonBest_1 8 132 4 1 = true ∧ ck3sL dS_cX0_reckonBest_1 11 167 (-28) = true ∧ ck1L dS_cX0_reckonBest_1 14 42 = true ∧ ck3L dS_cX0_reckonBest_1 15 180 15 = true := by decide +kernel
theorem dX0_reckonBest_64 : decode cX0_reckonBest 64 = .ok (.iload_n 2, 1) := dk_28 (ck1_s (r := 0) dT_cX0_reckonBest_1 rfl dg_cX0_reckonBest_199.1)
theorem dX0_reckonBest_65 : decode cX0_reckonBest 65 = .ok (.invokevirtual 78, 3) := dk_182 (ck3_s (r := 1) dT_cX0_reckonBest_1 rfl dg_cX0_reckonBest_199.2.1)
theorem dX0_reckonBest_68 : decode cX0_reckonBest 68 = .ok (.invokestatic 82, 3) := dk_184 (ck3_s (r := 4) dT_cX0_reckonBest_1 rfl dg_cX0_reckonBest_199.2.2.1)
theorem dX0_reckonBest_71 : decode cX0_reckonBest 71 = .ok (.istore_n 3, 1) := dk_62 (ck1_s (r := 7) dT_cX0_reckonBest_1 rfl dg_cX0_reckonBest_199.2.2.2.1)
theorem dX0_reckonBest_72 : decode cX0_reckonBest 72 = .ok (.iinc 4 1, 3) := dk_132 (ck3i_s (r := 8) dT_cX0_reckonBest_1 rfl dg_cX0_reckonBest_199.2.2.2.2.1)
theorem dX0_reckonBest_75 : decode cX0_reckonBest 75 = .ok (.goto (-28), 3) := dk_167 (ck3s_s (r := 11) dT_cX0_reckonBest_1 rfl dg_cX0_reckonBest_199.2.2.2.2.2.1)
theorem dX0_reckonBest_78 : decode cX0_reckonBest 78 = .ok (.aload_n 0, 1) := dk_42 (ck1_s (r := 14) dT_cX0_reckonBest_1 rfl dg_cX0_reckonBest_199.2.2.2.2.2.2.1)
theorem dX0_reckonBest_79 : decode cX0_reckonBest 79 = .ok (.getfield 15, 3) := dk_180 (ck3_s (r := 15) dT_cX0_reckonBest_1 rfl dg_cX0_reckonBest_199.2.2.2.2.2.2.2)
theorem dg_cX0_reckonBest_200 : ck1L dS_cX0_reckonBest_1 18 27 = true ∧ ck2sL dS_cX0_reckonBest_1 19 16 64 = true ∧ ck1L dS_cX0_reckonBest_1 21 104 = true ∧ ck1L dS_cX0_reckonBest_1 22 28 = true ∧ ck1L dS_cX0_reckonBest_1 23 96 = true ∧ ck1L dS_cX0_reckonBest_1 24 29 = true ∧ ck1L dS_cX0_reckonBest_1 25 79 = true ∧ ck3iL dS_cX0_reckonBest_1 26 132 2 1 = true := by decide +kernel
theorem dX0_reckonBest_82 : decode cX0_reckonBest 82 = .ok (.iload_n 1, 1) := dk_27 (ck1_s (r := 18) dT_cX0_reckonBest_1 rfl dg_cX0_reckonBest_200.1)
theorem dX0_reckonBest_83 : decode cX0_reckonBest 83 = .ok (.bipush 64, 2) := dk_16 (ck2s_s (r := 19) dT_cX0_reckonBest_1 rfl dg_cX0_reckonBest_200.2.1)
theorem dX0_reckonBest_85 : decode cX0_reckonBest 85 = .ok (.imul, 1) := dk_104 (ck1_s (r := 21) dT_cX0_reckonBest_1 rfl dg_cX0_reckonBest_200.2.2.1)
theorem dX0_reckonBest_86 : decode cX0_reckonBest 86 = .ok (.iload_n 2, 1) := dk_28 (ck1_s (r := 22) dT_cX0_reckonBest_1 rfl dg_cX0_reckonBest_200.2.2.2.1)
theorem dX0_reckonBest_87 : decode cX0_reckonBest 87 = .ok (.iadd, 1) := dk_96 (ck1_s (r := 23) dT_cX0_reckonBest_1 rfl dg_cX0_reckonBest_200.2.2.2.2.1)
theorem dX0_reckonBest_88 : decode cX0_reckonBest 88 = .ok (.iload_n 3, 1) := dk_29 (ck1_s (r := 24) dT_cX0_reckonBest_1 rfl dg_cX0_reckonBest_200.2.2.2.2.2.1)
theorem dX0_reckonBest_89 : decode cX0_reckonBest 89 = .ok (.iastore, 1) := dk_79 (ck1_s (r := 25) dT_cX0_reckonBest_1 rfl dg_cX0_reckonBest_200.2.2.2.2.2.2.1)
theorem dX0_reckonBest_90 : decode cX0_reckonBest 90 = .ok (.iinc 2 1, 3) := dk_132 (ck3i_s (r := 26) dT_cX0_reckonBest_1 rfl dg_cX0_reckonBest_200.2.2.2.2.2.2.2)
theorem dg_cX0_reckonBest_201 : ck3sL dS_cX0_reckonBest_1 29 167 (-69) = true ∧ ck3iL dS_cX0_reckonBest_1 32 132 1 (-1) = true ∧ ck3sL dS_cX0_reckonBest_1 35 167 (-81) = true ∧ ck1L dS_cX0_reckonBest_1 38 177 = true := by decide +kernel
theorem dX0_reckonBest_93 : decode cX0_reckonBest 93 = .ok (.goto (-69), 3) := dk_167 (ck3s_s (r := 29) dT_cX0_reckonBest_1 rfl dg_cX0_reckonBest_201.1)
theorem dX0_reckonBest_96 : decode cX0_reckonBest 96 = .ok (.iinc 1 (-1), 3) := dk_132 (ck3i_s (r := 32) dT_cX0_reckonBest_1 rfl dg_cX0_reckonBest_201.2.1)
theorem dX0_reckonBest_99 : decode cX0_reckonBest 99 = .ok (.goto (-81), 3) := dk_167 (ck3s_s (r := 35) dT_cX0_reckonBest_1 rfl dg_cX0_reckonBest_201.2.2.1)
theorem dX0_reckonBest_102 : decode cX0_reckonBest 102 = .ok (.return_, 1) := dk_177 (ck1_s (r := 38) dT_cX0_reckonBest_1 rfl dg_cX0_reckonBest_201.2.2.2)
theorem dg_cX0_reckonGains_202 : ck1 cX0_reckonGains 0 3 = true ∧ ck1 cX0_reckonGains 1 60 = true ∧ ck1 cX0_reckonGains 2 27 = true ∧ ck1 cX0_reckonGains 3 42 = true ∧ ck3 cX0_reckonGains 4 180 21 = true ∧ ck3 cX0_reckonGains 7 180 48 = true ∧ ck3s cX0_reckonGains 10 162 69 = true ∧ ck1 cX0_reckonGains 13 3 = true := by decide +kernel
theorem dX0_reckonGains_0 : decode cX0_reckonGains 0 = .ok (.iconst 0, 1) := dk_3 dg_cX0_reckonGains_202.1
theorem dX0_reckonGains_1 : decode cX0_reckonGains 1 = .ok (.istore_n 1, 1) := dk_60 dg_cX0_reckonGains_202.2.1
theorem dX0_reckonGains_2 : decode cX0_reckonGains 2 = .ok (.iload_n 1, 1) := dk_27 dg_cX0_reckonGains_202.2.2.1
theorem dX0_reckonGains_3 : decode cX0_reckonGains 3 = .ok (.aload_n 0, 1) := dk_42 dg_cX0_reckonGains_202.2.2.2.1
theorem dX0_reckonGains_4 : decode cX0_reckonGains 4 = .ok (.getfield 21, 3) := dk_180 dg_cX0_reckonGains_202.2.2.2.2.1
theorem dX0_reckonGains_7 : decode cX0_reckonGains 7 = .ok (.getfield 48, 3) := dk_180 dg_cX0_reckonGains_202.2.2.2.2.2.1
theorem dX0_reckonGains_10 : decode cX0_reckonGains 10 = .ok (.if_icmp .ge 69, 3) := dk_162 dg_cX0_reckonGains_202.2.2.2.2.2.2.1
theorem dX0_reckonGains_13 : decode cX0_reckonGains 13 = .ok (.iconst 0, 1) := dk_3 dg_cX0_reckonGains_202.2.2.2.2.2.2.2
theorem dg_cX0_reckonGains_203 : ck1 cX0_reckonGains 14 61 = true ∧ ck1 cX0_reckonGains 15 28 = true ∧ ck1 cX0_reckonGains 16 42 = true ∧ ck3 cX0_reckonGains 17 180 21 = true ∧ ck3 cX0_reckonGains 20 180 66 = true ∧ ck3s cX0_reckonGains 23 162 50 = true ∧ ck1 cX0_reckonGains 26 42 = true ∧ ck3 cX0_reckonGains 27 180 25 = true := by decide +kernel
theorem dX0_reckonGains_14 : decode cX0_reckonGains 14 = .ok (.istore_n 2, 1) := dk_61 dg_cX0_reckonGains_203.1
theorem dX0_reckonGains_15 : decode cX0_reckonGains 15 = .ok (.iload_n 2, 1) := dk_28 dg_cX0_reckonGains_203.2.1
theorem dX0_reckonGains_16 : decode cX0_reckonGains 16 = .ok (.aload_n 0, 1) := dk_42 dg_cX0_reckonGains_203.2.2.1
theorem dX0_reckonGains_17 : decode cX0_reckonGains 17 = .ok (.getfield 21, 3) := dk_180 dg_cX0_reckonGains_203.2.2.2.1
theorem dX0_reckonGains_20 : decode cX0_reckonGains 20 = .ok (.getfield 66, 3) := dk_180 dg_cX0_reckonGains_203.2.2.2.2.1
theorem dX0_reckonGains_23 : decode cX0_reckonGains 23 = .ok (.if_icmp .ge 50, 3) := dk_162 dg_cX0_reckonGains_203.2.2.2.2.2.1
theorem dX0_reckonGains_26 : decode cX0_reckonGains 26 = .ok (.aload_n 0, 1) := dk_42 dg_cX0_reckonGains_203.2.2.2.2.2.2.1
theorem dX0_reckonGains_27 : decode cX0_reckonGains 27 = .ok (.getfield 25, 3) := dk_180 dg_cX0_reckonGains_203.2.2.2.2.2.2.2
theorem dg_cX0_reckonGains_204 : ck1 cX0_reckonGains 30 27 = true ∧ ck1 cX0_reckonGains 31 28 = true ∧ ck3 cX0_reckonGains 32 182 61 = true ∧ ck1 cX0_reckonGains 35 62 = true ∧ ck1 cX0_reckonGains 36 42 = true ∧ ck3 cX0_reckonGains 37 180 18 = true ∧ ck1 cX0_reckonGains 40 27 = true ∧ ck2s cX0_reckonGains 41 16 6 = true := by decide +kernel
theorem dX0_reckonGains_30 : decode cX0_reckonGains 30 = .ok (.iload_n 1, 1) := dk_27 dg_cX0_reckonGains_204.1
theorem dX0_reckonGains_31 : decode cX0_reckonGains 31 = .ok (.iload_n 2, 1) := dk_28 dg_cX0_reckonGains_204.2.1
theorem dX0_reckonGains_32 : decode cX0_reckonGains 32 = .ok (.invokevirtual 61, 3) := dk_182 dg_cX0_reckonGains_204.2.2.1
theorem dX0_reckonGains_35 : decode cX0_reckonGains 35 = .ok (.istore_n 3, 1) := dk_62 dg_cX0_reckonGains_204.2.2.2.1
theorem dX0_reckonGains_36 : decode cX0_reckonGains 36 = .ok (.aload_n 0, 1) := dk_42 dg_cX0_reckonGains_204.2.2.2.2.1
theorem dX0_reckonGains_37 : decode cX0_reckonGains 37 = .ok (.getfield 18, 3) := dk_180 dg_cX0_reckonGains_204.2.2.2.2.2.1
theorem dX0_reckonGains_40 : decode cX0_reckonGains 40 = .ok (.iload_n 1, 1) := dk_27 dg_cX0_reckonGains_204.2.2.2.2.2.2.1
theorem dX0_reckonGains_41 : decode cX0_reckonGains 41 = .ok (.bipush 6, 2) := dk_16 dg_cX0_reckonGains_204.2.2.2.2.2.2.2
theorem dg_cX0_reckonGains_205 : ck1 cX0_reckonGains 43 104 = true ∧ ck1 cX0_reckonGains 44 28 = true ∧ ck1 cX0_reckonGains 45 96 = true ∧ ck1 cX0_reckonGains 46 29 = true ∧ ck1 cX0_reckonGains 47 42 = true ∧ ck3 cX0_reckonGains 48 180 21 = true ∧ ck3 cX0_reckonGains 51 180 69 = true ∧ ck3s cX0_reckonGains 54 163 11 = true := by decide +kernel
theorem dX0_reckonGains_43 : decode cX0_reckonGains 43 = .ok (.imul, 1) := dk_104 dg_cX0_reckonGains_205.1
theorem dX0_reckonGains_44 : decode cX0_reckonGains 44 = .ok (.iload_n 2, 1) := dk_28 dg_cX0_reckonGains_205.2.1
theorem dX0_reckonGains_45 : decode cX0_reckonGains 45 = .ok (.iadd, 1) := dk_96 dg_cX0_reckonGains_205.2.2.1
theorem dX0_reckonGains_46 : decode cX0_reckonGains 46 = .ok (.iload_n 3, 1) := dk_29 dg_cX0_reckonGains_205.2.2.2.1
theorem dX0_reckonGains_47 : decode cX0_reckonGains 47 = .ok (.aload_n 0, 1) := dk_42 dg_cX0_reckonGains_205.2.2.2.2.1
theorem dX0_reckonGains_48 : decode cX0_reckonGains 48 = .ok (.getfield 21, 3) := dk_180 dg_cX0_reckonGains_205.2.2.2.2.2.1
theorem dX0_reckonGains_51 : decode cX0_reckonGains 51 = .ok (.getfield 69, 3) := dk_180 dg_cX0_reckonGains_205.2.2.2.2.2.2.1
theorem dX0_reckonGains_54 : decode cX0_reckonGains 54 = .ok (.if_icmp .gt 11, 3) := dk_163 dg_cX0_reckonGains_205.2.2.2.2.2.2.2
theorem dg_cX0_reckonGains_206 : ck3s cX0_reckonGains 57 17 10000 = true ∧ ck1 cX0_reckonGains 60 29 = true ∧ ck1 cX0_reckonGains 61 100 = true ∧ ck3s cX0_reckonGains 62 167 4 = true := by decide +kernel
theorem dX0_reckonGains_57 : decode cX0_reckonGains 57 = .ok (.sipush 10000, 3) := dk_17 dg_cX0_reckonGains_206.1
theorem dX0_reckonGains_60 : decode cX0_reckonGains 60 = .ok (.iload_n 3, 1) := dk_29 dg_cX0_reckonGains_206.2.1
theorem dX0_reckonGains_61 : decode cX0_reckonGains 61 = .ok (.isub, 1) := dk_100 dg_cX0_reckonGains_206.2.2.1
theorem dX0_reckonGains_62 : decode cX0_reckonGains 62 = .ok (.goto 4, 3) := dk_167 dg_cX0_reckonGains_206.2.2.2
def dS_cX0_reckonGains_1 : List UInt8 := 4 :: 2 :: 79 :: 132 :: 2 :: 1 :: 167 :: 255 :: 201 :: 132 :: 1 :: 1 :: 167 :: 255 :: 182 :: 177 :: []
def dS_cX0_reckonGains_0 : List UInt8 := 3 :: 60 :: 27 :: 42 :: 180 :: 0 :: 21 :: 180 :: 0 :: 48 :: 162 :: 0 :: 69 :: 3 :: 61 :: 28 :: 42 :: 180 :: 0 :: 21 :: 180 :: 0 :: 66 :: 162 :: 0 :: 50 :: 42 :: 180 :: 0 :: 25 :: 27 :: 28 :: 182 :: 0 :: 61 :: 62 :: 42 :: 180 :: 0 :: 18 :: 27 :: 16 :: 6 :: 104 :: 28 :: 96 :: 29 :: 42 :: 180 :: 0 :: 21 :: 180 :: 0 :: 69 :: 163 :: 0 :: 11 :: 17 :: 39 :: 16 :: 29 :: 100 :: 167 :: 0 :: dS_cX0_reckonGains_1
theorem dT_cX0_reckonGains_0 : cX0_reckonGains.data.toList.drop 0 = dS_cX0_reckonGains_0 := by decide +kernel
theorem dT_cX0_reckonGains_1 : cX0_reckonGains.data.toList.drop 64 = dS_cX0_reckonGains_1 := ck_nx dT_cX0_reckonGains_0 (by decide +kernel) rfl
theorem dg_cX0_reckonGains_207 : ck1L dS_cX0_reckonGains_1 1 2 = true ∧ ck1L dS_cX0_reckonGains_1 2 79 = true ∧ ck3iL dS_cX0_reckonGains_1 3 132 2 1 = true ∧ ck3sL dS_cX0_reckonGains_1 6 167 (-55) = true ∧ ck3iL dS_cX0_reckonGains_1 9 132 1 1 = true ∧ ck3sL dS_cX0_reckonGains_1 12 167 (-74) = true ∧ ck1L dS_cX0_reckonGains_1 15 177 = true := by decide +kernel
theorem dX0_reckonGains_65 : decode cX0_reckonGains 65 = .ok (.iconst (-1), 1) := dk_2 (ck1_s (r := 1) dT_cX0_reckonGains_1 rfl dg_cX0_reckonGains_207.1)
theorem dX0_reckonGains_66 : decode cX0_reckonGains 66 = .ok (.iastore, 1) := dk_79 (ck1_s (r := 2) dT_cX0_reckonGains_1 rfl dg_cX0_reckonGains_207.2.1)
theorem dX0_reckonGains_67 : decode cX0_reckonGains 67 = .ok (.iinc 2 1, 3) := dk_132 (ck3i_s (r := 3) dT_cX0_reckonGains_1 rfl dg_cX0_reckonGains_207.2.2.1)
theorem dX0_reckonGains_70 : decode cX0_reckonGains 70 = .ok (.goto (-55), 3) := dk_167 (ck3s_s (r := 6) dT_cX0_reckonGains_1 rfl dg_cX0_reckonGains_207.2.2.2.1)
theorem dX0_reckonGains_73 : decode cX0_reckonGains 73 = .ok (.iinc 1 1, 3) := dk_132 (ck3i_s (r := 9) dT_cX0_reckonGains_1 rfl dg_cX0_reckonGains_207.2.2.2.2.1)
theorem dX0_reckonGains_76 : decode cX0_reckonGains 76 = .ok (.goto (-74), 3) := dk_167 (ck3s_s (r := 12) dT_cX0_reckonGains_1 rfl dg_cX0_reckonGains_207.2.2.2.2.2.1)
theorem dX0_reckonGains_79 : decode cX0_reckonGains 79 = .ok (.return_, 1) := dk_177 (ck1_s (r := 15) dT_cX0_reckonGains_1 rfl dg_cX0_reckonGains_207.2.2.2.2.2.2)
theorem dg_cX0_worthOf_208 : ck1 cX0_worthOf 0 42 = true ∧ ck3 cX0_worthOf 1 180 18 = true ∧ ck1 cX0_worthOf 4 27 = true ∧ ck2s cX0_worthOf 5 16 6 = true ∧ ck1 cX0_worthOf 7 104 = true ∧ ck1 cX0_worthOf 8 28 = true ∧ ck1 cX0_worthOf 9 96 = true ∧ ck1 cX0_worthOf 10 46 = true := by decide +kernel
theorem dX0_worthOf_0 : decode cX0_worthOf 0 = .ok (.aload_n 0, 1) := dk_42 dg_cX0_worthOf_208.1
theorem dX0_worthOf_1 : decode cX0_worthOf 1 = .ok (.getfield 18, 3) := dk_180 dg_cX0_worthOf_208.2.1
theorem dX0_worthOf_4 : decode cX0_worthOf 4 = .ok (.iload_n 1, 1) := dk_27 dg_cX0_worthOf_208.2.2.1
theorem dX0_worthOf_5 : decode cX0_worthOf 5 = .ok (.bipush 6, 2) := dk_16 dg_cX0_worthOf_208.2.2.2.1
theorem dX0_worthOf_7 : decode cX0_worthOf 7 = .ok (.imul, 1) := dk_104 dg_cX0_worthOf_208.2.2.2.2.1
theorem dX0_worthOf_8 : decode cX0_worthOf 8 = .ok (.iload_n 2, 1) := dk_28 dg_cX0_worthOf_208.2.2.2.2.2.1
theorem dX0_worthOf_9 : decode cX0_worthOf 9 = .ok (.iadd, 1) := dk_96 dg_cX0_worthOf_208.2.2.2.2.2.2.1
theorem dX0_worthOf_10 : decode cX0_worthOf 10 = .ok (.iaload, 1) := dk_46 dg_cX0_worthOf_208.2.2.2.2.2.2.2
theorem dg_cX0_worthOf_209 : ck2 cX0_worthOf 11 54 4 = true ∧ ck2 cX0_worthOf 13 21 4 = true ∧ ck1 cX0_worthOf 15 2 = true ∧ ck3s cX0_worthOf 16 159 11 = true ∧ ck1 cX0_worthOf 19 29 = true ∧ ck1 cX0_worthOf 20 28 = true ∧ ck1 cX0_worthOf 21 122 = true ∧ ck1 cX0_worthOf 22 4 = true := by decide +kernel
theorem dX0_worthOf_11 : decode cX0_worthOf 11 = .ok (.istore 4, 2) := dk_54 dg_cX0_worthOf_209.1
theorem dX0_worthOf_13 : decode cX0_worthOf 13 = .ok (.iload 4, 2) := dk_21 dg_cX0_worthOf_209.2.1
theorem dX0_worthOf_15 : decode cX0_worthOf 15 = .ok (.iconst (-1), 1) := dk_2 dg_cX0_worthOf_209.2.2.1
theorem dX0_worthOf_16 : decode cX0_worthOf 16 = .ok (.if_icmp .eq 11, 3) := dk_159 dg_cX0_worthOf_209.2.2.2.1
theorem dX0_worthOf_19 : decode cX0_worthOf 19 = .ok (.iload_n 3, 1) := dk_29 dg_cX0_worthOf_209.2.2.2.2.1
theorem dX0_worthOf_20 : decode cX0_worthOf 20 = .ok (.iload_n 2, 1) := dk_28 dg_cX0_worthOf_209.2.2.2.2.2.1
theorem dX0_worthOf_21 : decode cX0_worthOf 21 = .ok (.ishr, 1) := dk_122 dg_cX0_worthOf_209.2.2.2.2.2.2.1
theorem dX0_worthOf_22 : decode cX0_worthOf 22 = .ok (.iconst 1, 1) := dk_4 dg_cX0_worthOf_209.2.2.2.2.2.2.2
theorem dg_cX0_worthOf_210 : ck1 cX0_worthOf 23 126 = true ∧ ck3s cX0_worthOf 24 153 5 = true ∧ ck1 cX0_worthOf 27 2 = true ∧ ck1 cX0_worthOf 28 172 = true ∧ ck2 cX0_worthOf 29 21 4 = true ∧ ck1 cX0_worthOf 31 42 = true ∧ ck3 cX0_worthOf 32 180 15 = true ∧ ck1 cX0_worthOf 35 27 = true := by decide +kernel
theorem dX0_worthOf_23 : decode cX0_worthOf 23 = .ok (.iand, 1) := dk_126 dg_cX0_worthOf_210.1
theorem dX0_worthOf_24 : decode cX0_worthOf 24 = .ok (.ifCond .eq 5, 3) := dk_153 dg_cX0_worthOf_210.2.1
theorem dX0_worthOf_27 : decode cX0_worthOf 27 = .ok (.iconst (-1), 1) := dk_2 dg_cX0_worthOf_210.2.2.1
theorem dX0_worthOf_28 : decode cX0_worthOf 28 = .ok (.ireturn, 1) := dk_172 dg_cX0_worthOf_210.2.2.2.1
theorem dX0_worthOf_29 : decode cX0_worthOf 29 = .ok (.iload 4, 2) := dk_21 dg_cX0_worthOf_210.2.2.2.2.1
theorem dX0_worthOf_31 : decode cX0_worthOf 31 = .ok (.aload_n 0, 1) := dk_42 dg_cX0_worthOf_210.2.2.2.2.2.1
theorem dX0_worthOf_32 : decode cX0_worthOf 32 = .ok (.getfield 15, 3) := dk_180 dg_cX0_worthOf_210.2.2.2.2.2.2.1
theorem dX0_worthOf_35 : decode cX0_worthOf 35 = .ok (.iload_n 1, 1) := dk_27 dg_cX0_worthOf_210.2.2.2.2.2.2.2
theorem dg_cX0_worthOf_211 : ck1 cX0_worthOf 36 4 = true ∧ ck1 cX0_worthOf 37 96 = true ∧ ck2s cX0_worthOf 38 16 64 = true ∧ ck1 cX0_worthOf 40 104 = true ∧ ck1 cX0_worthOf 41 29 = true ∧ ck1 cX0_worthOf 42 4 = true ∧ ck1 cX0_worthOf 43 28 = true ∧ ck1 cX0_worthOf 44 120 = true := by decide +kernel
theorem dX0_worthOf_36 : decode cX0_worthOf 36 = .ok (.iconst 1, 1) := dk_4 dg_cX0_worthOf_211.1
theorem dX0_worthOf_37 : decode cX0_worthOf 37 = .ok (.iadd, 1) := dk_96 dg_cX0_worthOf_211.2.1
theorem dX0_worthOf_38 : decode cX0_worthOf 38 = .ok (.bipush 64, 2) := dk_16 dg_cX0_worthOf_211.2.2.1
theorem dX0_worthOf_40 : decode cX0_worthOf 40 = .ok (.imul, 1) := dk_104 dg_cX0_worthOf_211.2.2.2.1
theorem dX0_worthOf_41 : decode cX0_worthOf 41 = .ok (.iload_n 3, 1) := dk_29 dg_cX0_worthOf_211.2.2.2.2.1
theorem dX0_worthOf_42 : decode cX0_worthOf 42 = .ok (.iconst 1, 1) := dk_4 dg_cX0_worthOf_211.2.2.2.2.2.1
theorem dX0_worthOf_43 : decode cX0_worthOf 43 = .ok (.iload_n 2, 1) := dk_28 dg_cX0_worthOf_211.2.2.2.2.2.2.1
theorem dX0_worthOf_44 : decode cX0_worthOf 44 = .ok (.ishl, 1) := dk_120 dg_cX0_worthOf_211.2.2.2.2.2.2.2
theorem dg_cX0_worthOf_212 : ck1 cX0_worthOf 45 128 = true ∧ ck1 cX0_worthOf 46 96 = true ∧ ck1 cX0_worthOf 47 46 = true ∧ ck1 cX0_worthOf 48 96 = true ∧ ck1 cX0_worthOf 49 172 = true := by decide +kernel
theorem dX0_worthOf_45 : decode cX0_worthOf 45 = .ok (.ior, 1) := dk_128 dg_cX0_worthOf_212.1
theorem dX0_worthOf_46 : decode cX0_worthOf 46 = .ok (.iadd, 1) := dk_96 dg_cX0_worthOf_212.2.1
theorem dX0_worthOf_47 : decode cX0_worthOf 47 = .ok (.iaload, 1) := dk_46 dg_cX0_worthOf_212.2.2.1
theorem dX0_worthOf_48 : decode cX0_worthOf 48 = .ok (.iadd, 1) := dk_96 dg_cX0_worthOf_212.2.2.2.1
theorem dX0_worthOf_49 : decode cX0_worthOf 49 = .ok (.ireturn, 1) := dk_172 dg_cX0_worthOf_212.2.2.2.2
theorem dg_cX10_about_213 : ck1 cX10_about 0 27 = true := by decide +kernel
theorem dX10_about_0 : decode cX10_about 0 = .ok (.iload_n 1, 1) := dk_27 dg_cX10_about_213
theorem dX10_about_1 : decode cX10_about 1 = .ok (.tableswitch 183 0 13 #[71, 79, 87, 95, 103, 111, 119, 127, 135, 143, 151, 156, 164, 175], 71) := by decide +kernel
def dS_cX10_about_2 : List UInt8 := 42 :: 180 :: 0 :: 46 :: 180 :: 1 :: 76 :: 172 :: 42 :: 180 :: 0 :: 46 :: 180 :: 1 :: 79 :: 172 :: 42 :: 180 :: 0 :: 76 :: 180 :: 1 :: 82 :: 172 :: 42 :: 180 :: 1 :: 32 :: 172 :: 42 :: 180 :: 0 :: 10 :: 180 :: 0 :: 88 :: 172 :: 42 :: 180 :: 0 :: 28 :: 180 :: 1 :: 85 :: 180 :: 1 :: 89 :: 172 :: 42 :: 180 :: 0 :: 69 :: 180 :: 1 :: 94 :: 172 :: 2 :: 172 :: []
def dS_cX10_about_1 : List UInt8 := 0 :: 0 :: 0 :: 164 :: 0 :: 0 :: 0 :: 175 :: 42 :: 180 :: 0 :: 28 :: 180 :: 0 :: 111 :: 172 :: 42 :: 180 :: 0 :: 28 :: 180 :: 1 :: 5 :: 172 :: 42 :: 180 :: 0 :: 28 :: 180 :: 1 :: 64 :: 172 :: 42 :: 180 :: 0 :: 28 :: 180 :: 1 :: 67 :: 172 :: 42 :: 180 :: 0 :: 28 :: 180 :: 1 :: 70 :: 172 :: 42 :: 180 :: 0 :: 37 :: 182 :: 0 :: 150 :: 172 :: 42 :: 180 :: 0 :: 37 :: 182 :: 1 :: 73 :: 172 :: dS_cX10_about_2
def dS_cX10_about_0 : List UInt8 := 27 :: 170 :: 0 :: 0 :: 0 :: 0 :: 0 :: 183 :: 0 :: 0 :: 0 :: 0 :: 0 :: 0 :: 0 :: 13 :: 0 :: 0 :: 0 :: 71 :: 0 :: 0 :: 0 :: 79 :: 0 :: 0 :: 0 :: 87 :: 0 :: 0 :: 0 :: 95 :: 0 :: 0 :: 0 :: 103 :: 0 :: 0 :: 0 :: 111 :: 0 :: 0 :: 0 :: 119 :: 0 :: 0 :: 0 :: 127 :: 0 :: 0 :: 0 :: 135 :: 0 :: 0 :: 0 :: 143 :: 0 :: 0 :: 0 :: 151 :: 0 :: 0 :: 0 :: 156 :: dS_cX10_about_1
theorem dT_cX10_about_0 : cX10_about.data.toList.drop 0 = dS_cX10_about_0 := by decide +kernel
theorem dT_cX10_about_1 : cX10_about.data.toList.drop 64 = dS_cX10_about_1 := ck_nx dT_cX10_about_0 (by decide +kernel) rfl
theorem dT_cX10_about_2 : cX10_about.data.toList.drop 128 = dS_cX10_about_2 := ck_nx dT_cX10_about_1 (by decide +kernel) rfl
theorem dg_cX10_about_214 : ck1L dS_cX10_about_1 8 42 = true ∧ ck3L dS_cX10_about_1 9 180 28 = true ∧ ck3L dS_cX10_about_1 12 180 111 = true ∧ ck1L dS_cX10_about_1 15 172 = true ∧ ck1L dS_cX10_about_1 16 42 = true ∧ ck3L dS_cX10_about_1 17 180 28 = true ∧ ck3L dS_cX10_about_1 20 180 261 = true ∧ ck1L dS_cX10_about_1 23 172 = true := by decide +kernel
theorem dX10_about_72 : decode cX10_about 72 = .ok (.aload_n 0, 1) := dk_42 (ck1_s (r := 8) dT_cX10_about_1 rfl dg_cX10_about_214.1)
theorem dX10_about_73 : decode cX10_about 73 = .ok (.getfield 28, 3) := dk_180 (ck3_s (r := 9) dT_cX10_about_1 rfl dg_cX10_about_214.2.1)
theorem dX10_about_76 : decode cX10_about 76 = .ok (.getfield 111, 3) := dk_180 (ck3_s (r := 12) dT_cX10_about_1 rfl dg_cX10_about_214.2.2.1)
theorem dX10_about_79 : decode cX10_about 79 = .ok (.ireturn, 1) := dk_172 (ck1_s (r := 15) dT_cX10_about_1 rfl dg_cX10_about_214.2.2.2.1)
theorem dX10_about_80 : decode cX10_about 80 = .ok (.aload_n 0, 1) := dk_42 (ck1_s (r := 16) dT_cX10_about_1 rfl dg_cX10_about_214.2.2.2.2.1)
theorem dX10_about_81 : decode cX10_about 81 = .ok (.getfield 28, 3) := dk_180 (ck3_s (r := 17) dT_cX10_about_1 rfl dg_cX10_about_214.2.2.2.2.2.1)
theorem dX10_about_84 : decode cX10_about 84 = .ok (.getfield 261, 3) := dk_180 (ck3_s (r := 20) dT_cX10_about_1 rfl dg_cX10_about_214.2.2.2.2.2.2.1)
theorem dX10_about_87 : decode cX10_about 87 = .ok (.ireturn, 1) := dk_172 (ck1_s (r := 23) dT_cX10_about_1 rfl dg_cX10_about_214.2.2.2.2.2.2.2)
theorem dg_cX10_about_215 : ck1L dS_cX10_about_1 24 42 = true ∧ ck3L dS_cX10_about_1 25 180 28 = true ∧ ck3L dS_cX10_about_1 28 180 320 = true ∧ ck1L dS_cX10_about_1 31 172 = true ∧ ck1L dS_cX10_about_1 32 42 = true ∧ ck3L dS_cX10_about_1 33 180 28 = true ∧ ck3L dS_cX10_about_1 36 180 323 = true ∧ ck1L dS_cX10_about_1 39 172 = true := by decide +kernel
theorem dX10_about_88 : decode cX10_about 88 = .ok (.aload_n 0, 1) := dk_42 (ck1_s (r := 24) dT_cX10_about_1 rfl dg_cX10_about_215.1)
theorem dX10_about_89 : decode cX10_about 89 = .ok (.getfield 28, 3) := dk_180 (ck3_s (r := 25) dT_cX10_about_1 rfl dg_cX10_about_215.2.1)
theorem dX10_about_92 : decode cX10_about 92 = .ok (.getfield 320, 3) := dk_180 (ck3_s (r := 28) dT_cX10_about_1 rfl dg_cX10_about_215.2.2.1)
theorem dX10_about_95 : decode cX10_about 95 = .ok (.ireturn, 1) := dk_172 (ck1_s (r := 31) dT_cX10_about_1 rfl dg_cX10_about_215.2.2.2.1)
theorem dX10_about_96 : decode cX10_about 96 = .ok (.aload_n 0, 1) := dk_42 (ck1_s (r := 32) dT_cX10_about_1 rfl dg_cX10_about_215.2.2.2.2.1)
theorem dX10_about_97 : decode cX10_about 97 = .ok (.getfield 28, 3) := dk_180 (ck3_s (r := 33) dT_cX10_about_1 rfl dg_cX10_about_215.2.2.2.2.2.1)
theorem dX10_about_100 : decode cX10_about 100 = .ok (.getfield 323, 3) := dk_180 (ck3_s (r := 36) dT_cX10_about_1 rfl dg_cX10_about_215.2.2.2.2.2.2.1)
theorem dX10_about_103 : decode cX10_about 103 = .ok (.ireturn, 1) := dk_172 (ck1_s (r := 39) dT_cX10_about_1 rfl dg_cX10_about_215.2.2.2.2.2.2.2)
theorem dg_cX10_about_216 : ck1L dS_cX10_about_1 40 42 = true ∧ ck3L dS_cX10_about_1 41 180 28 = true ∧ ck3L dS_cX10_about_1 44 180 326 = true ∧ ck1L dS_cX10_about_1 47 172 = true ∧ ck1L dS_cX10_about_1 48 42 = true ∧ ck3L dS_cX10_about_1 49 180 37 = true ∧ ck3L dS_cX10_about_1 52 182 150 = true ∧ ck1L dS_cX10_about_1 55 172 = true := by decide +kernel
theorem dX10_about_104 : decode cX10_about 104 = .ok (.aload_n 0, 1) := dk_42 (ck1_s (r := 40) dT_cX10_about_1 rfl dg_cX10_about_216.1)
theorem dX10_about_105 : decode cX10_about 105 = .ok (.getfield 28, 3) := dk_180 (ck3_s (r := 41) dT_cX10_about_1 rfl dg_cX10_about_216.2.1)
theorem dX10_about_108 : decode cX10_about 108 = .ok (.getfield 326, 3) := dk_180 (ck3_s (r := 44) dT_cX10_about_1 rfl dg_cX10_about_216.2.2.1)
theorem dX10_about_111 : decode cX10_about 111 = .ok (.ireturn, 1) := dk_172 (ck1_s (r := 47) dT_cX10_about_1 rfl dg_cX10_about_216.2.2.2.1)
theorem dX10_about_112 : decode cX10_about 112 = .ok (.aload_n 0, 1) := dk_42 (ck1_s (r := 48) dT_cX10_about_1 rfl dg_cX10_about_216.2.2.2.2.1)
theorem dX10_about_113 : decode cX10_about 113 = .ok (.getfield 37, 3) := dk_180 (ck3_s (r := 49) dT_cX10_about_1 rfl dg_cX10_about_216.2.2.2.2.2.1)
theorem dX10_about_116 : decode cX10_about 116 = .ok (.invokevirtual 150, 3) := dk_182 (ck3_s (r := 52) dT_cX10_about_1 rfl dg_cX10_about_216.2.2.2.2.2.2.1)
theorem dX10_about_119 : decode cX10_about 119 = .ok (.ireturn, 1) := dk_172 (ck1_s (r := 55) dT_cX10_about_1 rfl dg_cX10_about_216.2.2.2.2.2.2.2)
theorem dg_cX10_about_217 : ck1L dS_cX10_about_1 56 42 = true ∧ ck3L dS_cX10_about_1 57 180 37 = true ∧ ck3L dS_cX10_about_1 60 182 329 = true ∧ ck1L dS_cX10_about_1 63 172 = true ∧ ck1L dS_cX10_about_2 0 42 = true ∧ ck3L dS_cX10_about_2 1 180 46 = true ∧ ck3L dS_cX10_about_2 4 180 332 = true ∧ ck1L dS_cX10_about_2 7 172 = true := by decide +kernel
theorem dX10_about_120 : decode cX10_about 120 = .ok (.aload_n 0, 1) := dk_42 (ck1_s (r := 56) dT_cX10_about_1 rfl dg_cX10_about_217.1)
theorem dX10_about_121 : decode cX10_about 121 = .ok (.getfield 37, 3) := dk_180 (ck3_s (r := 57) dT_cX10_about_1 rfl dg_cX10_about_217.2.1)
theorem dX10_about_124 : decode cX10_about 124 = .ok (.invokevirtual 329, 3) := dk_182 (ck3_s (r := 60) dT_cX10_about_1 rfl dg_cX10_about_217.2.2.1)
theorem dX10_about_127 : decode cX10_about 127 = .ok (.ireturn, 1) := dk_172 (ck1_s (r := 63) dT_cX10_about_1 rfl dg_cX10_about_217.2.2.2.1)
theorem dX10_about_128 : decode cX10_about 128 = .ok (.aload_n 0, 1) := dk_42 (ck1_s (r := 0) dT_cX10_about_2 rfl dg_cX10_about_217.2.2.2.2.1)
theorem dX10_about_129 : decode cX10_about 129 = .ok (.getfield 46, 3) := dk_180 (ck3_s (r := 1) dT_cX10_about_2 rfl dg_cX10_about_217.2.2.2.2.2.1)
theorem dX10_about_132 : decode cX10_about 132 = .ok (.getfield 332, 3) := dk_180 (ck3_s (r := 4) dT_cX10_about_2 rfl dg_cX10_about_217.2.2.2.2.2.2.1)
theorem dX10_about_135 : decode cX10_about 135 = .ok (.ireturn, 1) := dk_172 (ck1_s (r := 7) dT_cX10_about_2 rfl dg_cX10_about_217.2.2.2.2.2.2.2)
theorem dg_cX10_about_218 : ck1L dS_cX10_about_2 8 42 = true ∧ ck3L dS_cX10_about_2 9 180 46 = true ∧ ck3L dS_cX10_about_2 12 180 335 = true ∧ ck1L dS_cX10_about_2 15 172 = true ∧ ck1L dS_cX10_about_2 16 42 = true ∧ ck3L dS_cX10_about_2 17 180 76 = true ∧ ck3L dS_cX10_about_2 20 180 338 = true ∧ ck1L dS_cX10_about_2 23 172 = true := by decide +kernel
theorem dX10_about_136 : decode cX10_about 136 = .ok (.aload_n 0, 1) := dk_42 (ck1_s (r := 8) dT_cX10_about_2 rfl dg_cX10_about_218.1)
theorem dX10_about_137 : decode cX10_about 137 = .ok (.getfield 46, 3) := dk_180 (ck3_s (r := 9) dT_cX10_about_2 rfl dg_cX10_about_218.2.1)
theorem dX10_about_140 : decode cX10_about 140 = .ok (.getfield 335, 3) := dk_180 (ck3_s (r := 12) dT_cX10_about_2 rfl dg_cX10_about_218.2.2.1)
theorem dX10_about_143 : decode cX10_about 143 = .ok (.ireturn, 1) := dk_172 (ck1_s (r := 15) dT_cX10_about_2 rfl dg_cX10_about_218.2.2.2.1)
theorem dX10_about_144 : decode cX10_about 144 = .ok (.aload_n 0, 1) := dk_42 (ck1_s (r := 16) dT_cX10_about_2 rfl dg_cX10_about_218.2.2.2.2.1)
theorem dX10_about_145 : decode cX10_about 145 = .ok (.getfield 76, 3) := dk_180 (ck3_s (r := 17) dT_cX10_about_2 rfl dg_cX10_about_218.2.2.2.2.2.1)
theorem dX10_about_148 : decode cX10_about 148 = .ok (.getfield 338, 3) := dk_180 (ck3_s (r := 20) dT_cX10_about_2 rfl dg_cX10_about_218.2.2.2.2.2.2.1)
theorem dX10_about_151 : decode cX10_about 151 = .ok (.ireturn, 1) := dk_172 (ck1_s (r := 23) dT_cX10_about_2 rfl dg_cX10_about_218.2.2.2.2.2.2.2)
theorem dg_cX10_about_219 : ck1L dS_cX10_about_2 24 42 = true ∧ ck3L dS_cX10_about_2 25 180 288 = true ∧ ck1L dS_cX10_about_2 28 172 = true ∧ ck1L dS_cX10_about_2 29 42 = true ∧ ck3L dS_cX10_about_2 30 180 10 = true ∧ ck3L dS_cX10_about_2 33 180 88 = true ∧ ck1L dS_cX10_about_2 36 172 = true ∧ ck1L dS_cX10_about_2 37 42 = true := by decide +kernel
theorem dX10_about_152 : decode cX10_about 152 = .ok (.aload_n 0, 1) := dk_42 (ck1_s (r := 24) dT_cX10_about_2 rfl dg_cX10_about_219.1)
theorem dX10_about_153 : decode cX10_about 153 = .ok (.getfield 288, 3) := dk_180 (ck3_s (r := 25) dT_cX10_about_2 rfl dg_cX10_about_219.2.1)
theorem dX10_about_156 : decode cX10_about 156 = .ok (.ireturn, 1) := dk_172 (ck1_s (r := 28) dT_cX10_about_2 rfl dg_cX10_about_219.2.2.1)
theorem dX10_about_157 : decode cX10_about 157 = .ok (.aload_n 0, 1) := dk_42 (ck1_s (r := 29) dT_cX10_about_2 rfl dg_cX10_about_219.2.2.2.1)
theorem dX10_about_158 : decode cX10_about 158 = .ok (.getfield 10, 3) := dk_180 (ck3_s (r := 30) dT_cX10_about_2 rfl dg_cX10_about_219.2.2.2.2.1)
theorem dX10_about_161 : decode cX10_about 161 = .ok (.getfield 88, 3) := dk_180 (ck3_s (r := 33) dT_cX10_about_2 rfl dg_cX10_about_219.2.2.2.2.2.1)
theorem dX10_about_164 : decode cX10_about 164 = .ok (.ireturn, 1) := dk_172 (ck1_s (r := 36) dT_cX10_about_2 rfl dg_cX10_about_219.2.2.2.2.2.2.1)
theorem dX10_about_165 : decode cX10_about 165 = .ok (.aload_n 0, 1) := dk_42 (ck1_s (r := 37) dT_cX10_about_2 rfl dg_cX10_about_219.2.2.2.2.2.2.2)
theorem dg_cX10_about_220 : ck3L dS_cX10_about_2 38 180 28 = true ∧ ck3L dS_cX10_about_2 41 180 341 = true ∧ ck3L dS_cX10_about_2 44 180 345 = true ∧ ck1L dS_cX10_about_2 47 172 = true ∧ ck1L dS_cX10_about_2 48 42 = true ∧ ck3L dS_cX10_about_2 49 180 69 = true ∧ ck3L dS_cX10_about_2 52 180 350 = true ∧ ck1L dS_cX10_about_2 55 172 = true := by decide +kernel
theorem dX10_about_166 : decode cX10_about 166 = .ok (.getfield 28, 3) := dk_180 (ck3_s (r := 38) dT_cX10_about_2 rfl dg_cX10_about_220.1)
theorem dX10_about_169 : decode cX10_about 169 = .ok (.getfield 341, 3) := dk_180 (ck3_s (r := 41) dT_cX10_about_2 rfl dg_cX10_about_220.2.1)
theorem dX10_about_172 : decode cX10_about 172 = .ok (.getfield 345, 3) := dk_180 (ck3_s (r := 44) dT_cX10_about_2 rfl dg_cX10_about_220.2.2.1)
theorem dX10_about_175 : decode cX10_about 175 = .ok (.ireturn, 1) := dk_172 (ck1_s (r := 47) dT_cX10_about_2 rfl dg_cX10_about_220.2.2.2.1)
theorem dX10_about_176 : decode cX10_about 176 = .ok (.aload_n 0, 1) := dk_42 (ck1_s (r := 48) dT_cX10_about_2 rfl dg_cX10_about_220.2.2.2.2.1)
theorem dX10_about_177 : decode cX10_about 177 = .ok (.getfield 69, 3) := dk_180 (ck3_s (r := 49) dT_cX10_about_2 rfl dg_cX10_about_220.2.2.2.2.2.1)
theorem dX10_about_180 : decode cX10_about 180 = .ok (.getfield 350, 3) := dk_180 (ck3_s (r := 52) dT_cX10_about_2 rfl dg_cX10_about_220.2.2.2.2.2.2.1)
theorem dX10_about_183 : decode cX10_about 183 = .ok (.ireturn, 1) := dk_172 (ck1_s (r := 55) dT_cX10_about_2 rfl dg_cX10_about_220.2.2.2.2.2.2.2)
theorem dg_cX10_about_221 : ck1L dS_cX10_about_2 56 2 = true ∧ ck1L dS_cX10_about_2 57 172 = true := by decide +kernel
theorem dX10_about_184 : decode cX10_about 184 = .ok (.iconst (-1), 1) := dk_2 (ck1_s (r := 56) dT_cX10_about_2 rfl dg_cX10_about_221.1)
theorem dX10_about_185 : decode cX10_about 185 = .ok (.ireturn, 1) := dk_172 (ck1_s (r := 57) dT_cX10_about_2 rfl dg_cX10_about_221.2)
theorem dg_cX10_ask_222 : ck1 cX10_ask 0 42 = true ∧ ck3 cX10_ask 1 180 76 = true ∧ ck1 cX10_ask 4 28 = true ∧ ck3 cX10_ask 5 182 299 = true ∧ ck1 cX10_ask 8 62 = true ∧ ck1 cX10_ask 9 29 = true ∧ ck3s cX10_ask 10 153 12 = true ∧ ck1 cX10_ask 13 27 = true := by decide +kernel
theorem dX10_ask_0 : decode cX10_ask 0 = .ok (.aload_n 0, 1) := dk_42 dg_cX10_ask_222.1
theorem dX10_ask_1 : decode cX10_ask 1 = .ok (.getfield 76, 3) := dk_180 dg_cX10_ask_222.2.1
theorem dX10_ask_4 : decode cX10_ask 4 = .ok (.iload_n 2, 1) := dk_28 dg_cX10_ask_222.2.2.1
theorem dX10_ask_5 : decode cX10_ask 5 = .ok (.invokevirtual 299, 3) := dk_182 dg_cX10_ask_222.2.2.2.1
theorem dX10_ask_8 : decode cX10_ask 8 = .ok (.istore_n 3, 1) := dk_62 dg_cX10_ask_222.2.2.2.2.1
theorem dX10_ask_9 : decode cX10_ask 9 = .ok (.iload_n 3, 1) := dk_29 dg_cX10_ask_222.2.2.2.2.2.1
theorem dX10_ask_10 : decode cX10_ask 10 = .ok (.ifCond .eq 12, 3) := dk_153 dg_cX10_ask_222.2.2.2.2.2.2.1
theorem dX10_ask_13 : decode cX10_ask 13 = .ok (.iload_n 1, 1) := dk_27 dg_cX10_ask_222.2.2.2.2.2.2.2
theorem dg_cX10_ask_223 : ck3s cX10_ask 14 155 8 = true ∧ ck1 cX10_ask 17 27 = true ∧ ck1 cX10_ask 18 4 = true ∧ ck3s cX10_ask 19 164 5 = true ∧ ck1 cX10_ask 22 2 = true ∧ ck1 cX10_ask 23 172 = true ∧ ck1 cX10_ask 24 42 = true ∧ ck3 cX10_ask 25 180 76 = true := by decide +kernel
theorem dX10_ask_14 : decode cX10_ask 14 = .ok (.ifCond .lt 8, 3) := dk_155 dg_cX10_ask_223.1
theorem dX10_ask_17 : decode cX10_ask 17 = .ok (.iload_n 1, 1) := dk_27 dg_cX10_ask_223.2.1
theorem dX10_ask_18 : decode cX10_ask 18 = .ok (.iconst 1, 1) := dk_4 dg_cX10_ask_223.2.2.1
theorem dX10_ask_19 : decode cX10_ask 19 = .ok (.if_icmp .le 5, 3) := dk_164 dg_cX10_ask_223.2.2.2.1
theorem dX10_ask_22 : decode cX10_ask 22 = .ok (.iconst (-1), 1) := dk_2 dg_cX10_ask_223.2.2.2.2.1
theorem dX10_ask_23 : decode cX10_ask 23 = .ok (.ireturn, 1) := dk_172 dg_cX10_ask_223.2.2.2.2.2.1
theorem dX10_ask_24 : decode cX10_ask 24 = .ok (.aload_n 0, 1) := dk_42 dg_cX10_ask_223.2.2.2.2.2.2.1
theorem dX10_ask_25 : decode cX10_ask 25 = .ok (.getfield 76, 3) := dk_180 dg_cX10_ask_223.2.2.2.2.2.2.2
theorem dg_cX10_ask_224 : ck1 cX10_ask 28 29 = true ∧ ck3 cX10_ask 29 182 308 = true ∧ ck2 cX10_ask 32 54 4 = true ∧ ck1 cX10_ask 34 27 = true ∧ ck3s cX10_ask 35 154 8 = true ∧ ck2 cX10_ask 38 21 4 = true ∧ ck3s cX10_ask 40 167 13 = true ∧ ck1 cX10_ask 43 42 = true := by decide +kernel
theorem dX10_ask_28 : decode cX10_ask 28 = .ok (.iload_n 3, 1) := dk_29 dg_cX10_ask_224.1
theorem dX10_ask_29 : decode cX10_ask 29 = .ok (.invokevirtual 308, 3) := dk_182 dg_cX10_ask_224.2.1
theorem dX10_ask_32 : decode cX10_ask 32 = .ok (.istore 4, 2) := dk_54 dg_cX10_ask_224.2.2.1
theorem dX10_ask_34 : decode cX10_ask 34 = .ok (.iload_n 1, 1) := dk_27 dg_cX10_ask_224.2.2.2.1
theorem dX10_ask_35 : decode cX10_ask 35 = .ok (.ifCond .ne 8, 3) := dk_154 dg_cX10_ask_224.2.2.2.2.1
theorem dX10_ask_38 : decode cX10_ask 38 = .ok (.iload 4, 2) := dk_21 dg_cX10_ask_224.2.2.2.2.2.1
theorem dX10_ask_40 : decode cX10_ask 40 = .ok (.goto 13, 3) := dk_167 dg_cX10_ask_224.2.2.2.2.2.2.1
theorem dX10_ask_43 : decode cX10_ask 43 = .ok (.aload_n 0, 1) := dk_42 dg_cX10_ask_224.2.2.2.2.2.2.2
theorem dg_cX10_ask_225 : ck3 cX10_ask 44 180 76 = true ∧ ck1 cX10_ask 47 29 = true ∧ ck2 cX10_ask 48 21 4 = true ∧ ck3 cX10_ask 50 182 311 = true ∧ ck1 cX10_ask 53 172 = true := by decide +kernel
theorem dX10_ask_44 : decode cX10_ask 44 = .ok (.getfield 76, 3) := dk_180 dg_cX10_ask_225.1
theorem dX10_ask_47 : decode cX10_ask 47 = .ok (.iload_n 3, 1) := dk_29 dg_cX10_ask_225.2.1
theorem dX10_ask_48 : decode cX10_ask 48 = .ok (.iload 4, 2) := dk_21 dg_cX10_ask_225.2.2.1
theorem dX10_ask_50 : decode cX10_ask 50 = .ok (.invokevirtual 311, 3) := dk_182 dg_cX10_ask_225.2.2.2.1
theorem dX10_ask_53 : decode cX10_ask 53 = .ok (.ireturn, 1) := dk_172 dg_cX10_ask_225.2.2.2.2
theorem dg_cX10_back_226 : ck1 cX10_back 0 42 = true ∧ ck3 cX10_back 1 180 46 = true ∧ ck1 cX10_back 4 27 = true ∧ ck3 cX10_back 5 182 317 = true ∧ ck3s cX10_back 8 153 13 = true ∧ ck1 cX10_back 11 42 = true ∧ ck3 cX10_back 12 180 37 = true ∧ ck3 cX10_back 15 182 150 = true := by decide +kernel
theorem dX10_back_0 : decode cX10_back 0 = .ok (.aload_n 0, 1) := dk_42 dg_cX10_back_226.1
theorem dX10_back_1 : decode cX10_back 1 = .ok (.getfield 46, 3) := dk_180 dg_cX10_back_226.2.1
theorem dX10_back_4 : decode cX10_back 4 = .ok (.iload_n 1, 1) := dk_27 dg_cX10_back_226.2.2.1
theorem dX10_back_5 : decode cX10_back 5 = .ok (.invokevirtual 317, 3) := dk_182 dg_cX10_back_226.2.2.2.1
theorem dX10_back_8 : decode cX10_back 8 = .ok (.ifCond .eq 13, 3) := dk_153 dg_cX10_back_226.2.2.2.2.1
theorem dX10_back_11 : decode cX10_back 11 = .ok (.aload_n 0, 1) := dk_42 dg_cX10_back_226.2.2.2.2.2.1
theorem dX10_back_12 : decode cX10_back 12 = .ok (.getfield 37, 3) := dk_180 dg_cX10_back_226.2.2.2.2.2.2.1
theorem dX10_back_15 : decode cX10_back 15 = .ok (.invokevirtual 150, 3) := dk_182 dg_cX10_back_226.2.2.2.2.2.2.2
theorem dg_cX10_back_227 : ck3s cX10_back 18 167 4 = true ∧ ck1 cX10_back 21 2 = true ∧ ck1 cX10_back 22 172 = true := by decide +kernel
theorem dX10_back_18 : decode cX10_back 18 = .ok (.goto 4, 3) := dk_167 dg_cX10_back_227.1
theorem dX10_back_21 : decode cX10_back 21 = .ok (.iconst (-1), 1) := dk_2 dg_cX10_back_227.2.1
theorem dX10_back_22 : decode cX10_back 22 = .ok (.ireturn, 1) := dk_172 dg_cX10_back_227.2.2
theorem dg_cX10_breadth_228 : ck1 cX10_breadth 0 42 = true ∧ ck3 cX10_breadth 1 180 62 = true ∧ ck1 cX10_breadth 4 42 = true ∧ ck3 cX10_breadth 5 180 37 = true ∧ ck3 cX10_breadth 8 182 273 = true ∧ ck3 cX10_breadth 11 182 276 = true ∧ ck1 cX10_breadth 14 172 = true := by decide +kernel
theorem dX10_breadth_0 : decode cX10_breadth 0 = .ok (.aload_n 0, 1) := dk_42 dg_cX10_breadth_228.1
theorem dX10_breadth_1 : decode cX10_breadth 1 = .ok (.getfield 62, 3) := dk_180 dg_cX10_breadth_228.2.1
theorem dX10_breadth_4 : decode cX10_breadth 4 = .ok (.aload_n 0, 1) := dk_42 dg_cX10_breadth_228.2.2.1
theorem dX10_breadth_5 : decode cX10_breadth 5 = .ok (.getfield 37, 3) := dk_180 dg_cX10_breadth_228.2.2.2.1
theorem dX10_breadth_8 : decode cX10_breadth 8 = .ok (.invokevirtual 273, 3) := dk_182 dg_cX10_breadth_228.2.2.2.2.1
theorem dX10_breadth_11 : decode cX10_breadth 11 = .ok (.invokevirtual 276, 3) := dk_182 dg_cX10_breadth_228.2.2.2.2.2.1
theorem dX10_breadth_14 : decode cX10_breadth 14 = .ok (.ireturn, 1) := dk_172 dg_cX10_breadth_228.2.2.2.2.2.2
theorem dg_cX10_buttons_229 : ck1 cX10_buttons 0 42 = true ∧ ck3 cX10_buttons 1 180 69 = true ∧ ck3 cX10_buttons 4 182 252 = true ∧ ck1 cX10_buttons 7 172 = true := by decide +kernel
theorem dX10_buttons_0 : decode cX10_buttons 0 = .ok (.aload_n 0, 1) := dk_42 dg_cX10_buttons_229.1
theorem dX10_buttons_1 : decode cX10_buttons 1 = .ok (.getfield 69, 3) := dk_180 dg_cX10_buttons_229.2.1
theorem dX10_buttons_4 : decode cX10_buttons 4 = .ok (.invokevirtual 252, 3) := dk_182 dg_cX10_buttons_229.2.2.1
theorem dX10_buttons_7 : decode cX10_buttons 7 = .ok (.ireturn, 1) := dk_172 dg_cX10_buttons_229.2.2.2
theorem dg_cX10_change_230 : ck1 cX10_change 0 27 = true ∧ ck3s cX10_change 1 155 18 = true ∧ ck1 cX10_change 4 27 = true ∧ ck1 cX10_change 5 5 = true ∧ ck3s cX10_change 6 163 13 = true ∧ ck1 cX10_change 9 42 = true ∧ ck3 cX10_change 10 180 55 = true ∧ ck3 cX10_change 13 182 223 = true := by decide +kernel
theorem dX10_change_0 : decode cX10_change 0 = .ok (.iload_n 1, 1) := dk_27 dg_cX10_change_230.1
theorem dX10_change_1 : decode cX10_change 1 = .ok (.ifCond .lt 18, 3) := dk_155 dg_cX10_change_230.2.1
theorem dX10_change_4 : decode cX10_change 4 = .ok (.iload_n 1, 1) := dk_27 dg_cX10_change_230.2.2.1
theorem dX10_change_5 : decode cX10_change 5 = .ok (.iconst 2, 1) := dk_5 dg_cX10_change_230.2.2.2.1
theorem dX10_change_6 : decode cX10_change 6 = .ok (.if_icmp .gt 13, 3) := dk_163 dg_cX10_change_230.2.2.2.2.1
theorem dX10_change_9 : decode cX10_change 9 = .ok (.aload_n 0, 1) := dk_42 dg_cX10_change_230.2.2.2.2.2.1
theorem dX10_change_10 : decode cX10_change 10 = .ok (.getfield 55, 3) := dk_180 dg_cX10_change_230.2.2.2.2.2.2.1
theorem dX10_change_13 : decode cX10_change 13 = .ok (.invokevirtual 223, 3) := dk_182 dg_cX10_change_230.2.2.2.2.2.2.2
theorem dg_cX10_change_231 : ck3s cX10_change 16 154 5 = true ∧ ck1 cX10_change 19 2 = true ∧ ck1 cX10_change 20 172 = true ∧ ck1 cX10_change 21 27 = true ∧ ck3s cX10_change 22 154 11 = true ∧ ck1 cX10_change 25 42 = true ∧ ck3 cX10_change 26 180 55 = true ∧ ck3 cX10_change 29 180 226 = true := by decide +kernel
theorem dX10_change_16 : decode cX10_change 16 = .ok (.ifCond .ne 5, 3) := dk_154 dg_cX10_change_231.1
theorem dX10_change_19 : decode cX10_change 19 = .ok (.iconst (-1), 1) := dk_2 dg_cX10_change_231.2.1
theorem dX10_change_20 : decode cX10_change 20 = .ok (.ireturn, 1) := dk_172 dg_cX10_change_231.2.2.1
theorem dX10_change_21 : decode cX10_change 21 = .ok (.iload_n 1, 1) := dk_27 dg_cX10_change_231.2.2.2.1
theorem dX10_change_22 : decode cX10_change 22 = .ok (.ifCond .ne 11, 3) := dk_154 dg_cX10_change_231.2.2.2.2.1
theorem dX10_change_25 : decode cX10_change 25 = .ok (.aload_n 0, 1) := dk_42 dg_cX10_change_231.2.2.2.2.2.1
theorem dX10_change_26 : decode cX10_change 26 = .ok (.getfield 55, 3) := dk_180 dg_cX10_change_231.2.2.2.2.2.2.1
theorem dX10_change_29 : decode cX10_change 29 = .ok (.getfield 226, 3) := dk_180 dg_cX10_change_231.2.2.2.2.2.2.2
theorem dg_cX10_change_232 : ck1 cX10_change 32 172 = true ∧ ck1 cX10_change 33 27 = true ∧ ck1 cX10_change 34 4 = true ∧ ck3s cX10_change 35 160 13 = true ∧ ck1 cX10_change 38 42 = true ∧ ck3 cX10_change 39 180 55 = true ∧ ck3 cX10_change 42 180 229 = true ∧ ck3s cX10_change 45 167 10 = true := by decide +kernel
theorem dX10_change_32 : decode cX10_change 32 = .ok (.ireturn, 1) := dk_172 dg_cX10_change_232.1
theorem dX10_change_33 : decode cX10_change 33 = .ok (.iload_n 1, 1) := dk_27 dg_cX10_change_232.2.1
theorem dX10_change_34 : decode cX10_change 34 = .ok (.iconst 1, 1) := dk_4 dg_cX10_change_232.2.2.1
theorem dX10_change_35 : decode cX10_change 35 = .ok (.if_icmp .ne 13, 3) := dk_160 dg_cX10_change_232.2.2.2.1
theorem dX10_change_38 : decode cX10_change 38 = .ok (.aload_n 0, 1) := dk_42 dg_cX10_change_232.2.2.2.2.1
theorem dX10_change_39 : decode cX10_change 39 = .ok (.getfield 55, 3) := dk_180 dg_cX10_change_232.2.2.2.2.2.1
theorem dX10_change_42 : decode cX10_change 42 = .ok (.getfield 229, 3) := dk_180 dg_cX10_change_232.2.2.2.2.2.2.1
theorem dX10_change_45 : decode cX10_change 45 = .ok (.goto 10, 3) := dk_167 dg_cX10_change_232.2.2.2.2.2.2.2
theorem dg_cX10_change_233 : ck1 cX10_change 48 42 = true ∧ ck3 cX10_change 49 180 55 = true ∧ ck3 cX10_change 52 180 232 = true ∧ ck1 cX10_change 55 172 = true := by decide +kernel
theorem dX10_change_48 : decode cX10_change 48 = .ok (.aload_n 0, 1) := dk_42 dg_cX10_change_233.1
theorem dX10_change_49 : decode cX10_change 49 = .ok (.getfield 55, 3) := dk_180 dg_cX10_change_233.2.1
theorem dX10_change_52 : decode cX10_change 52 = .ok (.getfield 232, 3) := dk_180 dg_cX10_change_233.2.2.1
theorem dX10_change_55 : decode cX10_change 55 = .ok (.ireturn, 1) := dk_172 dg_cX10_change_233.2.2.2
theorem dg_cX10_cloth_234 : ck1 cX10_cloth 0 42 = true ∧ ck3 cX10_cloth 1 180 62 = true ∧ ck3 cX10_cloth 4 182 249 = true ∧ ck1 cX10_cloth 7 172 = true := by decide +kernel
theorem dX10_cloth_0 : decode cX10_cloth 0 = .ok (.aload_n 0, 1) := dk_42 dg_cX10_cloth_234.1
theorem dX10_cloth_1 : decode cX10_cloth 1 = .ok (.getfield 62, 3) := dk_180 dg_cX10_cloth_234.2.1
theorem dX10_cloth_4 : decode cX10_cloth 4 = .ok (.invokevirtual 249, 3) := dk_182 dg_cX10_cloth_234.2.2.1
theorem dX10_cloth_7 : decode cX10_cloth 7 = .ok (.ireturn, 1) := dk_172 dg_cX10_cloth_234.2.2.2
theorem dg_cX10_coat_235 : ck1 cX10_coat 0 42 = true ∧ ck3 cX10_coat 1 180 28 = true ∧ ck1 cX10_coat 4 27 = true ∧ ck3 cX10_coat 5 182 138 = true ∧ ck3s cX10_coat 8 153 12 = true ∧ ck1 cX10_coat 11 28 = true ∧ ck3s cX10_coat 12 155 8 = true ∧ ck1 cX10_coat 15 28 = true := by decide +kernel
theorem dX10_coat_0 : decode cX10_coat 0 = .ok (.aload_n 0, 1) := dk_42 dg_cX10_coat_235.1
theorem dX10_coat_1 : decode cX10_coat 1 = .ok (.getfield 28, 3) := dk_180 dg_cX10_coat_235.2.1
theorem dX10_coat_4 : decode cX10_coat 4 = .ok (.iload_n 1, 1) := dk_27 dg_cX10_coat_235.2.2.1
theorem dX10_coat_5 : decode cX10_coat 5 = .ok (.invokevirtual 138, 3) := dk_182 dg_cX10_coat_235.2.2.2.1
theorem dX10_coat_8 : decode cX10_coat 8 = .ok (.ifCond .eq 12, 3) := dk_153 dg_cX10_coat_235.2.2.2.2.1
theorem dX10_coat_11 : decode cX10_coat 11 = .ok (.iload_n 2, 1) := dk_28 dg_cX10_coat_235.2.2.2.2.2.1
theorem dX10_coat_12 : decode cX10_coat 12 = .ok (.ifCond .lt 8, 3) := dk_155 dg_cX10_coat_235.2.2.2.2.2.2.1
theorem dX10_coat_15 : decode cX10_coat 15 = .ok (.iload_n 2, 1) := dk_28 dg_cX10_coat_235.2.2.2.2.2.2.2
theorem dg_cX10_coat_236 : ck1 cX10_coat 16 8 = true ∧ ck3s cX10_coat 17 164 6 = true ∧ ck2s cX10_coat 20 16 (-2) = true ∧ ck1 cX10_coat 22 172 = true ∧ ck1 cX10_coat 23 28 = true ∧ ck1 cX10_coat 24 8 = true ∧ ck3s cX10_coat 25 160 14 = true ∧ ck1 cX10_coat 28 42 = true := by decide +kernel
theorem dX10_coat_16 : decode cX10_coat 16 = .ok (.iconst 5, 1) := dk_8 dg_cX10_coat_236.1
theorem dX10_coat_17 : decode cX10_coat 17 = .ok (.if_icmp .le 6, 3) := dk_164 dg_cX10_coat_236.2.1
theorem dX10_coat_20 : decode cX10_coat 20 = .ok (.bipush (-2), 2) := dk_16 dg_cX10_coat_236.2.2.1
theorem dX10_coat_22 : decode cX10_coat 22 = .ok (.ireturn, 1) := dk_172 dg_cX10_coat_236.2.2.2.1
theorem dX10_coat_23 : decode cX10_coat 23 = .ok (.iload_n 2, 1) := dk_28 dg_cX10_coat_236.2.2.2.2.1
theorem dX10_coat_24 : decode cX10_coat 24 = .ok (.iconst 5, 1) := dk_8 dg_cX10_coat_236.2.2.2.2.2.1
theorem dX10_coat_25 : decode cX10_coat 25 = .ok (.if_icmp .ne 14, 3) := dk_160 dg_cX10_coat_236.2.2.2.2.2.2.1
theorem dX10_coat_28 : decode cX10_coat 28 = .ok (.aload_n 0, 1) := dk_42 dg_cX10_coat_236.2.2.2.2.2.2.2
theorem dg_cX10_coat_237 : ck3 cX10_coat 29 180 37 = true ∧ ck1 cX10_coat 32 27 = true ∧ ck3 cX10_coat 33 182 141 = true ∧ ck3s cX10_coat 36 167 12 = true ∧ ck1 cX10_coat 39 42 = true ∧ ck3 cX10_coat 40 180 37 = true ∧ ck1 cX10_coat 43 28 = true ∧ ck1 cX10_coat 44 27 = true := by decide +kernel
theorem dX10_coat_29 : decode cX10_coat 29 = .ok (.getfield 37, 3) := dk_180 dg_cX10_coat_237.1
theorem dX10_coat_32 : decode cX10_coat 32 = .ok (.iload_n 1, 1) := dk_27 dg_cX10_coat_237.2.1
theorem dX10_coat_33 : decode cX10_coat 33 = .ok (.invokevirtual 141, 3) := dk_182 dg_cX10_coat_237.2.2.1
theorem dX10_coat_36 : decode cX10_coat 36 = .ok (.goto 12, 3) := dk_167 dg_cX10_coat_237.2.2.2.1
theorem dX10_coat_39 : decode cX10_coat 39 = .ok (.aload_n 0, 1) := dk_42 dg_cX10_coat_237.2.2.2.2.1
theorem dX10_coat_40 : decode cX10_coat 40 = .ok (.getfield 37, 3) := dk_180 dg_cX10_coat_237.2.2.2.2.2.1
theorem dX10_coat_43 : decode cX10_coat 43 = .ok (.iload_n 2, 1) := dk_28 dg_cX10_coat_237.2.2.2.2.2.2.1
theorem dX10_coat_44 : decode cX10_coat 44 = .ok (.iload_n 1, 1) := dk_27 dg_cX10_coat_237.2.2.2.2.2.2.2
theorem dg_cX10_coat_238 : ck3 cX10_coat 45 182 144 = true ∧ ck1 cX10_coat 48 172 = true := by decide +kernel
theorem dX10_coat_45 : decode cX10_coat 45 = .ok (.invokevirtual 144, 3) := dk_182 dg_cX10_coat_238.1
theorem dX10_coat_48 : decode cX10_coat 48 = .ok (.ireturn, 1) := dk_172 dg_cX10_coat_238.2
theorem dg_cX10_commonDivisor_239 : ck1 cX10_commonDivisor 0 26 = true ∧ ck1 cX10_commonDivisor 1 61 = true ∧ ck1 cX10_commonDivisor 2 27 = true ∧ ck1 cX10_commonDivisor 3 62 = true ∧ ck1 cX10_commonDivisor 4 3 = true ∧ ck2 cX10_commonDivisor 5 54 4 = true ∧ ck2 cX10_commonDivisor 7 21 4 = true ∧ ck2s cX10_commonDivisor 9 16 100 = true := by decide +kernel
theorem dX10_commonDivisor_0 : decode cX10_commonDivisor 0 = .ok (.iload_n 0, 1) := dk_26 dg_cX10_commonDivisor_239.1
theorem dX10_commonDivisor_1 : decode cX10_commonDivisor 1 = .ok (.istore_n 2, 1) := dk_61 dg_cX10_commonDivisor_239.2.1
theorem dX10_commonDivisor_2 : decode cX10_commonDivisor 2 = .ok (.iload_n 1, 1) := dk_27 dg_cX10_commonDivisor_239.2.2.1
theorem dX10_commonDivisor_3 : decode cX10_commonDivisor 3 = .ok (.istore_n 3, 1) := dk_62 dg_cX10_commonDivisor_239.2.2.2.1
theorem dX10_commonDivisor_4 : decode cX10_commonDivisor 4 = .ok (.iconst 0, 1) := dk_3 dg_cX10_commonDivisor_239.2.2.2.2.1
theorem dX10_commonDivisor_5 : decode cX10_commonDivisor 5 = .ok (.istore 4, 2) := dk_54 dg_cX10_commonDivisor_239.2.2.2.2.2.1
theorem dX10_commonDivisor_7 : decode cX10_commonDivisor 7 = .ok (.iload 4, 2) := dk_21 dg_cX10_commonDivisor_239.2.2.2.2.2.2.1
theorem dX10_commonDivisor_9 : decode cX10_commonDivisor 9 = .ok (.bipush 100, 2) := dk_16 dg_cX10_commonDivisor_239.2.2.2.2.2.2.2
theorem dg_cX10_commonDivisor_240 : ck3s cX10_commonDivisor 11 162 23 = true ∧ ck1 cX10_commonDivisor 14 29 = true ∧ ck3s cX10_commonDivisor 15 153 19 = true ∧ ck1 cX10_commonDivisor 18 28 = true ∧ ck1 cX10_commonDivisor 19 29 = true ∧ ck1 cX10_commonDivisor 20 112 = true ∧ ck2 cX10_commonDivisor 21 54 5 = true ∧ ck1 cX10_commonDivisor 23 29 = true := by decide +kernel
theorem dX10_commonDivisor_11 : decode cX10_commonDivisor 11 = .ok (.if_icmp .ge 23, 3) := dk_162 dg_cX10_commonDivisor_240.1
theorem dX10_commonDivisor_14 : decode cX10_commonDivisor 14 = .ok (.iload_n 3, 1) := dk_29 dg_cX10_commonDivisor_240.2.1
theorem dX10_commonDivisor_15 : decode cX10_commonDivisor 15 = .ok (.ifCond .eq 19, 3) := dk_153 dg_cX10_commonDivisor_240.2.2.1
theorem dX10_commonDivisor_18 : decode cX10_commonDivisor 18 = .ok (.iload_n 2, 1) := dk_28 dg_cX10_commonDivisor_240.2.2.2.1
theorem dX10_commonDivisor_19 : decode cX10_commonDivisor 19 = .ok (.iload_n 3, 1) := dk_29 dg_cX10_commonDivisor_240.2.2.2.2.1
theorem dX10_commonDivisor_20 : decode cX10_commonDivisor 20 = .ok (.irem, 1) := dk_112 dg_cX10_commonDivisor_240.2.2.2.2.2.1
theorem dX10_commonDivisor_21 : decode cX10_commonDivisor 21 = .ok (.istore 5, 2) := dk_54 dg_cX10_commonDivisor_240.2.2.2.2.2.2.1
theorem dX10_commonDivisor_23 : decode cX10_commonDivisor 23 = .ok (.iload_n 3, 1) := dk_29 dg_cX10_commonDivisor_240.2.2.2.2.2.2.2
theorem dg_cX10_commonDivisor_241 : ck1 cX10_commonDivisor 24 61 = true ∧ ck2 cX10_commonDivisor 25 21 5 = true ∧ ck1 cX10_commonDivisor 27 62 = true ∧ ck3i cX10_commonDivisor 28 132 4 1 = true ∧ ck3s cX10_commonDivisor 31 167 (-24) = true ∧ ck1 cX10_commonDivisor 34 28 = true ∧ ck1 cX10_commonDivisor 35 172 = true := by decide +kernel
theorem dX10_commonDivisor_24 : decode cX10_commonDivisor 24 = .ok (.istore_n 2, 1) := dk_61 dg_cX10_commonDivisor_241.1
theorem dX10_commonDivisor_25 : decode cX10_commonDivisor 25 = .ok (.iload 5, 2) := dk_21 dg_cX10_commonDivisor_241.2.1
theorem dX10_commonDivisor_27 : decode cX10_commonDivisor 27 = .ok (.istore_n 3, 1) := dk_62 dg_cX10_commonDivisor_241.2.2.1
theorem dX10_commonDivisor_28 : decode cX10_commonDivisor 28 = .ok (.iinc 4 1, 3) := dk_132 dg_cX10_commonDivisor_241.2.2.2.1
theorem dX10_commonDivisor_31 : decode cX10_commonDivisor 31 = .ok (.goto (-24), 3) := dk_167 dg_cX10_commonDivisor_241.2.2.2.2.1
theorem dX10_commonDivisor_34 : decode cX10_commonDivisor 34 = .ok (.iload_n 2, 1) := dk_28 dg_cX10_commonDivisor_241.2.2.2.2.2.1
theorem dX10_commonDivisor_35 : decode cX10_commonDivisor 35 = .ok (.ireturn, 1) := dk_172 dg_cX10_commonDivisor_241.2.2.2.2.2.2
theorem dg_cX10_day_242 : ck1 cX10_day 0 42 = true ∧ ck3 cX10_day 1 180 37 = true ∧ ck3 cX10_day 4 182 150 = true ∧ ck3s cX10_day 7 17 999 = true ∧ ck3s cX10_day 10 161 5 = true ∧ ck1 cX10_day 13 2 = true ∧ ck1 cX10_day 14 172 = true ∧ ck1 cX10_day 15 42 = true := by decide +kernel
theorem dX10_day_0 : decode cX10_day 0 = .ok (.aload_n 0, 1) := dk_42 dg_cX10_day_242.1
theorem dX10_day_1 : decode cX10_day 1 = .ok (.getfield 37, 3) := dk_180 dg_cX10_day_242.2.1
theorem dX10_day_4 : decode cX10_day 4 = .ok (.invokevirtual 150, 3) := dk_182 dg_cX10_day_242.2.2.1
theorem dX10_day_7 : decode cX10_day 7 = .ok (.sipush 999, 3) := dk_17 dg_cX10_day_242.2.2.2.1
theorem dX10_day_10 : decode cX10_day 10 = .ok (.if_icmp .lt 5, 3) := dk_161 dg_cX10_day_242.2.2.2.2.1
theorem dX10_day_13 : decode cX10_day 13 = .ok (.iconst (-1), 1) := dk_2 dg_cX10_day_242.2.2.2.2.2.1
theorem dX10_day_14 : decode cX10_day 14 = .ok (.ireturn, 1) := dk_172 dg_cX10_day_242.2.2.2.2.2.2.1
theorem dX10_day_15 : decode cX10_day 15 = .ok (.aload_n 0, 1) := dk_42 dg_cX10_day_242.2.2.2.2.2.2.2
theorem dg_cX10_day_243 : ck3 cX10_day 16 180 37 = true ∧ ck1 cX10_day 19 42 = true ∧ ck3 cX10_day 20 180 28 = true ∧ ck3 cX10_day 23 180 154 = true ∧ ck3 cX10_day 26 182 157 = true ∧ ck1 cX10_day 29 60 = true ∧ ck1 cX10_day 30 42 = true ∧ ck3 cX10_day 31 180 46 = true := by decide +kernel
theorem dX10_day_16 : decode cX10_day 16 = .ok (.getfield 37, 3) := dk_180 dg_cX10_day_243.1
theorem dX10_day_19 : decode cX10_day 19 = .ok (.aload_n 0, 1) := dk_42 dg_cX10_day_243.2.1
theorem dX10_day_20 : decode cX10_day 20 = .ok (.getfield 28, 3) := dk_180 dg_cX10_day_243.2.2.1
theorem dX10_day_23 : decode cX10_day 23 = .ok (.getfield 154, 3) := dk_180 dg_cX10_day_243.2.2.2.1
theorem dX10_day_26 : decode cX10_day 26 = .ok (.invokevirtual 157, 3) := dk_182 dg_cX10_day_243.2.2.2.2.1
theorem dX10_day_29 : decode cX10_day 29 = .ok (.istore_n 1, 1) := dk_60 dg_cX10_day_243.2.2.2.2.2.1
theorem dX10_day_30 : decode cX10_day 30 = .ok (.aload_n 0, 1) := dk_42 dg_cX10_day_243.2.2.2.2.2.2.1
theorem dX10_day_31 : decode cX10_day 31 = .ok (.getfield 46, 3) := dk_180 dg_cX10_day_243.2.2.2.2.2.2.2
theorem dg_cX10_day_244 : ck3 cX10_day 34 182 160 = true ∧ ck1 cX10_day 37 27 = true ∧ ck1 cX10_day 38 172 = true := by decide +kernel
theorem dX10_day_34 : decode cX10_day 34 = .ok (.invokevirtual 160, 3) := dk_182 dg_cX10_day_244.1
theorem dX10_day_37 : decode cX10_day 37 = .ok (.iload_n 1, 1) := dk_27 dg_cX10_day_244.2.1
theorem dX10_day_38 : decode cX10_day 38 = .ok (.ireturn, 1) := dk_172 dg_cX10_day_244.2.2
theorem dg_cX10_doff_245 : ck1 cX10_doff 0 42 = true ∧ ck3 cX10_doff 1 180 37 = true ∧ ck1 cX10_doff 4 27 = true ∧ ck3 cX10_doff 5 182 132 = true ∧ ck1 cX10_doff 8 61 = true ∧ ck1 cX10_doff 9 28 = true ∧ ck1 cX10_doff 10 2 = true ∧ ck3s cX10_doff 11 160 5 = true := by decide +kernel
theorem dX10_doff_0 : decode cX10_doff 0 = .ok (.aload_n 0, 1) := dk_42 dg_cX10_doff_245.1
theorem dX10_doff_1 : decode cX10_doff 1 = .ok (.getfield 37, 3) := dk_180 dg_cX10_doff_245.2.1
theorem dX10_doff_4 : decode cX10_doff 4 = .ok (.iload_n 1, 1) := dk_27 dg_cX10_doff_245.2.2.1
theorem dX10_doff_5 : decode cX10_doff 5 = .ok (.invokevirtual 132, 3) := dk_182 dg_cX10_doff_245.2.2.2.1
theorem dX10_doff_8 : decode cX10_doff 8 = .ok (.istore_n 2, 1) := dk_61 dg_cX10_doff_245.2.2.2.2.1
theorem dX10_doff_9 : decode cX10_doff 9 = .ok (.iload_n 2, 1) := dk_28 dg_cX10_doff_245.2.2.2.2.2.1
theorem dX10_doff_10 : decode cX10_doff 10 = .ok (.iconst (-1), 1) := dk_2 dg_cX10_doff_245.2.2.2.2.2.2.1
theorem dX10_doff_11 : decode cX10_doff 11 = .ok (.if_icmp .ne 5, 3) := dk_160 dg_cX10_doff_245.2.2.2.2.2.2.2
theorem dg_cX10_doff_246 : ck1 cX10_doff 14 2 = true ∧ ck1 cX10_doff 15 172 = true ∧ ck1 cX10_doff 16 42 = true ∧ ck3 cX10_doff 17 180 37 = true ∧ ck1 cX10_doff 20 27 = true ∧ ck1 cX10_doff 21 2 = true ∧ ck3 cX10_doff 22 182 163 = true ∧ ck1 cX10_doff 25 42 = true := by decide +kernel
theorem dX10_doff_14 : decode cX10_doff 14 = .ok (.iconst (-1), 1) := dk_2 dg_cX10_doff_246.1
theorem dX10_doff_15 : decode cX10_doff 15 = .ok (.ireturn, 1) := dk_172 dg_cX10_doff_246.2.1
theorem dX10_doff_16 : decode cX10_doff 16 = .ok (.aload_n 0, 1) := dk_42 dg_cX10_doff_246.2.2.1
theorem dX10_doff_17 : decode cX10_doff 17 = .ok (.getfield 37, 3) := dk_180 dg_cX10_doff_246.2.2.2.1
theorem dX10_doff_20 : decode cX10_doff 20 = .ok (.iload_n 1, 1) := dk_27 dg_cX10_doff_246.2.2.2.2.1
theorem dX10_doff_21 : decode cX10_doff 21 = .ok (.iconst (-1), 1) := dk_2 dg_cX10_doff_246.2.2.2.2.2.1
theorem dX10_doff_22 : decode cX10_doff 22 = .ok (.invokevirtual 163, 3) := dk_182 dg_cX10_doff_246.2.2.2.2.2.2.1
theorem dX10_doff_25 : decode cX10_doff 25 = .ok (.aload_n 0, 1) := dk_42 dg_cX10_doff_246.2.2.2.2.2.2.2
theorem dg_cX10_doff_247 : ck3 cX10_doff 26 180 46 = true ∧ ck3 cX10_doff 29 182 160 = true ∧ ck1 cX10_doff 32 28 = true ∧ ck1 cX10_doff 33 172 = true := by decide +kernel
theorem dX10_doff_26 : decode cX10_doff 26 = .ok (.getfield 46, 3) := dk_180 dg_cX10_doff_247.1
theorem dX10_doff_29 : decode cX10_doff 29 = .ok (.invokevirtual 160, 3) := dk_182 dg_cX10_doff_247.2.1
theorem dX10_doff_32 : decode cX10_doff 32 = .ok (.iload_n 2, 1) := dk_28 dg_cX10_doff_247.2.2.1
theorem dX10_doff_33 : decode cX10_doff 33 = .ok (.ireturn, 1) := dk_172 dg_cX10_doff_247.2.2.2
theorem dg_cX10_don_248 : ck1 cX10_don 0 42 = true ∧ ck3 cX10_don 1 180 28 = true ∧ ck1 cX10_don 4 27 = true ∧ ck3 cX10_don 5 182 120 = true ∧ ck3s cX10_don 8 153 26 = true ∧ ck1 cX10_don 11 42 = true ∧ ck3 cX10_don 12 180 28 = true ∧ ck1 cX10_don 15 28 = true := by decide +kernel
theorem dX10_don_0 : decode cX10_don 0 = .ok (.aload_n 0, 1) := dk_42 dg_cX10_don_248.1
theorem dX10_don_1 : decode cX10_don 1 = .ok (.getfield 28, 3) := dk_180 dg_cX10_don_248.2.1
theorem dX10_don_4 : decode cX10_don 4 = .ok (.iload_n 1, 1) := dk_27 dg_cX10_don_248.2.2.1
theorem dX10_don_5 : decode cX10_don 5 = .ok (.invokevirtual 120, 3) := dk_182 dg_cX10_don_248.2.2.2.1
theorem dX10_don_8 : decode cX10_don 8 = .ok (.ifCond .eq 26, 3) := dk_153 dg_cX10_don_248.2.2.2.2.1
theorem dX10_don_11 : decode cX10_don 11 = .ok (.aload_n 0, 1) := dk_42 dg_cX10_don_248.2.2.2.2.2.1
theorem dX10_don_12 : decode cX10_don 12 = .ok (.getfield 28, 3) := dk_180 dg_cX10_don_248.2.2.2.2.2.2.1
theorem dX10_don_15 : decode cX10_don 15 = .ok (.iload_n 2, 1) := dk_28 dg_cX10_don_248.2.2.2.2.2.2.2
theorem dg_cX10_don_249 : ck3 cX10_don 16 182 138 = true ∧ ck3s cX10_don 19 153 15 = true ∧ ck1 cX10_don 22 42 = true ∧ ck3 cX10_don 23 180 37 = true ∧ ck1 cX10_don 26 28 = true ∧ ck3 cX10_don 27 182 141 = true ∧ ck1 cX10_don 30 2 = true ∧ ck3s cX10_don 31 159 6 = true := by decide +kernel
theorem dX10_don_16 : decode cX10_don 16 = .ok (.invokevirtual 138, 3) := dk_182 dg_cX10_don_249.1
theorem dX10_don_19 : decode cX10_don 19 = .ok (.ifCond .eq 15, 3) := dk_153 dg_cX10_don_249.2.1
theorem dX10_don_22 : decode cX10_don 22 = .ok (.aload_n 0, 1) := dk_42 dg_cX10_don_249.2.2.1
theorem dX10_don_23 : decode cX10_don 23 = .ok (.getfield 37, 3) := dk_180 dg_cX10_don_249.2.2.2.1
theorem dX10_don_26 : decode cX10_don 26 = .ok (.iload_n 2, 1) := dk_28 dg_cX10_don_249.2.2.2.2.1
theorem dX10_don_27 : decode cX10_don 27 = .ok (.invokevirtual 141, 3) := dk_182 dg_cX10_don_249.2.2.2.2.2.1
theorem dX10_don_30 : decode cX10_don 30 = .ok (.iconst (-1), 1) := dk_2 dg_cX10_don_249.2.2.2.2.2.2.1
theorem dX10_don_31 : decode cX10_don 31 = .ok (.if_icmp .eq 6, 3) := dk_159 dg_cX10_don_249.2.2.2.2.2.2.2
theorem dg_cX10_don_250 : ck2s cX10_don 34 16 (-2) = true ∧ ck1 cX10_don 36 172 = true ∧ ck1 cX10_don 37 42 = true ∧ ck3 cX10_don 38 180 37 = true ∧ ck1 cX10_don 41 27 = true ∧ ck3 cX10_don 42 182 132 = true ∧ ck1 cX10_don 45 62 = true ∧ ck1 cX10_don 46 42 = true := by decide +kernel
theorem dX10_don_34 : decode cX10_don 34 = .ok (.bipush (-2), 2) := dk_16 dg_cX10_don_250.1
theorem dX10_don_36 : decode cX10_don 36 = .ok (.ireturn, 1) := dk_172 dg_cX10_don_250.2.1
theorem dX10_don_37 : decode cX10_don 37 = .ok (.aload_n 0, 1) := dk_42 dg_cX10_don_250.2.2.1
theorem dX10_don_38 : decode cX10_don 38 = .ok (.getfield 37, 3) := dk_180 dg_cX10_don_250.2.2.2.1
theorem dX10_don_41 : decode cX10_don 41 = .ok (.iload_n 1, 1) := dk_27 dg_cX10_don_250.2.2.2.2.1
theorem dX10_don_42 : decode cX10_don 42 = .ok (.invokevirtual 132, 3) := dk_182 dg_cX10_don_250.2.2.2.2.2.1
theorem dX10_don_45 : decode cX10_don 45 = .ok (.istore_n 3, 1) := dk_62 dg_cX10_don_250.2.2.2.2.2.2.1
theorem dX10_don_46 : decode cX10_don 46 = .ok (.aload_n 0, 1) := dk_42 dg_cX10_don_250.2.2.2.2.2.2.2
theorem dg_cX10_don_251 : ck3 cX10_don 47 180 37 = true ∧ ck1 cX10_don 50 27 = true ∧ ck1 cX10_don 51 28 = true ∧ ck3 cX10_don 52 182 163 = true ∧ ck1 cX10_don 55 42 = true ∧ ck3 cX10_don 56 180 46 = true ∧ ck3 cX10_don 59 182 160 = true ∧ ck1 cX10_don 62 29 = true := by decide +kernel
theorem dX10_don_47 : decode cX10_don 47 = .ok (.getfield 37, 3) := dk_180 dg_cX10_don_251.1
theorem dX10_don_50 : decode cX10_don 50 = .ok (.iload_n 1, 1) := dk_27 dg_cX10_don_251.2.1
theorem dX10_don_51 : decode cX10_don 51 = .ok (.iload_n 2, 1) := dk_28 dg_cX10_don_251.2.2.1
theorem dX10_don_52 : decode cX10_don 52 = .ok (.invokevirtual 163, 3) := dk_182 dg_cX10_don_251.2.2.2.1
theorem dX10_don_55 : decode cX10_don 55 = .ok (.aload_n 0, 1) := dk_42 dg_cX10_don_251.2.2.2.2.1
theorem dX10_don_56 : decode cX10_don 56 = .ok (.getfield 46, 3) := dk_180 dg_cX10_don_251.2.2.2.2.2.1
theorem dX10_don_59 : decode cX10_don 59 = .ok (.invokevirtual 160, 3) := dk_182 dg_cX10_don_251.2.2.2.2.2.2.1
theorem dX10_don_62 : decode cX10_don 62 = .ok (.iload_n 3, 1) := dk_29 dg_cX10_don_251.2.2.2.2.2.2.2
theorem dg_cX10_don_252 : ck1 cX10_don 63 172 = true := by decide +kernel
theorem dX10_don_63 : decode cX10_don 63 = .ok (.ireturn, 1) := dk_172 dg_cX10_don_252
theorem dg_cX10_dress_253 : ck1 cX10_dress 0 42 = true ∧ ck3 cX10_dress 1 180 69 = true ∧ ck3 cX10_dress 4 182 190 = true ∧ ck1 cX10_dress 7 27 = true ∧ ck3s cX10_dress 8 154 13 = true ∧ ck1 cX10_dress 11 42 = true ∧ ck3 cX10_dress 12 180 69 = true ∧ ck3 cX10_dress 15 180 193 = true := by decide +kernel
theorem dX10_dress_0 : decode cX10_dress 0 = .ok (.aload_n 0, 1) := dk_42 dg_cX10_dress_253.1
theorem dX10_dress_1 : decode cX10_dress 1 = .ok (.getfield 69, 3) := dk_180 dg_cX10_dress_253.2.1
theorem dX10_dress_4 : decode cX10_dress 4 = .ok (.invokevirtual 190, 3) := dk_182 dg_cX10_dress_253.2.2.1
theorem dX10_dress_7 : decode cX10_dress 7 = .ok (.iload_n 1, 1) := dk_27 dg_cX10_dress_253.2.2.2.1
theorem dX10_dress_8 : decode cX10_dress 8 = .ok (.ifCond .ne 13, 3) := dk_154 dg_cX10_dress_253.2.2.2.2.1
theorem dX10_dress_11 : decode cX10_dress 11 = .ok (.aload_n 0, 1) := dk_42 dg_cX10_dress_253.2.2.2.2.2.1
theorem dX10_dress_12 : decode cX10_dress 12 = .ok (.getfield 69, 3) := dk_180 dg_cX10_dress_253.2.2.2.2.2.2.1
theorem dX10_dress_15 : decode cX10_dress 15 = .ok (.getfield 193, 3) := dk_180 dg_cX10_dress_253.2.2.2.2.2.2.2
theorem dg_cX10_dress_254 : ck3s cX10_dress 18 167 19 = true ∧ ck1 cX10_dress 21 27 = true ∧ ck1 cX10_dress 22 4 = true ∧ ck3s cX10_dress 23 160 13 = true ∧ ck1 cX10_dress 26 42 = true ∧ ck3 cX10_dress 27 180 69 = true ∧ ck3 cX10_dress 30 180 196 = true ∧ ck3s cX10_dress 33 167 4 = true := by decide +kernel
theorem dX10_dress_18 : decode cX10_dress 18 = .ok (.goto 19, 3) := dk_167 dg_cX10_dress_254.1
theorem dX10_dress_21 : decode cX10_dress 21 = .ok (.iload_n 1, 1) := dk_27 dg_cX10_dress_254.2.1
theorem dX10_dress_22 : decode cX10_dress 22 = .ok (.iconst 1, 1) := dk_4 dg_cX10_dress_254.2.2.1
theorem dX10_dress_23 : decode cX10_dress 23 = .ok (.if_icmp .ne 13, 3) := dk_160 dg_cX10_dress_254.2.2.2.1
theorem dX10_dress_26 : decode cX10_dress 26 = .ok (.aload_n 0, 1) := dk_42 dg_cX10_dress_254.2.2.2.2.1
theorem dX10_dress_27 : decode cX10_dress 27 = .ok (.getfield 69, 3) := dk_180 dg_cX10_dress_254.2.2.2.2.2.1
theorem dX10_dress_30 : decode cX10_dress 30 = .ok (.getfield 196, 3) := dk_180 dg_cX10_dress_254.2.2.2.2.2.2.1
theorem dX10_dress_33 : decode cX10_dress 33 = .ok (.goto 4, 3) := dk_167 dg_cX10_dress_254.2.2.2.2.2.2.2
theorem dg_cX10_dress_255 : ck1 cX10_dress 36 2 = true ∧ ck1 cX10_dress 37 172 = true := by decide +kernel
theorem dX10_dress_36 : decode cX10_dress 36 = .ok (.iconst (-1), 1) := dk_2 dg_cX10_dress_255.1
theorem dX10_dress_37 : decode cX10_dress 37 = .ok (.ireturn, 1) := dk_172 dg_cX10_dress_255.2
theorem dg_cX10_ease_256 : ck1 cX10_ease 0 42 = true ∧ ck3 cX10_ease 1 180 55 = true ∧ ck3 cX10_ease 4 182 270 = true ∧ ck1 cX10_ease 7 172 = true := by decide +kernel
theorem dX10_ease_0 : decode cX10_ease 0 = .ok (.aload_n 0, 1) := dk_42 dg_cX10_ease_256.1
theorem dX10_ease_1 : decode cX10_ease 1 = .ok (.getfield 55, 3) := dk_180 dg_cX10_ease_256.2.1
theorem dX10_ease_4 : decode cX10_ease 4 = .ok (.invokevirtual 270, 3) := dk_182 dg_cX10_ease_256.2.2.1
theorem dX10_ease_7 : decode cX10_ease 7 = .ok (.ireturn, 1) := dk_172 dg_cX10_ease_256.2.2.2
theorem dg_cX10_end_257 : ck1 cX10_end 0 27 = true ∧ ck3s cX10_end 1 155 14 = true ∧ ck1 cX10_end 4 27 = true ∧ ck1 cX10_end 5 42 = true ∧ ck3 cX10_end 6 180 10 = true ∧ ck3 cX10_end 9 180 88 = true ∧ ck3s cX10_end 12 164 5 = true ∧ ck1 cX10_end 15 2 = true := by decide +kernel
theorem dX10_end_0 : decode cX10_end 0 = .ok (.iload_n 1, 1) := dk_27 dg_cX10_end_257.1
theorem dX10_end_1 : decode cX10_end 1 = .ok (.ifCond .lt 14, 3) := dk_155 dg_cX10_end_257.2.1
theorem dX10_end_4 : decode cX10_end 4 = .ok (.iload_n 1, 1) := dk_27 dg_cX10_end_257.2.2.1
theorem dX10_end_5 : decode cX10_end 5 = .ok (.aload_n 0, 1) := dk_42 dg_cX10_end_257.2.2.2.1
theorem dX10_end_6 : decode cX10_end 6 = .ok (.getfield 10, 3) := dk_180 dg_cX10_end_257.2.2.2.2.1
theorem dX10_end_9 : decode cX10_end 9 = .ok (.getfield 88, 3) := dk_180 dg_cX10_end_257.2.2.2.2.2.1
theorem dX10_end_12 : decode cX10_end 12 = .ok (.if_icmp .le 5, 3) := dk_164 dg_cX10_end_257.2.2.2.2.2.2.1
theorem dX10_end_15 : decode cX10_end 15 = .ok (.iconst (-1), 1) := dk_2 dg_cX10_end_257.2.2.2.2.2.2.2
theorem dg_cX10_end_258 : ck1 cX10_end 16 172 = true ∧ ck1 cX10_end 17 42 = true ∧ ck3 cX10_end 18 180 10 = true ∧ ck1 cX10_end 21 27 = true ∧ ck3 cX10_end 22 181 88 = true ∧ ck1 cX10_end 25 27 = true ∧ ck1 cX10_end 26 172 = true := by decide +kernel
theorem dX10_end_16 : decode cX10_end 16 = .ok (.ireturn, 1) := dk_172 dg_cX10_end_258.1
theorem dX10_end_17 : decode cX10_end 17 = .ok (.aload_n 0, 1) := dk_42 dg_cX10_end_258.2.1
theorem dX10_end_18 : decode cX10_end 18 = .ok (.getfield 10, 3) := dk_180 dg_cX10_end_258.2.2.1
theorem dX10_end_21 : decode cX10_end 21 = .ok (.iload_n 1, 1) := dk_27 dg_cX10_end_258.2.2.2.1
theorem dX10_end_22 : decode cX10_end 22 = .ok (.putfield 88, 3) := dk_181 dg_cX10_end_258.2.2.2.2.1
theorem dX10_end_25 : decode cX10_end 25 = .ok (.iload_n 1, 1) := dk_27 dg_cX10_end_258.2.2.2.2.2.1
theorem dX10_end_26 : decode cX10_end 26 = .ok (.ireturn, 1) := dk_172 dg_cX10_end_258.2.2.2.2.2.2
theorem dg_cX10_fault_259 : ck1 cX10_fault 0 27 = true ∧ ck3s cX10_fault 1 154 13 = true ∧ ck1 cX10_fault 4 42 = true ∧ ck3 cX10_fault 5 180 21 = true ∧ ck3 cX10_fault 8 180 114 = true ∧ ck3s cX10_fault 11 167 19 = true ∧ ck1 cX10_fault 14 27 = true ∧ ck1 cX10_fault 15 4 = true := by decide +kernel
theorem dX10_fault_0 : decode cX10_fault 0 = .ok (.iload_n 1, 1) := dk_27 dg_cX10_fault_259.1
theorem dX10_fault_1 : decode cX10_fault 1 = .ok (.ifCond .ne 13, 3) := dk_154 dg_cX10_fault_259.2.1
theorem dX10_fault_4 : decode cX10_fault 4 = .ok (.aload_n 0, 1) := dk_42 dg_cX10_fault_259.2.2.1
theorem dX10_fault_5 : decode cX10_fault 5 = .ok (.getfield 21, 3) := dk_180 dg_cX10_fault_259.2.2.2.1
theorem dX10_fault_8 : decode cX10_fault 8 = .ok (.getfield 114, 3) := dk_180 dg_cX10_fault_259.2.2.2.2.1
theorem dX10_fault_11 : decode cX10_fault 11 = .ok (.goto 19, 3) := dk_167 dg_cX10_fault_259.2.2.2.2.2.1
theorem dX10_fault_14 : decode cX10_fault 14 = .ok (.iload_n 1, 1) := dk_27 dg_cX10_fault_259.2.2.2.2.2.2.1
theorem dX10_fault_15 : decode cX10_fault 15 = .ok (.iconst 1, 1) := dk_4 dg_cX10_fault_259.2.2.2.2.2.2.2
theorem dg_cX10_fault_260 : ck3s cX10_fault 16 160 13 = true ∧ ck1 cX10_fault 19 42 = true ∧ ck3 cX10_fault 20 180 21 = true ∧ ck3 cX10_fault 23 180 117 = true ∧ ck3s cX10_fault 26 167 4 = true ∧ ck1 cX10_fault 29 2 = true ∧ ck1 cX10_fault 30 172 = true := by decide +kernel
theorem dX10_fault_16 : decode cX10_fault 16 = .ok (.if_icmp .ne 13, 3) := dk_160 dg_cX10_fault_260.1
theorem dX10_fault_19 : decode cX10_fault 19 = .ok (.aload_n 0, 1) := dk_42 dg_cX10_fault_260.2.1
theorem dX10_fault_20 : decode cX10_fault 20 = .ok (.getfield 21, 3) := dk_180 dg_cX10_fault_260.2.2.1
theorem dX10_fault_23 : decode cX10_fault 23 = .ok (.getfield 117, 3) := dk_180 dg_cX10_fault_260.2.2.2.1
theorem dX10_fault_26 : decode cX10_fault 26 = .ok (.goto 4, 3) := dk_167 dg_cX10_fault_260.2.2.2.2.1
theorem dX10_fault_29 : decode cX10_fault 29 = .ok (.iconst (-1), 1) := dk_2 dg_cX10_fault_260.2.2.2.2.2.1
theorem dX10_fault_30 : decode cX10_fault 30 = .ok (.ireturn, 1) := dk_172 dg_cX10_fault_260.2.2.2.2.2.2
theorem dg_cX10_feed_261 : ck1 cX10_feed 0 42 = true ∧ ck3 cX10_feed 1 180 10 = true ∧ ck3 cX10_feed 4 182 80 = true ∧ ck3s cX10_feed 7 154 5 = true ∧ ck1 cX10_feed 10 2 = true ∧ ck1 cX10_feed 11 172 = true ∧ ck1 cX10_feed 12 42 = true ∧ ck3 cX10_feed 13 180 10 = true := by decide +kernel
theorem dX10_feed_0 : decode cX10_feed 0 = .ok (.aload_n 0, 1) := dk_42 dg_cX10_feed_261.1
theorem dX10_feed_1 : decode cX10_feed 1 = .ok (.getfield 10, 3) := dk_180 dg_cX10_feed_261.2.1
theorem dX10_feed_4 : decode cX10_feed 4 = .ok (.invokevirtual 80, 3) := dk_182 dg_cX10_feed_261.2.2.1
theorem dX10_feed_7 : decode cX10_feed 7 = .ok (.ifCond .ne 5, 3) := dk_154 dg_cX10_feed_261.2.2.2.1
theorem dX10_feed_10 : decode cX10_feed 10 = .ok (.iconst (-1), 1) := dk_2 dg_cX10_feed_261.2.2.2.2.1
theorem dX10_feed_11 : decode cX10_feed 11 = .ok (.ireturn, 1) := dk_172 dg_cX10_feed_261.2.2.2.2.2.1
theorem dX10_feed_12 : decode cX10_feed 12 = .ok (.aload_n 0, 1) := dk_42 dg_cX10_feed_261.2.2.2.2.2.2.1
theorem dX10_feed_13 : decode cX10_feed 13 = .ok (.getfield 10, 3) := dk_180 dg_cX10_feed_261.2.2.2.2.2.2.2
theorem dg_cX10_feed_262 : ck1 cX10_feed 16 27 = true ∧ ck3 cX10_feed 17 182 84 = true ∧ ck1 cX10_feed 20 42 = true ∧ ck3 cX10_feed 21 180 10 = true ∧ ck1 cX10_feed 24 28 = true ∧ ck3 cX10_feed 25 182 84 = true ∧ ck1 cX10_feed 28 42 = true ∧ ck3 cX10_feed 29 180 10 = true := by decide +kernel
theorem dX10_feed_16 : decode cX10_feed 16 = .ok (.iload_n 1, 1) := dk_27 dg_cX10_feed_262.1
theorem dX10_feed_17 : decode cX10_feed 17 = .ok (.invokevirtual 84, 3) := dk_182 dg_cX10_feed_262.2.1
theorem dX10_feed_20 : decode cX10_feed 20 = .ok (.aload_n 0, 1) := dk_42 dg_cX10_feed_262.2.2.1
theorem dX10_feed_21 : decode cX10_feed 21 = .ok (.getfield 10, 3) := dk_180 dg_cX10_feed_262.2.2.2.1
theorem dX10_feed_24 : decode cX10_feed 24 = .ok (.iload_n 2, 1) := dk_28 dg_cX10_feed_262.2.2.2.2.1
theorem dX10_feed_25 : decode cX10_feed 25 = .ok (.invokevirtual 84, 3) := dk_182 dg_cX10_feed_262.2.2.2.2.2.1
theorem dX10_feed_28 : decode cX10_feed 28 = .ok (.aload_n 0, 1) := dk_42 dg_cX10_feed_262.2.2.2.2.2.2.1
theorem dX10_feed_29 : decode cX10_feed 29 = .ok (.getfield 10, 3) := dk_180 dg_cX10_feed_262.2.2.2.2.2.2.2
theorem dg_cX10_feed_263 : ck1 cX10_feed 32 29 = true ∧ ck3 cX10_feed 33 182 84 = true ∧ ck1 cX10_feed 36 42 = true ∧ ck3 cX10_feed 37 180 10 = true ∧ ck2 cX10_feed 40 21 4 = true ∧ ck3 cX10_feed 42 182 84 = true ∧ ck1 cX10_feed 45 42 = true ∧ ck3 cX10_feed 46 180 10 = true := by decide +kernel
theorem dX10_feed_32 : decode cX10_feed 32 = .ok (.iload_n 3, 1) := dk_29 dg_cX10_feed_263.1
theorem dX10_feed_33 : decode cX10_feed 33 = .ok (.invokevirtual 84, 3) := dk_182 dg_cX10_feed_263.2.1
theorem dX10_feed_36 : decode cX10_feed 36 = .ok (.aload_n 0, 1) := dk_42 dg_cX10_feed_263.2.2.1
theorem dX10_feed_37 : decode cX10_feed 37 = .ok (.getfield 10, 3) := dk_180 dg_cX10_feed_263.2.2.2.1
theorem dX10_feed_40 : decode cX10_feed 40 = .ok (.iload 4, 2) := dk_21 dg_cX10_feed_263.2.2.2.2.1
theorem dX10_feed_42 : decode cX10_feed 42 = .ok (.invokevirtual 84, 3) := dk_182 dg_cX10_feed_263.2.2.2.2.2.1
theorem dX10_feed_45 : decode cX10_feed 45 = .ok (.aload_n 0, 1) := dk_42 dg_cX10_feed_263.2.2.2.2.2.2.1
theorem dX10_feed_46 : decode cX10_feed 46 = .ok (.getfield 10, 3) := dk_180 dg_cX10_feed_263.2.2.2.2.2.2.2
theorem dg_cX10_feed_264 : ck2 cX10_feed 49 21 5 = true ∧ ck3 cX10_feed 51 182 84 = true ∧ ck1 cX10_feed 54 42 = true ∧ ck3 cX10_feed 55 180 10 = true ∧ ck3 cX10_feed 58 180 88 = true ∧ ck1 cX10_feed 61 172 = true := by decide +kernel
theorem dX10_feed_49 : decode cX10_feed 49 = .ok (.iload 5, 2) := dk_21 dg_cX10_feed_264.1
theorem dX10_feed_51 : decode cX10_feed 51 = .ok (.invokevirtual 84, 3) := dk_182 dg_cX10_feed_264.2.1
theorem dX10_feed_54 : decode cX10_feed 54 = .ok (.aload_n 0, 1) := dk_42 dg_cX10_feed_264.2.2.1
theorem dX10_feed_55 : decode cX10_feed 55 = .ok (.getfield 10, 3) := dk_180 dg_cX10_feed_264.2.2.2.1
theorem dX10_feed_58 : decode cX10_feed 58 = .ok (.getfield 88, 3) := dk_180 dg_cX10_feed_264.2.2.2.2.1
theorem dX10_feed_61 : decode cX10_feed 61 = .ok (.ireturn, 1) := dk_172 dg_cX10_feed_264.2.2.2.2.2
theorem dg_cX10_fitted_265 : ck1 cX10_fitted 0 42 = true ∧ ck3 cX10_fitted 1 180 37 = true ∧ ck3 cX10_fitted 4 182 187 = true ∧ ck1 cX10_fitted 7 172 = true := by decide +kernel
theorem dX10_fitted_0 : decode cX10_fitted 0 = .ok (.aload_n 0, 1) := dk_42 dg_cX10_fitted_265.1
theorem dX10_fitted_1 : decode cX10_fitted 1 = .ok (.getfield 37, 3) := dk_180 dg_cX10_fitted_265.2.1
theorem dX10_fitted_4 : decode cX10_fitted 4 = .ok (.invokevirtual 187, 3) := dk_182 dg_cX10_fitted_265.2.2.1
theorem dX10_fitted_7 : decode cX10_fitted 7 = .ok (.ireturn, 1) := dk_172 dg_cX10_fitted_265.2.2.2
theorem dg_cX10_front_266 : ck1 cX10_front 0 27 = true ∧ ck3s cX10_front 1 155 19 = true ∧ ck1 cX10_front 4 27 = true ∧ ck3s cX10_front 5 17 999 = true ∧ ck3s cX10_front 8 163 12 = true ∧ ck1 cX10_front 11 28 = true ∧ ck3s cX10_front 12 155 8 = true ∧ ck1 cX10_front 15 28 = true := by decide +kernel
theorem dX10_front_0 : decode cX10_front 0 = .ok (.iload_n 1, 1) := dk_27 dg_cX10_front_266.1
theorem dX10_front_1 : decode cX10_front 1 = .ok (.ifCond .lt 19, 3) := dk_155 dg_cX10_front_266.2.1
theorem dX10_front_4 : decode cX10_front 4 = .ok (.iload_n 1, 1) := dk_27 dg_cX10_front_266.2.2.1
theorem dX10_front_5 : decode cX10_front 5 = .ok (.sipush 999, 3) := dk_17 dg_cX10_front_266.2.2.2.1
theorem dX10_front_8 : decode cX10_front 8 = .ok (.if_icmp .gt 12, 3) := dk_163 dg_cX10_front_266.2.2.2.2.1
theorem dX10_front_11 : decode cX10_front 11 = .ok (.iload_n 2, 1) := dk_28 dg_cX10_front_266.2.2.2.2.2.1
theorem dX10_front_12 : decode cX10_front 12 = .ok (.ifCond .lt 8, 3) := dk_155 dg_cX10_front_266.2.2.2.2.2.2.1
theorem dX10_front_15 : decode cX10_front 15 = .ok (.iload_n 2, 1) := dk_28 dg_cX10_front_266.2.2.2.2.2.2.2
theorem dg_cX10_front_267 : ck1 cX10_front 16 4 = true ∧ ck3s cX10_front 17 164 5 = true ∧ ck1 cX10_front 20 2 = true ∧ ck1 cX10_front 21 172 = true ∧ ck1 cX10_front 22 42 = true ∧ ck3 cX10_front 23 180 62 = true ∧ ck1 cX10_front 26 27 = true ∧ ck3 cX10_front 27 182 235 = true := by decide +kernel
theorem dX10_front_16 : decode cX10_front 16 = .ok (.iconst 1, 1) := dk_4 dg_cX10_front_267.1
theorem dX10_front_17 : decode cX10_front 17 = .ok (.if_icmp .le 5, 3) := dk_164 dg_cX10_front_267.2.1
theorem dX10_front_20 : decode cX10_front 20 = .ok (.iconst (-1), 1) := dk_2 dg_cX10_front_267.2.2.1
theorem dX10_front_21 : decode cX10_front 21 = .ok (.ireturn, 1) := dk_172 dg_cX10_front_267.2.2.2.1
theorem dX10_front_22 : decode cX10_front 22 = .ok (.aload_n 0, 1) := dk_42 dg_cX10_front_267.2.2.2.2.1
theorem dX10_front_23 : decode cX10_front 23 = .ok (.getfield 62, 3) := dk_180 dg_cX10_front_267.2.2.2.2.2.1
theorem dX10_front_26 : decode cX10_front 26 = .ok (.iload_n 1, 1) := dk_27 dg_cX10_front_267.2.2.2.2.2.2.1
theorem dX10_front_27 : decode cX10_front 27 = .ok (.invokevirtual 235, 3) := dk_182 dg_cX10_front_267.2.2.2.2.2.2.2
theorem dg_cX10_front_268 : ck1 cX10_front 30 62 = true ∧ ck1 cX10_front 31 28 = true ∧ ck1 cX10_front 32 4 = true ∧ ck3s cX10_front 33 159 8 = true ∧ ck1 cX10_front 36 29 = true ∧ ck1 cX10_front 37 2 = true ∧ ck3s cX10_front 38 160 7 = true ∧ ck1 cX10_front 41 29 = true := by decide +kernel
theorem dX10_front_30 : decode cX10_front 30 = .ok (.istore_n 3, 1) := dk_62 dg_cX10_front_268.1
theorem dX10_front_31 : decode cX10_front 31 = .ok (.iload_n 2, 1) := dk_28 dg_cX10_front_268.2.1
theorem dX10_front_32 : decode cX10_front 32 = .ok (.iconst 1, 1) := dk_4 dg_cX10_front_268.2.2.1
theorem dX10_front_33 : decode cX10_front 33 = .ok (.if_icmp .eq 8, 3) := dk_159 dg_cX10_front_268.2.2.2.1
theorem dX10_front_36 : decode cX10_front 36 = .ok (.iload_n 3, 1) := dk_29 dg_cX10_front_268.2.2.2.2.1
theorem dX10_front_37 : decode cX10_front 37 = .ok (.iconst (-1), 1) := dk_2 dg_cX10_front_268.2.2.2.2.2.1
theorem dX10_front_38 : decode cX10_front 38 = .ok (.if_icmp .ne 7, 3) := dk_160 dg_cX10_front_268.2.2.2.2.2.2.1
theorem dX10_front_41 : decode cX10_front 41 = .ok (.iload_n 3, 1) := dk_29 dg_cX10_front_268.2.2.2.2.2.2.2
theorem dg_cX10_front_269 : ck3s cX10_front 42 167 7 = true ∧ ck1 cX10_front 45 29 = true ∧ ck3 cX10_front 46 184 238 = true ∧ ck1 cX10_front 49 172 = true := by decide +kernel
theorem dX10_front_42 : decode cX10_front 42 = .ok (.goto 7, 3) := dk_167 dg_cX10_front_269.1
theorem dX10_front_45 : decode cX10_front 45 = .ok (.iload_n 3, 1) := dk_29 dg_cX10_front_269.2.1
theorem dX10_front_46 : decode cX10_front 46 = .ok (.invokestatic 238, 3) := dk_184 dg_cX10_front_269.2.2.1
theorem dX10_front_49 : decode cX10_front 49 = .ok (.ireturn, 1) := dk_172 dg_cX10_front_269.2.2.2
theorem dg_cX10_growths_270 : ck1 cX10_growths 0 42 = true ∧ ck3 cX10_growths 1 180 76 = true ∧ ck1 cX10_growths 4 27 = true ∧ ck3 cX10_growths 5 182 299 = true ∧ ck3 cX10_growths 8 184 238 = true ∧ ck1 cX10_growths 11 172 = true := by decide +kernel
theorem dX10_growths_0 : decode cX10_growths 0 = .ok (.aload_n 0, 1) := dk_42 dg_cX10_growths_270.1
theorem dX10_growths_1 : decode cX10_growths 1 = .ok (.getfield 76, 3) := dk_180 dg_cX10_growths_270.2.1
theorem dX10_growths_4 : decode cX10_growths 4 = .ok (.iload_n 1, 1) := dk_27 dg_cX10_growths_270.2.2.1
theorem dX10_growths_5 : decode cX10_growths 5 = .ok (.invokevirtual 299, 3) := dk_182 dg_cX10_growths_270.2.2.2.1
theorem dX10_growths_8 : decode cX10_growths 8 = .ok (.invokestatic 238, 3) := dk_184 dg_cX10_growths_270.2.2.2.2.1
theorem dX10_growths_11 : decode cX10_growths 11 = .ok (.ireturn, 1) := dk_172 dg_cX10_growths_270.2.2.2.2.2
theorem dg_cX10_hem_271 : ck1 cX10_hem 0 42 = true ∧ ck3 cX10_hem 1 180 37 = true ∧ ck1 cX10_hem 4 3 = true ∧ ck1 cX10_hem 5 27 = true ∧ ck3 cX10_hem 6 182 144 = true ∧ ck1 cX10_hem 9 62 = true ∧ ck1 cX10_hem 10 28 = true ∧ ck1 cX10_hem 11 4 = true := by decide +kernel
theorem dX10_hem_0 : decode cX10_hem 0 = .ok (.aload_n 0, 1) := dk_42 dg_cX10_hem_271.1
theorem dX10_hem_1 : decode cX10_hem 1 = .ok (.getfield 37, 3) := dk_180 dg_cX10_hem_271.2.1
theorem dX10_hem_4 : decode cX10_hem 4 = .ok (.iconst 0, 1) := dk_3 dg_cX10_hem_271.2.2.1
theorem dX10_hem_5 : decode cX10_hem 5 = .ok (.iload_n 1, 1) := dk_27 dg_cX10_hem_271.2.2.2.1
theorem dX10_hem_6 : decode cX10_hem 6 = .ok (.invokevirtual 144, 3) := dk_182 dg_cX10_hem_271.2.2.2.2.1
theorem dX10_hem_9 : decode cX10_hem 9 = .ok (.istore_n 3, 1) := dk_62 dg_cX10_hem_271.2.2.2.2.2.1
theorem dX10_hem_10 : decode cX10_hem 10 = .ok (.iload_n 2, 1) := dk_28 dg_cX10_hem_271.2.2.2.2.2.2.1
theorem dX10_hem_11 : decode cX10_hem 11 = .ok (.iconst 1, 1) := dk_4 dg_cX10_hem_271.2.2.2.2.2.2.2
theorem dg_cX10_hem_272 : ck3s cX10_hem 12 161 8 = true ∧ ck1 cX10_hem 15 28 = true ∧ ck1 cX10_hem 16 29 = true ∧ ck3s cX10_hem 17 164 5 = true ∧ ck1 cX10_hem 20 2 = true ∧ ck1 cX10_hem 21 172 = true ∧ ck1 cX10_hem 22 42 = true ∧ ck3 cX10_hem 23 180 37 = true := by decide +kernel
theorem dX10_hem_12 : decode cX10_hem 12 = .ok (.if_icmp .lt 8, 3) := dk_161 dg_cX10_hem_272.1
theorem dX10_hem_15 : decode cX10_hem 15 = .ok (.iload_n 2, 1) := dk_28 dg_cX10_hem_272.2.1
theorem dX10_hem_16 : decode cX10_hem 16 = .ok (.iload_n 3, 1) := dk_29 dg_cX10_hem_272.2.2.1
theorem dX10_hem_17 : decode cX10_hem 17 = .ok (.if_icmp .le 5, 3) := dk_164 dg_cX10_hem_272.2.2.2.1
theorem dX10_hem_20 : decode cX10_hem 20 = .ok (.iconst (-1), 1) := dk_2 dg_cX10_hem_272.2.2.2.2.1
theorem dX10_hem_21 : decode cX10_hem 21 = .ok (.ireturn, 1) := dk_172 dg_cX10_hem_272.2.2.2.2.2.1
theorem dX10_hem_22 : decode cX10_hem 22 = .ok (.aload_n 0, 1) := dk_42 dg_cX10_hem_272.2.2.2.2.2.2.1
theorem dX10_hem_23 : decode cX10_hem 23 = .ok (.getfield 37, 3) := dk_180 dg_cX10_hem_272.2.2.2.2.2.2.2
theorem dg_cX10_hem_273 : ck1 cX10_hem 26 3 = true ∧ ck1 cX10_hem 27 27 = true ∧ ck1 cX10_hem 28 29 = true ∧ ck1 cX10_hem 29 28 = true ∧ ck1 cX10_hem 30 100 = true ∧ ck3 cX10_hem 31 182 170 = true ∧ ck1 cX10_hem 34 42 = true ∧ ck3 cX10_hem 35 180 46 = true := by decide +kernel
theorem dX10_hem_26 : decode cX10_hem 26 = .ok (.iconst 0, 1) := dk_3 dg_cX10_hem_273.1
theorem dX10_hem_27 : decode cX10_hem 27 = .ok (.iload_n 1, 1) := dk_27 dg_cX10_hem_273.2.1
theorem dX10_hem_28 : decode cX10_hem 28 = .ok (.iload_n 3, 1) := dk_29 dg_cX10_hem_273.2.2.1
theorem dX10_hem_29 : decode cX10_hem 29 = .ok (.iload_n 2, 1) := dk_28 dg_cX10_hem_273.2.2.2.1
theorem dX10_hem_30 : decode cX10_hem 30 = .ok (.isub, 1) := dk_100 dg_cX10_hem_273.2.2.2.2.1
theorem dX10_hem_31 : decode cX10_hem 31 = .ok (.invokevirtual 170, 3) := dk_182 dg_cX10_hem_273.2.2.2.2.2.1
theorem dX10_hem_34 : decode cX10_hem 34 = .ok (.aload_n 0, 1) := dk_42 dg_cX10_hem_273.2.2.2.2.2.2.1
theorem dX10_hem_35 : decode cX10_hem 35 = .ok (.getfield 46, 3) := dk_180 dg_cX10_hem_273.2.2.2.2.2.2.2
theorem dg_cX10_hem_274 : ck3 cX10_hem 38 182 160 = true ∧ ck1 cX10_hem 41 29 = true ∧ ck1 cX10_hem 42 28 = true ∧ ck1 cX10_hem 43 100 = true ∧ ck1 cX10_hem 44 172 = true := by decide +kernel
theorem dX10_hem_38 : decode cX10_hem 38 = .ok (.invokevirtual 160, 3) := dk_182 dg_cX10_hem_274.1
theorem dX10_hem_41 : decode cX10_hem 41 = .ok (.iload_n 3, 1) := dk_29 dg_cX10_hem_274.2.1
theorem dX10_hem_42 : decode cX10_hem 42 = .ok (.iload_n 2, 1) := dk_28 dg_cX10_hem_274.2.2.1
theorem dX10_hem_43 : decode cX10_hem 43 = .ok (.isub, 1) := dk_100 dg_cX10_hem_274.2.2.2.1
theorem dX10_hem_44 : decode cX10_hem 44 = .ok (.ireturn, 1) := dk_172 dg_cX10_hem_274.2.2.2.2
theorem dg_cX10_image_275 : ck1 cX10_image 0 42 = true ∧ ck3 cX10_image 1 180 46 = true ∧ ck1 cX10_image 4 27 = true ∧ ck3 cX10_image 5 182 314 = true ∧ ck3s cX10_image 8 153 13 = true ∧ ck1 cX10_image 11 42 = true ∧ ck3 cX10_image 12 180 37 = true ∧ ck3 cX10_image 15 182 150 = true := by decide +kernel
theorem dX10_image_0 : decode cX10_image 0 = .ok (.aload_n 0, 1) := dk_42 dg_cX10_image_275.1
theorem dX10_image_1 : decode cX10_image 1 = .ok (.getfield 46, 3) := dk_180 dg_cX10_image_275.2.1
theorem dX10_image_4 : decode cX10_image 4 = .ok (.iload_n 1, 1) := dk_27 dg_cX10_image_275.2.2.1
theorem dX10_image_5 : decode cX10_image 5 = .ok (.invokevirtual 314, 3) := dk_182 dg_cX10_image_275.2.2.2.1
theorem dX10_image_8 : decode cX10_image 8 = .ok (.ifCond .eq 13, 3) := dk_153 dg_cX10_image_275.2.2.2.2.1
theorem dX10_image_11 : decode cX10_image 11 = .ok (.aload_n 0, 1) := dk_42 dg_cX10_image_275.2.2.2.2.2.1
theorem dX10_image_12 : decode cX10_image 12 = .ok (.getfield 37, 3) := dk_180 dg_cX10_image_275.2.2.2.2.2.2.1
theorem dX10_image_15 : decode cX10_image 15 = .ok (.invokevirtual 150, 3) := dk_182 dg_cX10_image_275.2.2.2.2.2.2.2
theorem dg_cX10_image_276 : ck3s cX10_image 18 167 4 = true ∧ ck1 cX10_image 21 2 = true ∧ ck1 cX10_image 22 172 = true := by decide +kernel
theorem dX10_image_18 : decode cX10_image 18 = .ok (.goto 4, 3) := dk_167 dg_cX10_image_276.1
theorem dX10_image_21 : decode cX10_image 21 = .ok (.iconst (-1), 1) := dk_2 dg_cX10_image_276.2.1
theorem dX10_image_22 : decode cX10_image 22 = .ok (.ireturn, 1) := dk_172 dg_cX10_image_276.2.2
theorem dg_cX10_init_277 : ck1 cX10_init 0 42 = true ∧ ck3 cX10_init 1 183 1 = true ∧ ck1 cX10_init 4 42 = true ∧ ck3 cX10_init 5 187 7 = true ∧ ck1 cX10_init 8 89 = true ∧ ck3 cX10_init 9 183 9 = true ∧ ck3 cX10_init 12 181 10 = true ∧ ck1 cX10_init 15 42 = true := by decide +kernel
theorem dX10_init_0 : decode cX10_init 0 = .ok (.aload_n 0, 1) := dk_42 dg_cX10_init_277.1
theorem dX10_init_1 : decode cX10_init 1 = .ok (.invokespecial 1, 3) := dk_183 dg_cX10_init_277.2.1
theorem dX10_init_4 : decode cX10_init 4 = .ok (.aload_n 0, 1) := dk_42 dg_cX10_init_277.2.2.1
theorem dX10_init_5 : decode cX10_init 5 = .ok (.new 7, 3) := dk_187 dg_cX10_init_277.2.2.2.1
theorem dX10_init_8 : decode cX10_init 8 = .ok (.dup, 1) := dk_89 dg_cX10_init_277.2.2.2.2.1
theorem dX10_init_9 : decode cX10_init 9 = .ok (.invokespecial 9, 3) := dk_183 dg_cX10_init_277.2.2.2.2.2.1
theorem dX10_init_12 : decode cX10_init 12 = .ok (.putfield 10, 3) := dk_181 dg_cX10_init_277.2.2.2.2.2.2.1
theorem dX10_init_15 : decode cX10_init 15 = .ok (.aload_n 0, 1) := dk_42 dg_cX10_init_277.2.2.2.2.2.2.2
theorem dg_cX10_init_278 : ck3 cX10_init 16 187 16 = true ∧ ck1 cX10_init 19 89 = true ∧ ck1 cX10_init 20 42 = true ∧ ck3 cX10_init 21 180 10 = true ∧ ck3 cX10_init 24 183 18 = true ∧ ck3 cX10_init 27 181 21 = true ∧ ck1 cX10_init 30 42 = true ∧ ck3 cX10_init 31 187 25 = true := by decide +kernel
theorem dX10_init_16 : decode cX10_init 16 = .ok (.new 16, 3) := dk_187 dg_cX10_init_278.1
theorem dX10_init_19 : decode cX10_init 19 = .ok (.dup, 1) := dk_89 dg_cX10_init_278.2.1
theorem dX10_init_20 : decode cX10_init 20 = .ok (.aload_n 0, 1) := dk_42 dg_cX10_init_278.2.2.1
theorem dX10_init_21 : decode cX10_init 21 = .ok (.getfield 10, 3) := dk_180 dg_cX10_init_278.2.2.2.1
theorem dX10_init_24 : decode cX10_init 24 = .ok (.invokespecial 18, 3) := dk_183 dg_cX10_init_278.2.2.2.2.1
theorem dX10_init_27 : decode cX10_init 27 = .ok (.putfield 21, 3) := dk_181 dg_cX10_init_278.2.2.2.2.2.1
theorem dX10_init_30 : decode cX10_init 30 = .ok (.aload_n 0, 1) := dk_42 dg_cX10_init_278.2.2.2.2.2.2.1
theorem dX10_init_31 : decode cX10_init 31 = .ok (.new 25, 3) := dk_187 dg_cX10_init_278.2.2.2.2.2.2.2
theorem dg_cX10_init_279 : ck1 cX10_init 34 89 = true ∧ ck3 cX10_init 35 183 27 = true ∧ ck3 cX10_init 38 181 28 = true ∧ ck1 cX10_init 41 42 = true ∧ ck3 cX10_init 42 187 32 = true ∧ ck1 cX10_init 45 89 = true ∧ ck1 cX10_init 46 42 = true ∧ ck3 cX10_init 47 180 28 = true := by decide +kernel
theorem dX10_init_34 : decode cX10_init 34 = .ok (.dup, 1) := dk_89 dg_cX10_init_279.1
theorem dX10_init_35 : decode cX10_init 35 = .ok (.invokespecial 27, 3) := dk_183 dg_cX10_init_279.2.1
theorem dX10_init_38 : decode cX10_init 38 = .ok (.putfield 28, 3) := dk_181 dg_cX10_init_279.2.2.1
theorem dX10_init_41 : decode cX10_init 41 = .ok (.aload_n 0, 1) := dk_42 dg_cX10_init_279.2.2.2.1
theorem dX10_init_42 : decode cX10_init 42 = .ok (.new 32, 3) := dk_187 dg_cX10_init_279.2.2.2.2.1
theorem dX10_init_45 : decode cX10_init 45 = .ok (.dup, 1) := dk_89 dg_cX10_init_279.2.2.2.2.2.1
theorem dX10_init_46 : decode cX10_init 46 = .ok (.aload_n 0, 1) := dk_42 dg_cX10_init_279.2.2.2.2.2.2.1
theorem dX10_init_47 : decode cX10_init 47 = .ok (.getfield 28, 3) := dk_180 dg_cX10_init_279.2.2.2.2.2.2.2
theorem dg_cX10_init_280 : ck3 cX10_init 50 183 34 = true ∧ ck3 cX10_init 53 181 37 = true ∧ ck1 cX10_init 56 42 = true ∧ ck3 cX10_init 57 187 41 = true ∧ ck1 cX10_init 60 89 = true ∧ ck1 cX10_init 61 42 = true ∧ ck3 cX10_init 62 180 37 = true := by decide +kernel
theorem dX10_init_50 : decode cX10_init 50 = .ok (.invokespecial 34, 3) := dk_183 dg_cX10_init_280.1
theorem dX10_init_53 : decode cX10_init 53 = .ok (.putfield 37, 3) := dk_181 dg_cX10_init_280.2.1
theorem dX10_init_56 : decode cX10_init 56 = .ok (.aload_n 0, 1) := dk_42 dg_cX10_init_280.2.2.1
theorem dX10_init_57 : decode cX10_init 57 = .ok (.new 41, 3) := dk_187 dg_cX10_init_280.2.2.2.1
theorem dX10_init_60 : decode cX10_init 60 = .ok (.dup, 1) := dk_89 dg_cX10_init_280.2.2.2.2.1
theorem dX10_init_61 : decode cX10_init 61 = .ok (.aload_n 0, 1) := dk_42 dg_cX10_init_280.2.2.2.2.2.1
theorem dX10_init_62 : decode cX10_init 62 = .ok (.getfield 37, 3) := dk_180 dg_cX10_init_280.2.2.2.2.2.2
def dS_cX10_init_2 : List UInt8 := 42 :: 187 :: 0 :: 73 :: 89 :: 42 :: 180 :: 0 :: 28 :: 183 :: 0 :: 75 :: 181 :: 0 :: 76 :: 177 :: []
def dS_cX10_init_1 : List UInt8 := 37 :: 183 :: 0 :: 43 :: 181 :: 0 :: 46 :: 42 :: 187 :: 0 :: 50 :: 89 :: 42 :: 180 :: 0 :: 28 :: 42 :: 180 :: 0 :: 37 :: 183 :: 0 :: 52 :: 181 :: 0 :: 55 :: 42 :: 187 :: 0 :: 59 :: 89 :: 42 :: 180 :: 0 :: 28 :: 42 :: 180 :: 0 :: 37 :: 183 :: 0 :: 61 :: 181 :: 0 :: 62 :: 42 :: 187 :: 0 :: 66 :: 89 :: 42 :: 180 :: 0 :: 28 :: 42 :: 180 :: 0 :: 37 :: 183 :: 0 :: 68 :: 181 :: 0 :: 69 :: dS_cX10_init_2
def dS_cX10_init_0 : List UInt8 := 42 :: 183 :: 0 :: 1 :: 42 :: 187 :: 0 :: 7 :: 89 :: 183 :: 0 :: 9 :: 181 :: 0 :: 10 :: 42 :: 187 :: 0 :: 16 :: 89 :: 42 :: 180 :: 0 :: 10 :: 183 :: 0 :: 18 :: 181 :: 0 :: 21 :: 42 :: 187 :: 0 :: 25 :: 89 :: 183 :: 0 :: 27 :: 181 :: 0 :: 28 :: 42 :: 187 :: 0 :: 32 :: 89 :: 42 :: 180 :: 0 :: 28 :: 183 :: 0 :: 34 :: 181 :: 0 :: 37 :: 42 :: 187 :: 0 :: 41 :: 89 :: 42 :: 180 :: 0 :: dS_cX10_init_1
theorem dT_cX10_init_0 : cX10_init.data.toList.drop 0 = dS_cX10_init_0 := by decide +kernel
theorem dT_cX10_init_1 : cX10_init.data.toList.drop 64 = dS_cX10_init_1 := ck_nx dT_cX10_init_0 (by decide +kernel) rfl
theorem dT_cX10_init_2 : cX10_init.data.toList.drop 128 = dS_cX10_init_2 := ck_nx dT_cX10_init_1 (by decide +kernel) rfl
theorem dg_cX10_init_281 : ck3L dS_cX10_init_1 1 183 43 = true ∧ ck3L dS_cX10_init_1 4 181 46 = true ∧ ck1L dS_cX10_init_1 7 42 = true ∧ ck3L dS_cX10_init_1 8 187 50 = true ∧ ck1L dS_cX10_init_1 11 89 = true ∧ ck1L dS_cX10_init_1 12 42 = true ∧ ck3L dS_cX10_init_1 13 180 28 = true ∧ ck1L dS_cX10_init_1 16 42 = true := by decide +kernel
theorem dX10_init_65 : decode cX10_init 65 = .ok (.invokespecial 43, 3) := dk_183 (ck3_s (r := 1) dT_cX10_init_1 rfl dg_cX10_init_281.1)
theorem dX10_init_68 : decode cX10_init 68 = .ok (.putfield 46, 3) := dk_181 (ck3_s (r := 4) dT_cX10_init_1 rfl dg_cX10_init_281.2.1)
theorem dX10_init_71 : decode cX10_init 71 = .ok (.aload_n 0, 1) := dk_42 (ck1_s (r := 7) dT_cX10_init_1 rfl dg_cX10_init_281.2.2.1)
theorem dX10_init_72 : decode cX10_init 72 = .ok (.new 50, 3) := dk_187 (ck3_s (r := 8) dT_cX10_init_1 rfl dg_cX10_init_281.2.2.2.1)
theorem dX10_init_75 : decode cX10_init 75 = .ok (.dup, 1) := dk_89 (ck1_s (r := 11) dT_cX10_init_1 rfl dg_cX10_init_281.2.2.2.2.1)
theorem dX10_init_76 : decode cX10_init 76 = .ok (.aload_n 0, 1) := dk_42 (ck1_s (r := 12) dT_cX10_init_1 rfl dg_cX10_init_281.2.2.2.2.2.1)
theorem dX10_init_77 : decode cX10_init 77 = .ok (.getfield 28, 3) := dk_180 (ck3_s (r := 13) dT_cX10_init_1 rfl dg_cX10_init_281.2.2.2.2.2.2.1)
theorem dX10_init_80 : decode cX10_init 80 = .ok (.aload_n 0, 1) := dk_42 (ck1_s (r := 16) dT_cX10_init_1 rfl dg_cX10_init_281.2.2.2.2.2.2.2)
theorem dg_cX10_init_282 : ck3L dS_cX10_init_1 17 180 37 = true ∧ ck3L dS_cX10_init_1 20 183 52 = true ∧ ck3L dS_cX10_init_1 23 181 55 = true ∧ ck1L dS_cX10_init_1 26 42 = true ∧ ck3L dS_cX10_init_1 27 187 59 = true ∧ ck1L dS_cX10_init_1 30 89 = true ∧ ck1L dS_cX10_init_1 31 42 = true ∧ ck3L dS_cX10_init_1 32 180 28 = true := by decide +kernel
theorem dX10_init_81 : decode cX10_init 81 = .ok (.getfield 37, 3) := dk_180 (ck3_s (r := 17) dT_cX10_init_1 rfl dg_cX10_init_282.1)
theorem dX10_init_84 : decode cX10_init 84 = .ok (.invokespecial 52, 3) := dk_183 (ck3_s (r := 20) dT_cX10_init_1 rfl dg_cX10_init_282.2.1)
theorem dX10_init_87 : decode cX10_init 87 = .ok (.putfield 55, 3) := dk_181 (ck3_s (r := 23) dT_cX10_init_1 rfl dg_cX10_init_282.2.2.1)
theorem dX10_init_90 : decode cX10_init 90 = .ok (.aload_n 0, 1) := dk_42 (ck1_s (r := 26) dT_cX10_init_1 rfl dg_cX10_init_282.2.2.2.1)
theorem dX10_init_91 : decode cX10_init 91 = .ok (.new 59, 3) := dk_187 (ck3_s (r := 27) dT_cX10_init_1 rfl dg_cX10_init_282.2.2.2.2.1)
theorem dX10_init_94 : decode cX10_init 94 = .ok (.dup, 1) := dk_89 (ck1_s (r := 30) dT_cX10_init_1 rfl dg_cX10_init_282.2.2.2.2.2.1)
theorem dX10_init_95 : decode cX10_init 95 = .ok (.aload_n 0, 1) := dk_42 (ck1_s (r := 31) dT_cX10_init_1 rfl dg_cX10_init_282.2.2.2.2.2.2.1)
theorem dX10_init_96 : decode cX10_init 96 = .ok (.getfield 28, 3) := dk_180 (ck3_s (r := 32) dT_cX10_init_1 rfl dg_cX10_init_282.2.2.2.2.2.2.2)
theorem dg_cX10_init_283 : ck1L dS_cX10_init_1 35 42 = true ∧ ck3L dS_cX10_init_1 36 180 37 = true ∧ ck3L dS_cX10_init_1 39 183 61 = true ∧ ck3L dS_cX10_init_1 42 181 62 = true ∧ ck1L dS_cX10_init_1 45 42 = true ∧ ck3L dS_cX10_init_1 46 187 66 = true ∧ ck1L dS_cX10_init_1 49 89 = true ∧ ck1L dS_cX10_init_1 50 42 = true := by decide +kernel
theorem dX10_init_99 : decode cX10_init 99 = .ok (.aload_n 0, 1) := dk_42 (ck1_s (r := 35) dT_cX10_init_1 rfl dg_cX10_init_283.1)
theorem dX10_init_100 : decode cX10_init 100 = .ok (.getfield 37, 3) := dk_180 (ck3_s (r := 36) dT_cX10_init_1 rfl dg_cX10_init_283.2.1)
theorem dX10_init_103 : decode cX10_init 103 = .ok (.invokespecial 61, 3) := dk_183 (ck3_s (r := 39) dT_cX10_init_1 rfl dg_cX10_init_283.2.2.1)
theorem dX10_init_106 : decode cX10_init 106 = .ok (.putfield 62, 3) := dk_181 (ck3_s (r := 42) dT_cX10_init_1 rfl dg_cX10_init_283.2.2.2.1)
theorem dX10_init_109 : decode cX10_init 109 = .ok (.aload_n 0, 1) := dk_42 (ck1_s (r := 45) dT_cX10_init_1 rfl dg_cX10_init_283.2.2.2.2.1)
theorem dX10_init_110 : decode cX10_init 110 = .ok (.new 66, 3) := dk_187 (ck3_s (r := 46) dT_cX10_init_1 rfl dg_cX10_init_283.2.2.2.2.2.1)
theorem dX10_init_113 : decode cX10_init 113 = .ok (.dup, 1) := dk_89 (ck1_s (r := 49) dT_cX10_init_1 rfl dg_cX10_init_283.2.2.2.2.2.2.1)
theorem dX10_init_114 : decode cX10_init 114 = .ok (.aload_n 0, 1) := dk_42 (ck1_s (r := 50) dT_cX10_init_1 rfl dg_cX10_init_283.2.2.2.2.2.2.2)
theorem dg_cX10_init_284 : ck3L dS_cX10_init_1 51 180 28 = true ∧ ck1L dS_cX10_init_1 54 42 = true ∧ ck3L dS_cX10_init_1 55 180 37 = true ∧ ck3L dS_cX10_init_1 58 183 68 = true ∧ ck3L dS_cX10_init_1 61 181 69 = true ∧ ck1L dS_cX10_init_2 0 42 = true ∧ ck3L dS_cX10_init_2 1 187 73 = true ∧ ck1L dS_cX10_init_2 4 89 = true := by decide +kernel
theorem dX10_init_115 : decode cX10_init 115 = .ok (.getfield 28, 3) := dk_180 (ck3_s (r := 51) dT_cX10_init_1 rfl dg_cX10_init_284.1)
theorem dX10_init_118 : decode cX10_init 118 = .ok (.aload_n 0, 1) := dk_42 (ck1_s (r := 54) dT_cX10_init_1 rfl dg_cX10_init_284.2.1)
theorem dX10_init_119 : decode cX10_init 119 = .ok (.getfield 37, 3) := dk_180 (ck3_s (r := 55) dT_cX10_init_1 rfl dg_cX10_init_284.2.2.1)
theorem dX10_init_122 : decode cX10_init 122 = .ok (.invokespecial 68, 3) := dk_183 (ck3_s (r := 58) dT_cX10_init_1 rfl dg_cX10_init_284.2.2.2.1)
theorem dX10_init_125 : decode cX10_init 125 = .ok (.putfield 69, 3) := dk_181 (ck3_s (r := 61) dT_cX10_init_1 rfl dg_cX10_init_284.2.2.2.2.1)
theorem dX10_init_128 : decode cX10_init 128 = .ok (.aload_n 0, 1) := dk_42 (ck1_s (r := 0) dT_cX10_init_2 rfl dg_cX10_init_284.2.2.2.2.2.1)
theorem dX10_init_129 : decode cX10_init 129 = .ok (.new 73, 3) := dk_187 (ck3_s (r := 1) dT_cX10_init_2 rfl dg_cX10_init_284.2.2.2.2.2.2.1)
theorem dX10_init_132 : decode cX10_init 132 = .ok (.dup, 1) := dk_89 (ck1_s (r := 4) dT_cX10_init_2 rfl dg_cX10_init_284.2.2.2.2.2.2.2)
theorem dg_cX10_init_285 : ck1L dS_cX10_init_2 5 42 = true ∧ ck3L dS_cX10_init_2 6 180 28 = true ∧ ck3L dS_cX10_init_2 9 183 75 = true ∧ ck3L dS_cX10_init_2 12 181 76 = true ∧ ck1L dS_cX10_init_2 15 177 = true := by decide +kernel
theorem dX10_init_133 : decode cX10_init 133 = .ok (.aload_n 0, 1) := dk_42 (ck1_s (r := 5) dT_cX10_init_2 rfl dg_cX10_init_285.1)
theorem dX10_init_134 : decode cX10_init 134 = .ok (.getfield 28, 3) := dk_180 (ck3_s (r := 6) dT_cX10_init_2 rfl dg_cX10_init_285.2.1)
theorem dX10_init_137 : decode cX10_init 137 = .ok (.invokespecial 75, 3) := dk_183 (ck3_s (r := 9) dT_cX10_init_2 rfl dg_cX10_init_285.2.2.1)
theorem dX10_init_140 : decode cX10_init 140 = .ok (.putfield 76, 3) := dk_181 (ck3_s (r := 12) dT_cX10_init_2 rfl dg_cX10_init_285.2.2.2.1)
theorem dX10_init_143 : decode cX10_init 143 = .ok (.return_, 1) := dk_177 (ck1_s (r := 15) dT_cX10_init_2 rfl dg_cX10_init_285.2.2.2.2)
theorem dg_cX10_later_286 : ck1 cX10_later 0 27 = true ∧ ck3s cX10_later 1 155 22 = true ∧ ck1 cX10_later 4 27 = true ∧ ck3s cX10_later 5 17 1000 = true ∧ ck3s cX10_later 8 163 15 = true ∧ ck1 cX10_later 11 42 = true ∧ ck3 cX10_later 12 180 288 = true ∧ ck1 cX10_later 15 27 = true := by decide +kernel
theorem dX10_later_0 : decode cX10_later 0 = .ok (.iload_n 1, 1) := dk_27 dg_cX10_later_286.1
theorem dX10_later_1 : decode cX10_later 1 = .ok (.ifCond .lt 22, 3) := dk_155 dg_cX10_later_286.2.1
theorem dX10_later_4 : decode cX10_later 4 = .ok (.iload_n 1, 1) := dk_27 dg_cX10_later_286.2.2.1
theorem dX10_later_5 : decode cX10_later 5 = .ok (.sipush 1000, 3) := dk_17 dg_cX10_later_286.2.2.2.1
theorem dX10_later_8 : decode cX10_later 8 = .ok (.if_icmp .gt 15, 3) := dk_163 dg_cX10_later_286.2.2.2.2.1
theorem dX10_later_11 : decode cX10_later 11 = .ok (.aload_n 0, 1) := dk_42 dg_cX10_later_286.2.2.2.2.2.1
theorem dX10_later_12 : decode cX10_later 12 = .ok (.getfield 288, 3) := dk_180 dg_cX10_later_286.2.2.2.2.2.2.1
theorem dX10_later_15 : decode cX10_later 15 = .ok (.iload_n 1, 1) := dk_27 dg_cX10_later_286.2.2.2.2.2.2.2
theorem dg_cX10_later_287 : ck1 cX10_later 16 96 = true ∧ ck3 cX10_later 17 19 298 = true ∧ ck3s cX10_later 20 164 5 = true ∧ ck1 cX10_later 23 2 = true ∧ ck1 cX10_later 24 172 = true ∧ ck1 cX10_later 25 42 = true ∧ ck1 cX10_later 26 89 = true ∧ ck3 cX10_later 27 180 288 = true := by decide +kernel
theorem dX10_later_16 : decode cX10_later 16 = .ok (.iadd, 1) := dk_96 dg_cX10_later_287.1
theorem dX10_later_17 : decode cX10_later 17 = .ok (.ldc_w 298, 3) := dk_19 dg_cX10_later_287.2.1
theorem dX10_later_20 : decode cX10_later 20 = .ok (.if_icmp .le 5, 3) := dk_164 dg_cX10_later_287.2.2.1
theorem dX10_later_23 : decode cX10_later 23 = .ok (.iconst (-1), 1) := dk_2 dg_cX10_later_287.2.2.2.1
theorem dX10_later_24 : decode cX10_later 24 = .ok (.ireturn, 1) := dk_172 dg_cX10_later_287.2.2.2.2.1
theorem dX10_later_25 : decode cX10_later 25 = .ok (.aload_n 0, 1) := dk_42 dg_cX10_later_287.2.2.2.2.2.1
theorem dX10_later_26 : decode cX10_later 26 = .ok (.dup, 1) := dk_89 dg_cX10_later_287.2.2.2.2.2.2.1
theorem dX10_later_27 : decode cX10_later 27 = .ok (.getfield 288, 3) := dk_180 dg_cX10_later_287.2.2.2.2.2.2.2
theorem dg_cX10_later_288 : ck1 cX10_later 30 27 = true ∧ ck1 cX10_later 31 96 = true ∧ ck3 cX10_later 32 181 288 = true ∧ ck1 cX10_later 35 42 = true ∧ ck3 cX10_later 36 180 288 = true ∧ ck1 cX10_later 39 172 = true := by decide +kernel
theorem dX10_later_30 : decode cX10_later 30 = .ok (.iload_n 1, 1) := dk_27 dg_cX10_later_288.1
theorem dX10_later_31 : decode cX10_later 31 = .ok (.iadd, 1) := dk_96 dg_cX10_later_288.2.1
theorem dX10_later_32 : decode cX10_later 32 = .ok (.putfield 288, 3) := dk_181 dg_cX10_later_288.2.2.1
theorem dX10_later_35 : decode cX10_later 35 = .ok (.aload_n 0, 1) := dk_42 dg_cX10_later_288.2.2.2.1
theorem dX10_later_36 : decode cX10_later 36 = .ok (.getfield 288, 3) := dk_180 dg_cX10_later_288.2.2.2.2.1
theorem dX10_later_39 : decode cX10_later 39 = .ok (.ireturn, 1) := dk_172 dg_cX10_later_288.2.2.2.2.2
theorem dg_cX10_law_289 : ck1 cX10_law 0 27 = true ∧ ck3s cX10_law 1 155 10 = true ∧ ck1 cX10_law 4 27 = true ∧ ck3s cX10_law 5 17 999 = true ∧ ck3s cX10_law 8 164 7 = true ∧ ck1 cX10_law 11 2 = true ∧ ck3s cX10_law 12 167 11 = true ∧ ck1 cX10_law 15 42 = true := by decide +kernel
theorem dX10_law_0 : decode cX10_law 0 = .ok (.iload_n 1, 1) := dk_27 dg_cX10_law_289.1
theorem dX10_law_1 : decode cX10_law 1 = .ok (.ifCond .lt 10, 3) := dk_155 dg_cX10_law_289.2.1
theorem dX10_law_4 : decode cX10_law 4 = .ok (.iload_n 1, 1) := dk_27 dg_cX10_law_289.2.2.1
theorem dX10_law_5 : decode cX10_law 5 = .ok (.sipush 999, 3) := dk_17 dg_cX10_law_289.2.2.2.1
theorem dX10_law_8 : decode cX10_law 8 = .ok (.if_icmp .le 7, 3) := dk_164 dg_cX10_law_289.2.2.2.2.1
theorem dX10_law_11 : decode cX10_law 11 = .ok (.iconst (-1), 1) := dk_2 dg_cX10_law_289.2.2.2.2.2.1
theorem dX10_law_12 : decode cX10_law 12 = .ok (.goto 11, 3) := dk_167 dg_cX10_law_289.2.2.2.2.2.2.1
theorem dX10_law_15 : decode cX10_law 15 = .ok (.aload_n 0, 1) := dk_42 dg_cX10_law_289.2.2.2.2.2.2.2
theorem dg_cX10_law_290 : ck3 cX10_law 16 180 55 = true ∧ ck1 cX10_law 19 27 = true ∧ ck3 cX10_law 20 182 267 = true ∧ ck1 cX10_law 23 172 = true := by decide +kernel
theorem dX10_law_16 : decode cX10_law 16 = .ok (.getfield 55, 3) := dk_180 dg_cX10_law_290.1
theorem dX10_law_19 : decode cX10_law 19 = .ok (.iload_n 1, 1) := dk_27 dg_cX10_law_290.2.1
theorem dX10_law_20 : decode cX10_law 20 = .ok (.invokevirtual 267, 3) := dk_182 dg_cX10_law_290.2.2.1
theorem dX10_law_23 : decode cX10_law 23 = .ok (.ireturn, 1) := dk_172 dg_cX10_law_290.2.2.2
theorem dg_cX10_letout_291 : ck1 cX10_letout 0 28 = true ∧ ck1 cX10_letout 1 4 = true ∧ ck3s cX10_letout 2 161 16 = true ∧ ck1 cX10_letout 5 28 = true ∧ ck1 cX10_letout 6 42 = true ∧ ck3 cX10_letout 7 180 37 = true ∧ ck1 cX10_letout 10 5 = true ∧ ck1 cX10_letout 11 27 = true := by decide +kernel
theorem dX10_letout_0 : decode cX10_letout 0 = .ok (.iload_n 2, 1) := dk_28 dg_cX10_letout_291.1
theorem dX10_letout_1 : decode cX10_letout 1 = .ok (.iconst 1, 1) := dk_4 dg_cX10_letout_291.2.1
theorem dX10_letout_2 : decode cX10_letout 2 = .ok (.if_icmp .lt 16, 3) := dk_161 dg_cX10_letout_291.2.2.1
theorem dX10_letout_5 : decode cX10_letout 5 = .ok (.iload_n 2, 1) := dk_28 dg_cX10_letout_291.2.2.2.1
theorem dX10_letout_6 : decode cX10_letout 6 = .ok (.aload_n 0, 1) := dk_42 dg_cX10_letout_291.2.2.2.2.1
theorem dX10_letout_7 : decode cX10_letout 7 = .ok (.getfield 37, 3) := dk_180 dg_cX10_letout_291.2.2.2.2.2.1
theorem dX10_letout_10 : decode cX10_letout 10 = .ok (.iconst 2, 1) := dk_5 dg_cX10_letout_291.2.2.2.2.2.2.1
theorem dX10_letout_11 : decode cX10_letout 11 = .ok (.iload_n 1, 1) := dk_27 dg_cX10_letout_291.2.2.2.2.2.2.2
theorem dg_cX10_letout_292 : ck3 cX10_letout 12 182 144 = true ∧ ck3s cX10_letout 15 164 5 = true ∧ ck1 cX10_letout 18 2 = true ∧ ck1 cX10_letout 19 172 = true ∧ ck1 cX10_letout 20 42 = true ∧ ck1 cX10_letout 21 27 = true ∧ ck1 cX10_letout 22 28 = true ∧ ck3 cX10_letout 23 182 167 = true := by decide +kernel
theorem dX10_letout_12 : decode cX10_letout 12 = .ok (.invokevirtual 144, 3) := dk_182 dg_cX10_letout_292.1
theorem dX10_letout_15 : decode cX10_letout 15 = .ok (.if_icmp .le 5, 3) := dk_164 dg_cX10_letout_292.2.1
theorem dX10_letout_18 : decode cX10_letout 18 = .ok (.iconst (-1), 1) := dk_2 dg_cX10_letout_292.2.2.1
theorem dX10_letout_19 : decode cX10_letout 19 = .ok (.ireturn, 1) := dk_172 dg_cX10_letout_292.2.2.2.1
theorem dX10_letout_20 : decode cX10_letout 20 = .ok (.aload_n 0, 1) := dk_42 dg_cX10_letout_292.2.2.2.2.1
theorem dX10_letout_21 : decode cX10_letout 21 = .ok (.iload_n 1, 1) := dk_27 dg_cX10_letout_292.2.2.2.2.2.1
theorem dX10_letout_22 : decode cX10_letout 22 = .ok (.iload_n 2, 1) := dk_28 dg_cX10_letout_292.2.2.2.2.2.2.1
theorem dX10_letout_23 : decode cX10_letout 23 = .ok (.invokevirtual 167, 3) := dk_182 dg_cX10_letout_292.2.2.2.2.2.2.2
theorem dg_cX10_letout_293 : ck1 cX10_letout 26 172 = true := by decide +kernel
theorem dX10_letout_26 : decode cX10_letout 26 = .ok (.ireturn, 1) := dk_172 dg_cX10_letout_293
theorem dg_cX10_lies_294 : ck1 cX10_lies 0 42 = true ∧ ck3 cX10_lies 1 180 69 = true ∧ ck1 cX10_lies 4 27 = true ∧ ck3 cX10_lies 5 182 285 = true ∧ ck1 cX10_lies 8 172 = true := by decide +kernel
theorem dX10_lies_0 : decode cX10_lies 0 = .ok (.aload_n 0, 1) := dk_42 dg_cX10_lies_294.1
theorem dX10_lies_1 : decode cX10_lies 1 = .ok (.getfield 69, 3) := dk_180 dg_cX10_lies_294.2.1
theorem dX10_lies_4 : decode cX10_lies 4 = .ok (.iload_n 1, 1) := dk_27 dg_cX10_lies_294.2.2.1
theorem dX10_lies_5 : decode cX10_lies 5 = .ok (.invokevirtual 285, 3) := dk_182 dg_cX10_lies_294.2.2.2.1
theorem dX10_lies_8 : decode cX10_lies 8 = .ok (.ireturn, 1) := dk_172 dg_cX10_lies_294.2.2.2.2
theorem dg_cX10_man_295 : ck1 cX10_man 0 42 = true ∧ ck3 cX10_man 1 180 28 = true ∧ ck1 cX10_man 4 27 = true ∧ ck3 cX10_man 5 182 120 = true ∧ ck3s cX10_man 8 154 6 = true ∧ ck2s cX10_man 11 16 (-2) = true ∧ ck1 cX10_man 13 172 = true ∧ ck1 cX10_man 14 28 = true := by decide +kernel
theorem dX10_man_0 : decode cX10_man 0 = .ok (.aload_n 0, 1) := dk_42 dg_cX10_man_295.1
theorem dX10_man_1 : decode cX10_man 1 = .ok (.getfield 28, 3) := dk_180 dg_cX10_man_295.2.1
theorem dX10_man_4 : decode cX10_man 4 = .ok (.iload_n 1, 1) := dk_27 dg_cX10_man_295.2.2.1
theorem dX10_man_5 : decode cX10_man 5 = .ok (.invokevirtual 120, 3) := dk_182 dg_cX10_man_295.2.2.2.1
theorem dX10_man_8 : decode cX10_man 8 = .ok (.ifCond .ne 6, 3) := dk_154 dg_cX10_man_295.2.2.2.2.1
theorem dX10_man_11 : decode cX10_man 11 = .ok (.bipush (-2), 2) := dk_16 dg_cX10_man_295.2.2.2.2.2.1
theorem dX10_man_13 : decode cX10_man 13 = .ok (.ireturn, 1) := dk_172 dg_cX10_man_295.2.2.2.2.2.2.1
theorem dX10_man_14 : decode cX10_man 14 = .ok (.iload_n 2, 1) := dk_28 dg_cX10_man_295.2.2.2.2.2.2.2
theorem dX10_man_15 : decode cX10_man 15 = .ok (.tableswitch 80 0 4 #[33, 43, 52, 62, 71], 33) := by decide +kernel
theorem dg_cX10_man_296 : ck1 cX10_man 48 42 = true ∧ ck3 cX10_man 49 180 28 = true ∧ ck1 cX10_man 52 3 = true ∧ ck1 cX10_man 53 27 = true ∧ ck3 cX10_man 54 182 124 = true ∧ ck1 cX10_man 57 172 = true ∧ ck1 cX10_man 58 42 = true ∧ ck3 cX10_man 59 180 37 = true := by decide +kernel
theorem dX10_man_48 : decode cX10_man 48 = .ok (.aload_n 0, 1) := dk_42 dg_cX10_man_296.1
theorem dX10_man_49 : decode cX10_man 49 = .ok (.getfield 28, 3) := dk_180 dg_cX10_man_296.2.1
theorem dX10_man_52 : decode cX10_man 52 = .ok (.iconst 0, 1) := dk_3 dg_cX10_man_296.2.2.1
theorem dX10_man_53 : decode cX10_man 53 = .ok (.iload_n 1, 1) := dk_27 dg_cX10_man_296.2.2.2.1
theorem dX10_man_54 : decode cX10_man 54 = .ok (.invokevirtual 124, 3) := dk_182 dg_cX10_man_296.2.2.2.2.1
theorem dX10_man_57 : decode cX10_man 57 = .ok (.ireturn, 1) := dk_172 dg_cX10_man_296.2.2.2.2.2.1
theorem dX10_man_58 : decode cX10_man 58 = .ok (.aload_n 0, 1) := dk_42 dg_cX10_man_296.2.2.2.2.2.2.1
theorem dX10_man_59 : decode cX10_man 59 = .ok (.getfield 37, 3) := dk_180 dg_cX10_man_296.2.2.2.2.2.2.2
theorem dg_cX10_man_297 : ck1 cX10_man 62 27 = true ∧ ck3 cX10_man 63 182 128 = true := by decide +kernel
theorem dX10_man_62 : decode cX10_man 62 = .ok (.iload_n 1, 1) := dk_27 dg_cX10_man_297.1
theorem dX10_man_63 : decode cX10_man 63 = .ok (.invokevirtual 128, 3) := dk_182 dg_cX10_man_297.2
def dS_cX10_man_1 : List UInt8 := 0 :: 128 :: 172 :: 42 :: 180 :: 0 :: 28 :: 5 :: 27 :: 182 :: 0 :: 124 :: 172 :: 42 :: 180 :: 0 :: 37 :: 27 :: 182 :: 0 :: 132 :: 172 :: 42 :: 180 :: 0 :: 37 :: 27 :: 182 :: 0 :: 135 :: 172 :: 16 :: 254 :: 172 :: []
def dS_cX10_man_0 : List UInt8 := 42 :: 180 :: 0 :: 28 :: 27 :: 182 :: 0 :: 120 :: 154 :: 0 :: 6 :: 16 :: 254 :: 172 :: 28 :: 170 :: 0 :: 0 :: 0 :: 80 :: 0 :: 0 :: 0 :: 0 :: 0 :: 0 :: 0 :: 4 :: 0 :: 0 :: 0 :: 33 :: 0 :: 0 :: 0 :: 43 :: 0 :: 0 :: 0 :: 52 :: 0 :: 0 :: 0 :: 62 :: 0 :: 0 :: 0 :: 71 :: 42 :: 180 :: 0 :: 28 :: 3 :: 27 :: 182 :: 0 :: 124 :: 172 :: 42 :: 180 :: 0 :: 37 :: 27 :: 182 :: dS_cX10_man_1
theorem dT_cX10_man_0 : cX10_man.data.toList.drop 0 = dS_cX10_man_0 := by decide +kernel
theorem dT_cX10_man_1 : cX10_man.data.toList.drop 64 = dS_cX10_man_1 := ck_nx dT_cX10_man_0 (by decide +kernel) rfl
theorem dg_cX10_man_298 : ck1L dS_cX10_man_1 2 172 = true ∧ ck1L dS_cX10_man_1 3 42 = true ∧ ck3L dS_cX10_man_1 4 180 28 = true ∧ ck1L dS_cX10_man_1 7 5 = true ∧ ck1L dS_cX10_man_1 8 27 = true ∧ ck3L dS_cX10_man_1 9 182 124 = true ∧ ck1L dS_cX10_man_1 12 172 = true ∧ ck1L dS_cX10_man_1 13 42 = true := by decide +kernel
theorem dX10_man_66 : decode cX10_man 66 = .ok (.ireturn, 1) := dk_172 (ck1_s (r := 2) dT_cX10_man_1 rfl dg_cX10_man_298.1)
theorem dX10_man_67 : decode cX10_man 67 = .ok (.aload_n 0, 1) := dk_42 (ck1_s (r := 3) dT_cX10_man_1 rfl dg_cX10_man_298.2.1)
theorem dX10_man_68 : decode cX10_man 68 = .ok (.getfield 28, 3) := dk_180 (ck3_s (r := 4) dT_cX10_man_1 rfl dg_cX10_man_298.2.2.1)
theorem dX10_man_71 : decode cX10_man 71 = .ok (.iconst 2, 1) := dk_5 (ck1_s (r := 7) dT_cX10_man_1 rfl dg_cX10_man_298.2.2.2.1)
theorem dX10_man_72 : decode cX10_man 72 = .ok (.iload_n 1, 1) := dk_27 (ck1_s (r := 8) dT_cX10_man_1 rfl dg_cX10_man_298.2.2.2.2.1)
theorem dX10_man_73 : decode cX10_man 73 = .ok (.invokevirtual 124, 3) := dk_182 (ck3_s (r := 9) dT_cX10_man_1 rfl dg_cX10_man_298.2.2.2.2.2.1)
theorem dX10_man_76 : decode cX10_man 76 = .ok (.ireturn, 1) := dk_172 (ck1_s (r := 12) dT_cX10_man_1 rfl dg_cX10_man_298.2.2.2.2.2.2.1)
theorem dX10_man_77 : decode cX10_man 77 = .ok (.aload_n 0, 1) := dk_42 (ck1_s (r := 13) dT_cX10_man_1 rfl dg_cX10_man_298.2.2.2.2.2.2.2)
theorem dg_cX10_man_299 : ck3L dS_cX10_man_1 14 180 37 = true ∧ ck1L dS_cX10_man_1 17 27 = true ∧ ck3L dS_cX10_man_1 18 182 132 = true ∧ ck1L dS_cX10_man_1 21 172 = true ∧ ck1L dS_cX10_man_1 22 42 = true ∧ ck3L dS_cX10_man_1 23 180 37 = true ∧ ck1L dS_cX10_man_1 26 27 = true ∧ ck3L dS_cX10_man_1 27 182 135 = true := by decide +kernel
theorem dX10_man_78 : decode cX10_man 78 = .ok (.getfield 37, 3) := dk_180 (ck3_s (r := 14) dT_cX10_man_1 rfl dg_cX10_man_299.1)
theorem dX10_man_81 : decode cX10_man 81 = .ok (.iload_n 1, 1) := dk_27 (ck1_s (r := 17) dT_cX10_man_1 rfl dg_cX10_man_299.2.1)
theorem dX10_man_82 : decode cX10_man 82 = .ok (.invokevirtual 132, 3) := dk_182 (ck3_s (r := 18) dT_cX10_man_1 rfl dg_cX10_man_299.2.2.1)
theorem dX10_man_85 : decode cX10_man 85 = .ok (.ireturn, 1) := dk_172 (ck1_s (r := 21) dT_cX10_man_1 rfl dg_cX10_man_299.2.2.2.1)
theorem dX10_man_86 : decode cX10_man 86 = .ok (.aload_n 0, 1) := dk_42 (ck1_s (r := 22) dT_cX10_man_1 rfl dg_cX10_man_299.2.2.2.2.1)
theorem dX10_man_87 : decode cX10_man 87 = .ok (.getfield 37, 3) := dk_180 (ck3_s (r := 23) dT_cX10_man_1 rfl dg_cX10_man_299.2.2.2.2.2.1)
theorem dX10_man_90 : decode cX10_man 90 = .ok (.iload_n 1, 1) := dk_27 (ck1_s (r := 26) dT_cX10_man_1 rfl dg_cX10_man_299.2.2.2.2.2.2.1)
theorem dX10_man_91 : decode cX10_man 91 = .ok (.invokevirtual 135, 3) := dk_182 (ck3_s (r := 27) dT_cX10_man_1 rfl dg_cX10_man_299.2.2.2.2.2.2.2)
theorem dg_cX10_man_300 : ck1L dS_cX10_man_1 30 172 = true ∧ ck2sL dS_cX10_man_1 31 16 (-2) = true ∧ ck1L dS_cX10_man_1 33 172 = true := by decide +kernel
theorem dX10_man_94 : decode cX10_man 94 = .ok (.ireturn, 1) := dk_172 (ck1_s (r := 30) dT_cX10_man_1 rfl dg_cX10_man_300.1)
theorem dX10_man_95 : decode cX10_man 95 = .ok (.bipush (-2), 2) := dk_16 (ck2s_s (r := 31) dT_cX10_man_1 rfl dg_cX10_man_300.2.1)
theorem dX10_man_97 : decode cX10_man 97 = .ok (.ireturn, 1) := dk_172 (ck1_s (r := 33) dT_cX10_man_1 rfl dg_cX10_man_300.2.2)
theorem dg_cX10_misfit_301 : ck1 cX10_misfit 0 42 = true ∧ ck3 cX10_misfit 1 180 28 = true ∧ ck1 cX10_misfit 4 27 = true ∧ ck3 cX10_misfit 5 182 120 = true ∧ ck3s cX10_misfit 8 153 26 = true ∧ ck1 cX10_misfit 11 42 = true ∧ ck3 cX10_misfit 12 180 28 = true ∧ ck1 cX10_misfit 15 28 = true := by decide +kernel
theorem dX10_misfit_0 : decode cX10_misfit 0 = .ok (.aload_n 0, 1) := dk_42 dg_cX10_misfit_301.1
theorem dX10_misfit_1 : decode cX10_misfit 1 = .ok (.getfield 28, 3) := dk_180 dg_cX10_misfit_301.2.1
theorem dX10_misfit_4 : decode cX10_misfit 4 = .ok (.iload_n 1, 1) := dk_27 dg_cX10_misfit_301.2.2.1
theorem dX10_misfit_5 : decode cX10_misfit 5 = .ok (.invokevirtual 120, 3) := dk_182 dg_cX10_misfit_301.2.2.2.1
theorem dX10_misfit_8 : decode cX10_misfit 8 = .ok (.ifCond .eq 26, 3) := dk_153 dg_cX10_misfit_301.2.2.2.2.1
theorem dX10_misfit_11 : decode cX10_misfit 11 = .ok (.aload_n 0, 1) := dk_42 dg_cX10_misfit_301.2.2.2.2.2.1
theorem dX10_misfit_12 : decode cX10_misfit 12 = .ok (.getfield 28, 3) := dk_180 dg_cX10_misfit_301.2.2.2.2.2.2.1
theorem dX10_misfit_15 : decode cX10_misfit 15 = .ok (.iload_n 2, 1) := dk_28 dg_cX10_misfit_301.2.2.2.2.2.2.2
theorem dg_cX10_misfit_302 : ck3 cX10_misfit 16 182 138 = true ∧ ck3s cX10_misfit 19 153 15 = true ∧ ck1 cX10_misfit 22 42 = true ∧ ck3 cX10_misfit 23 180 37 = true ∧ ck1 cX10_misfit 26 27 = true ∧ ck1 cX10_misfit 27 28 = true ∧ ck3 cX10_misfit 28 182 147 = true ∧ ck3s cX10_misfit 31 167 4 = true := by decide +kernel
theorem dX10_misfit_16 : decode cX10_misfit 16 = .ok (.invokevirtual 138, 3) := dk_182 dg_cX10_misfit_302.1
theorem dX10_misfit_19 : decode cX10_misfit 19 = .ok (.ifCond .eq 15, 3) := dk_153 dg_cX10_misfit_302.2.1
theorem dX10_misfit_22 : decode cX10_misfit 22 = .ok (.aload_n 0, 1) := dk_42 dg_cX10_misfit_302.2.2.1
theorem dX10_misfit_23 : decode cX10_misfit 23 = .ok (.getfield 37, 3) := dk_180 dg_cX10_misfit_302.2.2.2.1
theorem dX10_misfit_26 : decode cX10_misfit 26 = .ok (.iload_n 1, 1) := dk_27 dg_cX10_misfit_302.2.2.2.2.1
theorem dX10_misfit_27 : decode cX10_misfit 27 = .ok (.iload_n 2, 1) := dk_28 dg_cX10_misfit_302.2.2.2.2.2.1
theorem dX10_misfit_28 : decode cX10_misfit 28 = .ok (.invokevirtual 147, 3) := dk_182 dg_cX10_misfit_302.2.2.2.2.2.2.1
theorem dX10_misfit_31 : decode cX10_misfit 31 = .ok (.goto 4, 3) := dk_167 dg_cX10_misfit_302.2.2.2.2.2.2.2
theorem dg_cX10_misfit_303 : ck1 cX10_misfit 34 2 = true ∧ ck1 cX10_misfit 35 172 = true := by decide +kernel
theorem dX10_misfit_34 : decode cX10_misfit 34 = .ok (.iconst (-1), 1) := dk_2 dg_cX10_misfit_303.1
theorem dX10_misfit_35 : decode cX10_misfit 35 = .ok (.ireturn, 1) := dk_172 dg_cX10_misfit_303.2
theorem dg_cX10_naked_304 : ck1 cX10_naked 0 3 = true ∧ ck1 cX10_naked 1 60 = true ∧ ck1 cX10_naked 2 3 = true ∧ ck1 cX10_naked 3 61 = true ∧ ck1 cX10_naked 4 28 = true ∧ ck1 cX10_naked 5 42 = true ∧ ck3 cX10_naked 6 180 28 = true ∧ ck3 cX10_naked 9 180 111 = true := by decide +kernel
theorem dX10_naked_0 : decode cX10_naked 0 = .ok (.iconst 0, 1) := dk_3 dg_cX10_naked_304.1
theorem dX10_naked_1 : decode cX10_naked 1 = .ok (.istore_n 1, 1) := dk_60 dg_cX10_naked_304.2.1
theorem dX10_naked_2 : decode cX10_naked 2 = .ok (.iconst 0, 1) := dk_3 dg_cX10_naked_304.2.2.1
theorem dX10_naked_3 : decode cX10_naked 3 = .ok (.istore_n 2, 1) := dk_61 dg_cX10_naked_304.2.2.2.1
theorem dX10_naked_4 : decode cX10_naked 4 = .ok (.iload_n 2, 1) := dk_28 dg_cX10_naked_304.2.2.2.2.1
theorem dX10_naked_5 : decode cX10_naked 5 = .ok (.aload_n 0, 1) := dk_42 dg_cX10_naked_304.2.2.2.2.2.1
theorem dX10_naked_6 : decode cX10_naked 6 = .ok (.getfield 28, 3) := dk_180 dg_cX10_naked_304.2.2.2.2.2.2.1
theorem dX10_naked_9 : decode cX10_naked 9 = .ok (.getfield 111, 3) := dk_180 dg_cX10_naked_304.2.2.2.2.2.2.2
theorem dg_cX10_naked_305 : ck3s cX10_naked 12 162 26 = true ∧ ck1 cX10_naked 15 42 = true ∧ ck3 cX10_naked 16 180 37 = true ∧ ck1 cX10_naked 19 28 = true ∧ ck3 cX10_naked 20 182 135 = true ∧ ck3s cX10_naked 23 154 9 = true ∧ ck1 cX10_naked 26 27 = true ∧ ck1 cX10_naked 27 4 = true := by decide +kernel
theorem dX10_naked_12 : decode cX10_naked 12 = .ok (.if_icmp .ge 26, 3) := dk_162 dg_cX10_naked_305.1
theorem dX10_naked_15 : decode cX10_naked 15 = .ok (.aload_n 0, 1) := dk_42 dg_cX10_naked_305.2.1
theorem dX10_naked_16 : decode cX10_naked 16 = .ok (.getfield 37, 3) := dk_180 dg_cX10_naked_305.2.2.1
theorem dX10_naked_19 : decode cX10_naked 19 = .ok (.iload_n 2, 1) := dk_28 dg_cX10_naked_305.2.2.2.1
theorem dX10_naked_20 : decode cX10_naked 20 = .ok (.invokevirtual 135, 3) := dk_182 dg_cX10_naked_305.2.2.2.2.1
theorem dX10_naked_23 : decode cX10_naked 23 = .ok (.ifCond .ne 9, 3) := dk_154 dg_cX10_naked_305.2.2.2.2.2.1
theorem dX10_naked_26 : decode cX10_naked 26 = .ok (.iload_n 1, 1) := dk_27 dg_cX10_naked_305.2.2.2.2.2.2.1
theorem dX10_naked_27 : decode cX10_naked 27 = .ok (.iconst 1, 1) := dk_4 dg_cX10_naked_305.2.2.2.2.2.2.2
theorem dg_cX10_naked_306 : ck1 cX10_naked 28 28 = true ∧ ck1 cX10_naked 29 120 = true ∧ ck1 cX10_naked 30 128 = true ∧ ck1 cX10_naked 31 60 = true ∧ ck3i cX10_naked 32 132 2 1 = true ∧ ck3s cX10_naked 35 167 (-31) = true ∧ ck1 cX10_naked 38 27 = true ∧ ck1 cX10_naked 39 172 = true := by decide +kernel
theorem dX10_naked_28 : decode cX10_naked 28 = .ok (.iload_n 2, 1) := dk_28 dg_cX10_naked_306.1
theorem dX10_naked_29 : decode cX10_naked 29 = .ok (.ishl, 1) := dk_120 dg_cX10_naked_306.2.1
theorem dX10_naked_30 : decode cX10_naked 30 = .ok (.ior, 1) := dk_128 dg_cX10_naked_306.2.2.1
theorem dX10_naked_31 : decode cX10_naked 31 = .ok (.istore_n 1, 1) := dk_60 dg_cX10_naked_306.2.2.2.1
theorem dX10_naked_32 : decode cX10_naked 32 = .ok (.iinc 2 1, 3) := dk_132 dg_cX10_naked_306.2.2.2.2.1
theorem dX10_naked_35 : decode cX10_naked 35 = .ok (.goto (-31), 3) := dk_167 dg_cX10_naked_306.2.2.2.2.2.1
theorem dX10_naked_38 : decode cX10_naked 38 = .ok (.iload_n 1, 1) := dk_27 dg_cX10_naked_306.2.2.2.2.2.2.1
theorem dX10_naked_39 : decode cX10_naked 39 = .ok (.ireturn, 1) := dk_172 dg_cX10_naked_306.2.2.2.2.2.2.2
theorem dg_cX10_odds_307 : ck1 cX10_odds 0 27 = true ∧ ck3s cX10_odds 1 155 17 = true ∧ ck1 cX10_odds 4 27 = true ∧ ck1 cX10_odds 5 7 = true ∧ ck3s cX10_odds 6 163 12 = true ∧ ck1 cX10_odds 9 28 = true ∧ ck3s cX10_odds 10 155 8 = true ∧ ck1 cX10_odds 13 28 = true := by decide +kernel
theorem dX10_odds_0 : decode cX10_odds 0 = .ok (.iload_n 1, 1) := dk_27 dg_cX10_odds_307.1
theorem dX10_odds_1 : decode cX10_odds 1 = .ok (.ifCond .lt 17, 3) := dk_155 dg_cX10_odds_307.2.1
theorem dX10_odds_4 : decode cX10_odds 4 = .ok (.iload_n 1, 1) := dk_27 dg_cX10_odds_307.2.2.1
theorem dX10_odds_5 : decode cX10_odds 5 = .ok (.iconst 4, 1) := dk_7 dg_cX10_odds_307.2.2.2.1
theorem dX10_odds_6 : decode cX10_odds 6 = .ok (.if_icmp .gt 12, 3) := dk_163 dg_cX10_odds_307.2.2.2.2.1
theorem dX10_odds_9 : decode cX10_odds 9 = .ok (.iload_n 2, 1) := dk_28 dg_cX10_odds_307.2.2.2.2.2.1
theorem dX10_odds_10 : decode cX10_odds 10 = .ok (.ifCond .lt 8, 3) := dk_155 dg_cX10_odds_307.2.2.2.2.2.2.1
theorem dX10_odds_13 : decode cX10_odds 13 = .ok (.iload_n 2, 1) := dk_28 dg_cX10_odds_307.2.2.2.2.2.2.2
theorem dg_cX10_odds_308 : ck1 cX10_odds 14 4 = true ∧ ck3s cX10_odds 15 164 5 = true ∧ ck1 cX10_odds 18 2 = true ∧ ck1 cX10_odds 19 172 = true ∧ ck1 cX10_odds 20 4 = true ∧ ck1 cX10_odds 21 62 = true ∧ ck1 cX10_odds 22 4 = true ∧ ck2 cX10_odds 23 54 4 = true := by decide +kernel
theorem dX10_odds_14 : decode cX10_odds 14 = .ok (.iconst 1, 1) := dk_4 dg_cX10_odds_308.1
theorem dX10_odds_15 : decode cX10_odds 15 = .ok (.if_icmp .le 5, 3) := dk_164 dg_cX10_odds_308.2.1
theorem dX10_odds_18 : decode cX10_odds 18 = .ok (.iconst (-1), 1) := dk_2 dg_cX10_odds_308.2.2.1
theorem dX10_odds_19 : decode cX10_odds 19 = .ok (.ireturn, 1) := dk_172 dg_cX10_odds_308.2.2.2.1
theorem dX10_odds_20 : decode cX10_odds 20 = .ok (.iconst 1, 1) := dk_4 dg_cX10_odds_308.2.2.2.2.1
theorem dX10_odds_21 : decode cX10_odds 21 = .ok (.istore_n 3, 1) := dk_62 dg_cX10_odds_308.2.2.2.2.2.1
theorem dX10_odds_22 : decode cX10_odds 22 = .ok (.iconst 1, 1) := dk_4 dg_cX10_odds_308.2.2.2.2.2.2.1
theorem dX10_odds_23 : decode cX10_odds 23 = .ok (.istore 4, 2) := dk_54 dg_cX10_odds_308.2.2.2.2.2.2.2
theorem dg_cX10_odds_309 : ck1 cX10_odds 25 3 = true ∧ ck2 cX10_odds 26 54 5 = true ∧ ck2 cX10_odds 28 21 5 = true ∧ ck1 cX10_odds 30 27 = true ∧ ck3s cX10_odds 31 162 29 = true ∧ ck1 cX10_odds 34 29 = true ∧ ck2s cX10_odds 35 16 100 = true ∧ ck1 cX10_odds 37 42 = true := by decide +kernel
theorem dX10_odds_25 : decode cX10_odds 25 = .ok (.iconst 0, 1) := dk_3 dg_cX10_odds_309.1
theorem dX10_odds_26 : decode cX10_odds 26 = .ok (.istore 5, 2) := dk_54 dg_cX10_odds_309.2.1
theorem dX10_odds_28 : decode cX10_odds 28 = .ok (.iload 5, 2) := dk_21 dg_cX10_odds_309.2.2.1
theorem dX10_odds_30 : decode cX10_odds 30 = .ok (.iload_n 1, 1) := dk_27 dg_cX10_odds_309.2.2.2.1
theorem dX10_odds_31 : decode cX10_odds 31 = .ok (.if_icmp .ge 29, 3) := dk_162 dg_cX10_odds_309.2.2.2.2.1
theorem dX10_odds_34 : decode cX10_odds 34 = .ok (.iload_n 3, 1) := dk_29 dg_cX10_odds_309.2.2.2.2.2.1
theorem dX10_odds_35 : decode cX10_odds 35 = .ok (.bipush 100, 2) := dk_16 dg_cX10_odds_309.2.2.2.2.2.2.1
theorem dX10_odds_37 : decode cX10_odds 37 = .ok (.aload_n 0, 1) := dk_42 dg_cX10_odds_309.2.2.2.2.2.2.2
theorem dg_cX10_odds_310 : ck3 cX10_odds 38 180 28 = true ∧ ck3 cX10_odds 41 180 154 = true ∧ ck1 cX10_odds 44 100 = true ∧ ck1 cX10_odds 45 104 = true ∧ ck1 cX10_odds 46 62 = true ∧ ck2 cX10_odds 47 21 4 = true ∧ ck2s cX10_odds 49 16 100 = true ∧ ck1 cX10_odds 51 104 = true := by decide +kernel
theorem dX10_odds_38 : decode cX10_odds 38 = .ok (.getfield 28, 3) := dk_180 dg_cX10_odds_310.1
theorem dX10_odds_41 : decode cX10_odds 41 = .ok (.getfield 154, 3) := dk_180 dg_cX10_odds_310.2.1
theorem dX10_odds_44 : decode cX10_odds 44 = .ok (.isub, 1) := dk_100 dg_cX10_odds_310.2.2.1
theorem dX10_odds_45 : decode cX10_odds 45 = .ok (.imul, 1) := dk_104 dg_cX10_odds_310.2.2.2.1
theorem dX10_odds_46 : decode cX10_odds 46 = .ok (.istore_n 3, 1) := dk_62 dg_cX10_odds_310.2.2.2.2.1
theorem dX10_odds_47 : decode cX10_odds 47 = .ok (.iload 4, 2) := dk_21 dg_cX10_odds_310.2.2.2.2.2.1
theorem dX10_odds_49 : decode cX10_odds 49 = .ok (.bipush 100, 2) := dk_16 dg_cX10_odds_310.2.2.2.2.2.2.1
theorem dX10_odds_51 : decode cX10_odds 51 = .ok (.imul, 1) := dk_104 dg_cX10_odds_310.2.2.2.2.2.2.2
theorem dg_cX10_odds_311 : ck2 cX10_odds 52 54 4 = true ∧ ck3i cX10_odds 54 132 5 1 = true ∧ ck3s cX10_odds 57 167 (-29) = true ∧ ck2 cX10_odds 60 21 4 = true ∧ ck1 cX10_odds 62 29 = true ∧ ck3 cX10_odds 63 184 282 = true := by decide +kernel
theorem dX10_odds_52 : decode cX10_odds 52 = .ok (.istore 4, 2) := dk_54 dg_cX10_odds_311.1
theorem dX10_odds_54 : decode cX10_odds 54 = .ok (.iinc 5 1, 3) := dk_132 dg_cX10_odds_311.2.1
theorem dX10_odds_57 : decode cX10_odds 57 = .ok (.goto (-29), 3) := dk_167 dg_cX10_odds_311.2.2.1
theorem dX10_odds_60 : decode cX10_odds 60 = .ok (.iload 4, 2) := dk_21 dg_cX10_odds_311.2.2.2.1
theorem dX10_odds_62 : decode cX10_odds 62 = .ok (.iload_n 3, 1) := dk_29 dg_cX10_odds_311.2.2.2.2.1
theorem dX10_odds_63 : decode cX10_odds 63 = .ok (.invokestatic 282, 3) := dk_184 dg_cX10_odds_311.2.2.2.2.2
def dS_cX10_odds_1 : List UInt8 := 1 :: 26 :: 54 :: 5 :: 21 :: 5 :: 4 :: 162 :: 0 :: 5 :: 2 :: 172 :: 28 :: 154 :: 0 :: 7 :: 29 :: 167 :: 0 :: 5 :: 21 :: 4 :: 21 :: 5 :: 108 :: 172 :: []
def dS_cX10_odds_0 : List UInt8 := 27 :: 155 :: 0 :: 17 :: 27 :: 7 :: 163 :: 0 :: 12 :: 28 :: 155 :: 0 :: 8 :: 28 :: 4 :: 164 :: 0 :: 5 :: 2 :: 172 :: 4 :: 62 :: 4 :: 54 :: 4 :: 3 :: 54 :: 5 :: 21 :: 5 :: 27 :: 162 :: 0 :: 29 :: 29 :: 16 :: 100 :: 42 :: 180 :: 0 :: 28 :: 180 :: 0 :: 154 :: 100 :: 104 :: 62 :: 21 :: 4 :: 16 :: 100 :: 104 :: 54 :: 4 :: 132 :: 5 :: 1 :: 167 :: 255 :: 227 :: 21 :: 4 :: 29 :: 184 :: dS_cX10_odds_1
theorem dT_cX10_odds_0 : cX10_odds.data.toList.drop 0 = dS_cX10_odds_0 := by decide +kernel
theorem dT_cX10_odds_1 : cX10_odds.data.toList.drop 64 = dS_cX10_odds_1 := ck_nx dT_cX10_odds_0 (by decide +kernel) rfl
theorem dg_cX10_odds_312 : ck2L dS_cX10_odds_1 2 54 5 = true ∧ ck2L dS_cX10_odds_1 4 21 5 = true ∧ ck1L dS_cX10_odds_1 6 4 = true ∧ ck3sL dS_cX10_odds_1 7 162 5 = true ∧ ck1L dS_cX10_odds_1 10 2 = true ∧ ck1L dS_cX10_odds_1 11 172 = true ∧ ck1L dS_cX10_odds_1 12 28 = true ∧ ck3sL dS_cX10_odds_1 13 154 7 = true := by decide +kernel
theorem dX10_odds_66 : decode cX10_odds 66 = .ok (.istore 5, 2) := dk_54 (ck2_s (r := 2) dT_cX10_odds_1 rfl dg_cX10_odds_312.1)
theorem dX10_odds_68 : decode cX10_odds 68 = .ok (.iload 5, 2) := dk_21 (ck2_s (r := 4) dT_cX10_odds_1 rfl dg_cX10_odds_312.2.1)
theorem dX10_odds_70 : decode cX10_odds 70 = .ok (.iconst 1, 1) := dk_4 (ck1_s (r := 6) dT_cX10_odds_1 rfl dg_cX10_odds_312.2.2.1)
theorem dX10_odds_71 : decode cX10_odds 71 = .ok (.if_icmp .ge 5, 3) := dk_162 (ck3s_s (r := 7) dT_cX10_odds_1 rfl dg_cX10_odds_312.2.2.2.1)
theorem dX10_odds_74 : decode cX10_odds 74 = .ok (.iconst (-1), 1) := dk_2 (ck1_s (r := 10) dT_cX10_odds_1 rfl dg_cX10_odds_312.2.2.2.2.1)
theorem dX10_odds_75 : decode cX10_odds 75 = .ok (.ireturn, 1) := dk_172 (ck1_s (r := 11) dT_cX10_odds_1 rfl dg_cX10_odds_312.2.2.2.2.2.1)
theorem dX10_odds_76 : decode cX10_odds 76 = .ok (.iload_n 2, 1) := dk_28 (ck1_s (r := 12) dT_cX10_odds_1 rfl dg_cX10_odds_312.2.2.2.2.2.2.1)
theorem dX10_odds_77 : decode cX10_odds 77 = .ok (.ifCond .ne 7, 3) := dk_154 (ck3s_s (r := 13) dT_cX10_odds_1 rfl dg_cX10_odds_312.2.2.2.2.2.2.2)
theorem dg_cX10_odds_313 : ck1L dS_cX10_odds_1 16 29 = true ∧ ck3sL dS_cX10_odds_1 17 167 5 = true ∧ ck2L dS_cX10_odds_1 20 21 4 = true ∧ ck2L dS_cX10_odds_1 22 21 5 = true ∧ ck1L dS_cX10_odds_1 24 108 = true ∧ ck1L dS_cX10_odds_1 25 172 = true := by decide +kernel
theorem dX10_odds_80 : decode cX10_odds 80 = .ok (.iload_n 3, 1) := dk_29 (ck1_s (r := 16) dT_cX10_odds_1 rfl dg_cX10_odds_313.1)
theorem dX10_odds_81 : decode cX10_odds 81 = .ok (.goto 5, 3) := dk_167 (ck3s_s (r := 17) dT_cX10_odds_1 rfl dg_cX10_odds_313.2.1)
theorem dX10_odds_84 : decode cX10_odds 84 = .ok (.iload 4, 2) := dk_21 (ck2_s (r := 20) dT_cX10_odds_1 rfl dg_cX10_odds_313.2.2.1)
theorem dX10_odds_86 : decode cX10_odds 86 = .ok (.iload 5, 2) := dk_21 (ck2_s (r := 22) dT_cX10_odds_1 rfl dg_cX10_odds_313.2.2.2.1)
theorem dX10_odds_88 : decode cX10_odds 88 = .ok (.idiv, 1) := dk_108 (ck1_s (r := 24) dT_cX10_odds_1 rfl dg_cX10_odds_313.2.2.2.2.1)
theorem dX10_odds_89 : decode cX10_odds 89 = .ok (.ireturn, 1) := dk_172 (ck1_s (r := 25) dT_cX10_odds_1 rfl dg_cX10_odds_313.2.2.2.2.2)
theorem dg_cX10_out_314 : ck1 cX10_out 0 42 = true ∧ ck3 cX10_out 1 180 28 = true ∧ ck1 cX10_out 4 27 = true ∧ ck3 cX10_out 5 182 120 = true ∧ ck3s cX10_out 8 153 14 = true ∧ ck1 cX10_out 11 42 = true ∧ ck3 cX10_out 12 180 55 = true ∧ ck1 cX10_out 15 27 = true := by decide +kernel
theorem dX10_out_0 : decode cX10_out 0 = .ok (.aload_n 0, 1) := dk_42 dg_cX10_out_314.1
theorem dX10_out_1 : decode cX10_out 1 = .ok (.getfield 28, 3) := dk_180 dg_cX10_out_314.2.1
theorem dX10_out_4 : decode cX10_out 4 = .ok (.iload_n 1, 1) := dk_27 dg_cX10_out_314.2.2.1
theorem dX10_out_5 : decode cX10_out 5 = .ok (.invokevirtual 120, 3) := dk_182 dg_cX10_out_314.2.2.2.1
theorem dX10_out_8 : decode cX10_out 8 = .ok (.ifCond .eq 14, 3) := dk_153 dg_cX10_out_314.2.2.2.2.1
theorem dX10_out_11 : decode cX10_out 11 = .ok (.aload_n 0, 1) := dk_42 dg_cX10_out_314.2.2.2.2.2.1
theorem dX10_out_12 : decode cX10_out 12 = .ok (.getfield 55, 3) := dk_180 dg_cX10_out_314.2.2.2.2.2.2.1
theorem dX10_out_15 : decode cX10_out 15 = .ok (.iload_n 1, 1) := dk_27 dg_cX10_out_314.2.2.2.2.2.2.2
theorem dg_cX10_out_315 : ck3 cX10_out 16 182 184 = true ∧ ck3s cX10_out 19 167 4 = true ∧ ck1 cX10_out 22 2 = true ∧ ck1 cX10_out 23 172 = true := by decide +kernel
theorem dX10_out_16 : decode cX10_out 16 = .ok (.invokevirtual 184, 3) := dk_182 dg_cX10_out_315.1
theorem dX10_out_19 : decode cX10_out 19 = .ok (.goto 4, 3) := dk_167 dg_cX10_out_315.2.1
theorem dX10_out_22 : decode cX10_out 22 = .ok (.iconst (-1), 1) := dk_2 dg_cX10_out_315.2.2.1
theorem dX10_out_23 : decode cX10_out 23 = .ok (.ireturn, 1) := dk_172 dg_cX10_out_315.2.2.2
theorem dg_cX10_popular_316 : ck1 cX10_popular 0 42 = true ∧ ck3 cX10_popular 1 180 28 = true ∧ ck1 cX10_popular 4 27 = true ∧ ck3 cX10_popular 5 182 138 = true ∧ ck3s cX10_popular 8 153 14 = true ∧ ck1 cX10_popular 11 42 = true ∧ ck3 cX10_popular 12 180 37 = true ∧ ck1 cX10_popular 15 27 = true := by decide +kernel
theorem dX10_popular_0 : decode cX10_popular 0 = .ok (.aload_n 0, 1) := dk_42 dg_cX10_popular_316.1
theorem dX10_popular_1 : decode cX10_popular 1 = .ok (.getfield 28, 3) := dk_180 dg_cX10_popular_316.2.1
theorem dX10_popular_4 : decode cX10_popular 4 = .ok (.iload_n 1, 1) := dk_27 dg_cX10_popular_316.2.2.1
theorem dX10_popular_5 : decode cX10_popular 5 = .ok (.invokevirtual 138, 3) := dk_182 dg_cX10_popular_316.2.2.2.1
theorem dX10_popular_8 : decode cX10_popular 8 = .ok (.ifCond .eq 14, 3) := dk_153 dg_cX10_popular_316.2.2.2.2.1
theorem dX10_popular_11 : decode cX10_popular 11 = .ok (.aload_n 0, 1) := dk_42 dg_cX10_popular_316.2.2.2.2.2.1
theorem dX10_popular_12 : decode cX10_popular 12 = .ok (.getfield 37, 3) := dk_180 dg_cX10_popular_316.2.2.2.2.2.2.1
theorem dX10_popular_15 : decode cX10_popular 15 = .ok (.iload_n 1, 1) := dk_27 dg_cX10_popular_316.2.2.2.2.2.2.2
theorem dg_cX10_popular_317 : ck3 cX10_popular 16 182 264 = true ∧ ck3s cX10_popular 19 167 4 = true ∧ ck1 cX10_popular 22 2 = true ∧ ck1 cX10_popular 23 172 = true := by decide +kernel
theorem dX10_popular_16 : decode cX10_popular 16 = .ok (.invokevirtual 264, 3) := dk_182 dg_cX10_popular_317.1
theorem dX10_popular_19 : decode cX10_popular 19 = .ok (.goto 4, 3) := dk_167 dg_cX10_popular_317.2.1
theorem dX10_popular_22 : decode cX10_popular 22 = .ok (.iconst (-1), 1) := dk_2 dg_cX10_popular_317.2.2.1
theorem dX10_popular_23 : decode cX10_popular 23 = .ok (.ireturn, 1) := dk_172 dg_cX10_popular_317.2.2.2
theorem dg_cX10_rags_318 : ck1 cX10_rags 0 3 = true ∧ ck1 cX10_rags 1 60 = true ∧ ck1 cX10_rags 2 3 = true ∧ ck1 cX10_rags 3 61 = true ∧ ck1 cX10_rags 4 28 = true ∧ ck1 cX10_rags 5 42 = true ∧ ck3 cX10_rags 6 180 28 = true ∧ ck3 cX10_rags 9 180 261 = true := by decide +kernel
theorem dX10_rags_0 : decode cX10_rags 0 = .ok (.iconst 0, 1) := dk_3 dg_cX10_rags_318.1
theorem dX10_rags_1 : decode cX10_rags 1 = .ok (.istore_n 1, 1) := dk_60 dg_cX10_rags_318.2.1
theorem dX10_rags_2 : decode cX10_rags 2 = .ok (.iconst 0, 1) := dk_3 dg_cX10_rags_318.2.2.1
theorem dX10_rags_3 : decode cX10_rags 3 = .ok (.istore_n 2, 1) := dk_61 dg_cX10_rags_318.2.2.2.1
theorem dX10_rags_4 : decode cX10_rags 4 = .ok (.iload_n 2, 1) := dk_28 dg_cX10_rags_318.2.2.2.2.1
theorem dX10_rags_5 : decode cX10_rags 5 = .ok (.aload_n 0, 1) := dk_42 dg_cX10_rags_318.2.2.2.2.2.1
theorem dX10_rags_6 : decode cX10_rags 6 = .ok (.getfield 28, 3) := dk_180 dg_cX10_rags_318.2.2.2.2.2.2.1
theorem dX10_rags_9 : decode cX10_rags 9 = .ok (.getfield 261, 3) := dk_180 dg_cX10_rags_318.2.2.2.2.2.2.2
theorem dg_cX10_rags_319 : ck3s cX10_rags 12 162 26 = true ∧ ck1 cX10_rags 15 42 = true ∧ ck3 cX10_rags 16 180 37 = true ∧ ck1 cX10_rags 19 28 = true ∧ ck3 cX10_rags 20 182 264 = true ∧ ck3s cX10_rags 23 154 9 = true ∧ ck1 cX10_rags 26 27 = true ∧ ck1 cX10_rags 27 4 = true := by decide +kernel
theorem dX10_rags_12 : decode cX10_rags 12 = .ok (.if_icmp .ge 26, 3) := dk_162 dg_cX10_rags_319.1
theorem dX10_rags_15 : decode cX10_rags 15 = .ok (.aload_n 0, 1) := dk_42 dg_cX10_rags_319.2.1
theorem dX10_rags_16 : decode cX10_rags 16 = .ok (.getfield 37, 3) := dk_180 dg_cX10_rags_319.2.2.1
theorem dX10_rags_19 : decode cX10_rags 19 = .ok (.iload_n 2, 1) := dk_28 dg_cX10_rags_319.2.2.2.1
theorem dX10_rags_20 : decode cX10_rags 20 = .ok (.invokevirtual 264, 3) := dk_182 dg_cX10_rags_319.2.2.2.2.1
theorem dX10_rags_23 : decode cX10_rags 23 = .ok (.ifCond .ne 9, 3) := dk_154 dg_cX10_rags_319.2.2.2.2.2.1
theorem dX10_rags_26 : decode cX10_rags 26 = .ok (.iload_n 1, 1) := dk_27 dg_cX10_rags_319.2.2.2.2.2.2.1
theorem dX10_rags_27 : decode cX10_rags 27 = .ok (.iconst 1, 1) := dk_4 dg_cX10_rags_319.2.2.2.2.2.2.2
theorem dg_cX10_rags_320 : ck1 cX10_rags 28 28 = true ∧ ck1 cX10_rags 29 120 = true ∧ ck1 cX10_rags 30 128 = true ∧ ck1 cX10_rags 31 60 = true ∧ ck3i cX10_rags 32 132 2 1 = true ∧ ck3s cX10_rags 35 167 (-31) = true ∧ ck1 cX10_rags 38 27 = true ∧ ck1 cX10_rags 39 172 = true := by decide +kernel
theorem dX10_rags_28 : decode cX10_rags 28 = .ok (.iload_n 2, 1) := dk_28 dg_cX10_rags_320.1
theorem dX10_rags_29 : decode cX10_rags 29 = .ok (.ishl, 1) := dk_120 dg_cX10_rags_320.2.1
theorem dX10_rags_30 : decode cX10_rags 30 = .ok (.ior, 1) := dk_128 dg_cX10_rags_320.2.2.1
theorem dX10_rags_31 : decode cX10_rags 31 = .ok (.istore_n 1, 1) := dk_60 dg_cX10_rags_320.2.2.2.1
theorem dX10_rags_32 : decode cX10_rags 32 = .ok (.iinc 2 1, 3) := dk_132 dg_cX10_rags_320.2.2.2.2.1
theorem dX10_rags_35 : decode cX10_rags 35 = .ok (.goto (-31), 3) := dk_167 dg_cX10_rags_320.2.2.2.2.2.1
theorem dX10_rags_38 : decode cX10_rags 38 = .ok (.iload_n 1, 1) := dk_27 dg_cX10_rags_320.2.2.2.2.2.2.1
theorem dX10_rags_39 : decode cX10_rags 39 = .ok (.ireturn, 1) := dk_172 dg_cX10_rags_320.2.2.2.2.2.2.2
theorem dg_cX10_reach_321 : ck1 cX10_reach 0 42 = true ∧ ck3 cX10_reach 1 180 69 = true ∧ ck3 cX10_reach 4 182 107 = true ∧ ck1 cX10_reach 7 27 = true ∧ ck1 cX10_reach 8 28 = true ∧ ck3s cX10_reach 9 159 25 = true ∧ ck1 cX10_reach 12 42 = true ∧ ck3 cX10_reach 13 180 28 = true := by decide +kernel
theorem dX10_reach_0 : decode cX10_reach 0 = .ok (.aload_n 0, 1) := dk_42 dg_cX10_reach_321.1
theorem dX10_reach_1 : decode cX10_reach 1 = .ok (.getfield 69, 3) := dk_180 dg_cX10_reach_321.2.1
theorem dX10_reach_4 : decode cX10_reach 4 = .ok (.invokevirtual 107, 3) := dk_182 dg_cX10_reach_321.2.2.1
theorem dX10_reach_7 : decode cX10_reach 7 = .ok (.iload_n 1, 1) := dk_27 dg_cX10_reach_321.2.2.2.1
theorem dX10_reach_8 : decode cX10_reach 8 = .ok (.iload_n 2, 1) := dk_28 dg_cX10_reach_321.2.2.2.2.1
theorem dX10_reach_9 : decode cX10_reach 9 = .ok (.if_icmp .eq 25, 3) := dk_159 dg_cX10_reach_321.2.2.2.2.2.1
theorem dX10_reach_12 : decode cX10_reach 12 = .ok (.aload_n 0, 1) := dk_42 dg_cX10_reach_321.2.2.2.2.2.2.1
theorem dX10_reach_13 : decode cX10_reach 13 = .ok (.getfield 28, 3) := dk_180 dg_cX10_reach_321.2.2.2.2.2.2.2
theorem dg_cX10_reach_322 : ck1 cX10_reach 16 27 = true ∧ ck3 cX10_reach 17 182 120 = true ∧ ck3s cX10_reach 20 153 14 = true ∧ ck1 cX10_reach 23 42 = true ∧ ck3 cX10_reach 24 180 28 = true ∧ ck1 cX10_reach 27 28 = true ∧ ck3 cX10_reach 28 182 120 = true ∧ ck3s cX10_reach 31 154 5 = true := by decide +kernel
theorem dX10_reach_16 : decode cX10_reach 16 = .ok (.iload_n 1, 1) := dk_27 dg_cX10_reach_322.1
theorem dX10_reach_17 : decode cX10_reach 17 = .ok (.invokevirtual 120, 3) := dk_182 dg_cX10_reach_322.2.1
theorem dX10_reach_20 : decode cX10_reach 20 = .ok (.ifCond .eq 14, 3) := dk_153 dg_cX10_reach_322.2.2.1
theorem dX10_reach_23 : decode cX10_reach 23 = .ok (.aload_n 0, 1) := dk_42 dg_cX10_reach_322.2.2.2.1
theorem dX10_reach_24 : decode cX10_reach 24 = .ok (.getfield 28, 3) := dk_180 dg_cX10_reach_322.2.2.2.2.1
theorem dX10_reach_27 : decode cX10_reach 27 = .ok (.iload_n 2, 1) := dk_28 dg_cX10_reach_322.2.2.2.2.2.1
theorem dX10_reach_28 : decode cX10_reach 28 = .ok (.invokevirtual 120, 3) := dk_182 dg_cX10_reach_322.2.2.2.2.2.2.1
theorem dX10_reach_31 : decode cX10_reach 31 = .ok (.ifCond .ne 5, 3) := dk_154 dg_cX10_reach_322.2.2.2.2.2.2.2
theorem dg_cX10_reach_323 : ck1 cX10_reach 34 2 = true ∧ ck1 cX10_reach 35 172 = true ∧ ck1 cX10_reach 36 42 = true ∧ ck3 cX10_reach 37 180 69 = true ∧ ck1 cX10_reach 40 27 = true ∧ ck1 cX10_reach 41 28 = true ∧ ck3 cX10_reach 42 182 255 = true ∧ ck1 cX10_reach 45 172 = true := by decide +kernel
theorem dX10_reach_34 : decode cX10_reach 34 = .ok (.iconst (-1), 1) := dk_2 dg_cX10_reach_323.1
theorem dX10_reach_35 : decode cX10_reach 35 = .ok (.ireturn, 1) := dk_172 dg_cX10_reach_323.2.1
theorem dX10_reach_36 : decode cX10_reach 36 = .ok (.aload_n 0, 1) := dk_42 dg_cX10_reach_323.2.2.1
theorem dX10_reach_37 : decode cX10_reach 37 = .ok (.getfield 69, 3) := dk_180 dg_cX10_reach_323.2.2.2.1
theorem dX10_reach_40 : decode cX10_reach 40 = .ok (.iload_n 1, 1) := dk_27 dg_cX10_reach_323.2.2.2.2.1
theorem dX10_reach_41 : decode cX10_reach 41 = .ok (.iload_n 2, 1) := dk_28 dg_cX10_reach_323.2.2.2.2.2.1
theorem dX10_reach_42 : decode cX10_reach 42 = .ok (.invokevirtual 255, 3) := dk_182 dg_cX10_reach_323.2.2.2.2.2.2.1
theorem dX10_reach_45 : decode cX10_reach 45 = .ok (.ireturn, 1) := dk_172 dg_cX10_reach_323.2.2.2.2.2.2.2
theorem dg_cX10_redo_324 : ck1 cX10_redo 0 42 = true ∧ ck3 cX10_redo 1 180 46 = true ∧ ck3 cX10_redo 4 182 177 = true ∧ ck1 cX10_redo 7 172 = true := by decide +kernel
theorem dX10_redo_0 : decode cX10_redo 0 = .ok (.aload_n 0, 1) := dk_42 dg_cX10_redo_324.1
theorem dX10_redo_1 : decode cX10_redo 1 = .ok (.getfield 46, 3) := dk_180 dg_cX10_redo_324.2.1
theorem dX10_redo_4 : decode cX10_redo 4 = .ok (.invokevirtual 177, 3) := dk_182 dg_cX10_redo_324.2.2.1
theorem dX10_redo_7 : decode cX10_redo 7 = .ok (.ireturn, 1) := dk_172 dg_cX10_redo_324.2.2.2
theorem dg_cX10_regiment_325 : ck1 cX10_regiment 0 42 = true ∧ ck3 cX10_regiment 1 180 21 = true ∧ ck3 cX10_regiment 4 182 92 = true ∧ ck1 cX10_regiment 7 60 = true ∧ ck1 cX10_regiment 8 42 = true ∧ ck3 cX10_regiment 9 180 10 = true ∧ ck1 cX10_regiment 12 3 = true ∧ ck3 cX10_regiment 13 181 88 = true := by decide +kernel
theorem dX10_regiment_0 : decode cX10_regiment 0 = .ok (.aload_n 0, 1) := dk_42 dg_cX10_regiment_325.1
theorem dX10_regiment_1 : decode cX10_regiment 1 = .ok (.getfield 21, 3) := dk_180 dg_cX10_regiment_325.2.1
theorem dX10_regiment_4 : decode cX10_regiment 4 = .ok (.invokevirtual 92, 3) := dk_182 dg_cX10_regiment_325.2.2.1
theorem dX10_regiment_7 : decode cX10_regiment 7 = .ok (.istore_n 1, 1) := dk_60 dg_cX10_regiment_325.2.2.2.1
theorem dX10_regiment_8 : decode cX10_regiment 8 = .ok (.aload_n 0, 1) := dk_42 dg_cX10_regiment_325.2.2.2.2.1
theorem dX10_regiment_9 : decode cX10_regiment 9 = .ok (.getfield 10, 3) := dk_180 dg_cX10_regiment_325.2.2.2.2.2.1
theorem dX10_regiment_12 : decode cX10_regiment 12 = .ok (.iconst 0, 1) := dk_3 dg_cX10_regiment_325.2.2.2.2.2.2.1
theorem dX10_regiment_13 : decode cX10_regiment 13 = .ok (.putfield 88, 3) := dk_181 dg_cX10_regiment_325.2.2.2.2.2.2.2
theorem dg_cX10_regiment_326 : ck1 cX10_regiment 16 27 = true ∧ ck3s cX10_regiment 17 154 5 = true ∧ ck1 cX10_regiment 20 2 = true ∧ ck1 cX10_regiment 21 172 = true ∧ ck1 cX10_regiment 22 42 = true ∧ ck3 cX10_regiment 23 180 28 = true ∧ ck1 cX10_regiment 26 42 = true ∧ ck3 cX10_regiment 27 180 21 = true := by decide +kernel
theorem dX10_regiment_16 : decode cX10_regiment 16 = .ok (.iload_n 1, 1) := dk_27 dg_cX10_regiment_326.1
theorem dX10_regiment_17 : decode cX10_regiment 17 = .ok (.ifCond .ne 5, 3) := dk_154 dg_cX10_regiment_326.2.1
theorem dX10_regiment_20 : decode cX10_regiment 20 = .ok (.iconst (-1), 1) := dk_2 dg_cX10_regiment_326.2.2.1
theorem dX10_regiment_21 : decode cX10_regiment 21 = .ok (.ireturn, 1) := dk_172 dg_cX10_regiment_326.2.2.2.1
theorem dX10_regiment_22 : decode cX10_regiment 22 = .ok (.aload_n 0, 1) := dk_42 dg_cX10_regiment_326.2.2.2.2.1
theorem dX10_regiment_23 : decode cX10_regiment 23 = .ok (.getfield 28, 3) := dk_180 dg_cX10_regiment_326.2.2.2.2.2.1
theorem dX10_regiment_26 : decode cX10_regiment 26 = .ok (.aload_n 0, 1) := dk_42 dg_cX10_regiment_326.2.2.2.2.2.2.1
theorem dX10_regiment_27 : decode cX10_regiment 27 = .ok (.getfield 21, 3) := dk_180 dg_cX10_regiment_326.2.2.2.2.2.2.2
theorem dg_cX10_regiment_327 : ck3 cX10_regiment 30 180 95 = true ∧ ck3 cX10_regiment 33 182 98 = true ∧ ck1 cX10_regiment 36 42 = true ∧ ck3 cX10_regiment 37 180 37 = true ∧ ck3 cX10_regiment 40 182 101 = true ∧ ck1 cX10_regiment 43 42 = true ∧ ck3 cX10_regiment 44 180 46 = true ∧ ck3 cX10_regiment 47 182 104 = true := by decide +kernel
theorem dX10_regiment_30 : decode cX10_regiment 30 = .ok (.getfield 95, 3) := dk_180 dg_cX10_regiment_327.1
theorem dX10_regiment_33 : decode cX10_regiment 33 = .ok (.invokevirtual 98, 3) := dk_182 dg_cX10_regiment_327.2.1
theorem dX10_regiment_36 : decode cX10_regiment 36 = .ok (.aload_n 0, 1) := dk_42 dg_cX10_regiment_327.2.2.1
theorem dX10_regiment_37 : decode cX10_regiment 37 = .ok (.getfield 37, 3) := dk_180 dg_cX10_regiment_327.2.2.2.1
theorem dX10_regiment_40 : decode cX10_regiment 40 = .ok (.invokevirtual 101, 3) := dk_182 dg_cX10_regiment_327.2.2.2.2.1
theorem dX10_regiment_43 : decode cX10_regiment 43 = .ok (.aload_n 0, 1) := dk_42 dg_cX10_regiment_327.2.2.2.2.2.1
theorem dX10_regiment_44 : decode cX10_regiment 44 = .ok (.getfield 46, 3) := dk_180 dg_cX10_regiment_327.2.2.2.2.2.2.1
theorem dX10_regiment_47 : decode cX10_regiment 47 = .ok (.invokevirtual 104, 3) := dk_182 dg_cX10_regiment_327.2.2.2.2.2.2.2
theorem dg_cX10_regiment_328 : ck1 cX10_regiment 50 42 = true ∧ ck3 cX10_regiment 51 180 69 = true ∧ ck3 cX10_regiment 54 182 107 = true ∧ ck1 cX10_regiment 57 42 = true ∧ ck3 cX10_regiment 58 180 76 = true ∧ ck3 cX10_regiment 61 182 110 = true := by decide +kernel
theorem dX10_regiment_50 : decode cX10_regiment 50 = .ok (.aload_n 0, 1) := dk_42 dg_cX10_regiment_328.1
theorem dX10_regiment_51 : decode cX10_regiment 51 = .ok (.getfield 69, 3) := dk_180 dg_cX10_regiment_328.2.1
theorem dX10_regiment_54 : decode cX10_regiment 54 = .ok (.invokevirtual 107, 3) := dk_182 dg_cX10_regiment_328.2.2.1
theorem dX10_regiment_57 : decode cX10_regiment 57 = .ok (.aload_n 0, 1) := dk_42 dg_cX10_regiment_328.2.2.2.1
theorem dX10_regiment_58 : decode cX10_regiment 58 = .ok (.getfield 76, 3) := dk_180 dg_cX10_regiment_328.2.2.2.2.1
theorem dX10_regiment_61 : decode cX10_regiment 61 = .ok (.invokevirtual 110, 3) := dk_182 dg_cX10_regiment_328.2.2.2.2.2
def dS_cX10_regiment_1 : List UInt8 := 42 :: 180 :: 0 :: 28 :: 180 :: 0 :: 111 :: 172 :: []
def dS_cX10_regiment_0 : List UInt8 := 42 :: 180 :: 0 :: 21 :: 182 :: 0 :: 92 :: 60 :: 42 :: 180 :: 0 :: 10 :: 3 :: 181 :: 0 :: 88 :: 27 :: 154 :: 0 :: 5 :: 2 :: 172 :: 42 :: 180 :: 0 :: 28 :: 42 :: 180 :: 0 :: 21 :: 180 :: 0 :: 95 :: 182 :: 0 :: 98 :: 42 :: 180 :: 0 :: 37 :: 182 :: 0 :: 101 :: 42 :: 180 :: 0 :: 46 :: 182 :: 0 :: 104 :: 42 :: 180 :: 0 :: 69 :: 182 :: 0 :: 107 :: 42 :: 180 :: 0 :: 76 :: 182 :: 0 :: 110 :: dS_cX10_regiment_1
theorem dT_cX10_regiment_0 : cX10_regiment.data.toList.drop 0 = dS_cX10_regiment_0 := by decide +kernel
theorem dT_cX10_regiment_1 : cX10_regiment.data.toList.drop 64 = dS_cX10_regiment_1 := ck_nx dT_cX10_regiment_0 (by decide +kernel) rfl
theorem dg_cX10_regiment_329 : ck1L dS_cX10_regiment_1 0 42 = true ∧ ck3L dS_cX10_regiment_1 1 180 28 = true ∧ ck3L dS_cX10_regiment_1 4 180 111 = true ∧ ck1L dS_cX10_regiment_1 7 172 = true := by decide +kernel
theorem dX10_regiment_64 : decode cX10_regiment 64 = .ok (.aload_n 0, 1) := dk_42 (ck1_s (r := 0) dT_cX10_regiment_1 rfl dg_cX10_regiment_329.1)
theorem dX10_regiment_65 : decode cX10_regiment 65 = .ok (.getfield 28, 3) := dk_180 (ck3_s (r := 1) dT_cX10_regiment_1 rfl dg_cX10_regiment_329.2.1)
theorem dX10_regiment_68 : decode cX10_regiment 68 = .ok (.getfield 111, 3) := dk_180 (ck3_s (r := 4) dT_cX10_regiment_1 rfl dg_cX10_regiment_329.2.2.1)
theorem dX10_regiment_71 : decode cX10_regiment 71 = .ok (.ireturn, 1) := dk_172 (ck1_s (r := 7) dT_cX10_regiment_1 rfl dg_cX10_regiment_329.2.2.2)
theorem dg_cX10_rota_330 : ck1 cX10_rota 0 42 = true ∧ ck3 cX10_rota 1 180 28 = true ∧ ck3 cX10_rota 4 180 111 = true ∧ ck3s cX10_rota 7 153 12 = true ∧ ck1 cX10_rota 10 27 = true ∧ ck3s cX10_rota 11 155 8 = true ∧ ck1 cX10_rota 14 27 = true ∧ ck1 cX10_rota 15 4 = true := by decide +kernel
theorem dX10_rota_0 : decode cX10_rota 0 = .ok (.aload_n 0, 1) := dk_42 dg_cX10_rota_330.1
theorem dX10_rota_1 : decode cX10_rota 1 = .ok (.getfield 28, 3) := dk_180 dg_cX10_rota_330.2.1
theorem dX10_rota_4 : decode cX10_rota 4 = .ok (.getfield 111, 3) := dk_180 dg_cX10_rota_330.2.2.1
theorem dX10_rota_7 : decode cX10_rota 7 = .ok (.ifCond .eq 12, 3) := dk_153 dg_cX10_rota_330.2.2.2.1
theorem dX10_rota_10 : decode cX10_rota 10 = .ok (.iload_n 1, 1) := dk_27 dg_cX10_rota_330.2.2.2.2.1
theorem dX10_rota_11 : decode cX10_rota 11 = .ok (.ifCond .lt 8, 3) := dk_155 dg_cX10_rota_330.2.2.2.2.2.1
theorem dX10_rota_14 : decode cX10_rota 14 = .ok (.iload_n 1, 1) := dk_27 dg_cX10_rota_330.2.2.2.2.2.2.1
theorem dX10_rota_15 : decode cX10_rota 15 = .ok (.iconst 1, 1) := dk_4 dg_cX10_rota_330.2.2.2.2.2.2.2
theorem dg_cX10_rota_331 : ck3s cX10_rota 16 164 5 = true ∧ ck1 cX10_rota 19 2 = true ∧ ck1 cX10_rota 20 172 = true ∧ ck1 cX10_rota 21 42 = true ∧ ck3 cX10_rota 22 180 55 = true ∧ ck3 cX10_rota 25 182 214 = true ∧ ck1 cX10_rota 28 27 = true ∧ ck3s cX10_rota 29 154 13 = true := by decide +kernel
theorem dX10_rota_16 : decode cX10_rota 16 = .ok (.if_icmp .le 5, 3) := dk_164 dg_cX10_rota_331.1
theorem dX10_rota_19 : decode cX10_rota 19 = .ok (.iconst (-1), 1) := dk_2 dg_cX10_rota_331.2.1
theorem dX10_rota_20 : decode cX10_rota 20 = .ok (.ireturn, 1) := dk_172 dg_cX10_rota_331.2.2.1
theorem dX10_rota_21 : decode cX10_rota 21 = .ok (.aload_n 0, 1) := dk_42 dg_cX10_rota_331.2.2.2.1
theorem dX10_rota_22 : decode cX10_rota 22 = .ok (.getfield 55, 3) := dk_180 dg_cX10_rota_331.2.2.2.2.1
theorem dX10_rota_25 : decode cX10_rota 25 = .ok (.invokevirtual 214, 3) := dk_182 dg_cX10_rota_331.2.2.2.2.2.1
theorem dX10_rota_28 : decode cX10_rota 28 = .ok (.iload_n 1, 1) := dk_27 dg_cX10_rota_331.2.2.2.2.2.2.1
theorem dX10_rota_29 : decode cX10_rota 29 = .ok (.ifCond .ne 13, 3) := dk_154 dg_cX10_rota_331.2.2.2.2.2.2.2
theorem dg_cX10_rota_332 : ck1 cX10_rota 32 42 = true ∧ ck3 cX10_rota 33 180 55 = true ∧ ck3 cX10_rota 36 180 217 = true ∧ ck3s cX10_rota 39 167 10 = true ∧ ck1 cX10_rota 42 42 = true ∧ ck3 cX10_rota 43 180 55 = true ∧ ck3 cX10_rota 46 180 220 = true ∧ ck1 cX10_rota 49 172 = true := by decide +kernel
theorem dX10_rota_32 : decode cX10_rota 32 = .ok (.aload_n 0, 1) := dk_42 dg_cX10_rota_332.1
theorem dX10_rota_33 : decode cX10_rota 33 = .ok (.getfield 55, 3) := dk_180 dg_cX10_rota_332.2.1
theorem dX10_rota_36 : decode cX10_rota 36 = .ok (.getfield 217, 3) := dk_180 dg_cX10_rota_332.2.2.1
theorem dX10_rota_39 : decode cX10_rota 39 = .ok (.goto 10, 3) := dk_167 dg_cX10_rota_332.2.2.2.1
theorem dX10_rota_42 : decode cX10_rota 42 = .ok (.aload_n 0, 1) := dk_42 dg_cX10_rota_332.2.2.2.2.1
theorem dX10_rota_43 : decode cX10_rota 43 = .ok (.getfield 55, 3) := dk_180 dg_cX10_rota_332.2.2.2.2.2.1
theorem dX10_rota_46 : decode cX10_rota 46 = .ok (.getfield 220, 3) := dk_180 dg_cX10_rota_332.2.2.2.2.2.2.1
theorem dX10_rota_49 : decode cX10_rota 49 = .ok (.ireturn, 1) := dk_172 dg_cX10_rota_332.2.2.2.2.2.2.2
theorem dg_cX10_rout_333 : ck1 cX10_rout 0 42 = true ∧ ck3 cX10_rout 1 180 55 = true ∧ ck3 cX10_rout 4 182 279 = true ∧ ck1 cX10_rout 7 172 = true := by decide +kernel
theorem dX10_rout_0 : decode cX10_rout 0 = .ok (.aload_n 0, 1) := dk_42 dg_cX10_rout_333.1
theorem dX10_rout_1 : decode cX10_rout 1 = .ok (.getfield 55, 3) := dk_180 dg_cX10_rout_333.2.1
theorem dX10_rout_4 : decode cX10_rout 4 = .ok (.invokevirtual 279, 3) := dk_182 dg_cX10_rout_333.2.2.1
theorem dX10_rout_7 : decode cX10_rout 7 = .ok (.ireturn, 1) := dk_172 dg_cX10_rout_333.2.2.2
theorem dg_cX10_seen_334 : ck1 cX10_seen 0 42 = true ∧ ck3 cX10_seen 1 180 28 = true ∧ ck3 cX10_seen 4 180 111 = true ∧ ck3s cX10_seen 7 153 13 = true ∧ ck1 cX10_seen 10 42 = true ∧ ck3 cX10_seen 11 180 28 = true ∧ ck3 cX10_seen 14 180 261 = true ∧ ck3s cX10_seen 17 154 5 = true := by decide +kernel
theorem dX10_seen_0 : decode cX10_seen 0 = .ok (.aload_n 0, 1) := dk_42 dg_cX10_seen_334.1
theorem dX10_seen_1 : decode cX10_seen 1 = .ok (.getfield 28, 3) := dk_180 dg_cX10_seen_334.2.1
theorem dX10_seen_4 : decode cX10_seen 4 = .ok (.getfield 111, 3) := dk_180 dg_cX10_seen_334.2.2.1
theorem dX10_seen_7 : decode cX10_seen 7 = .ok (.ifCond .eq 13, 3) := dk_153 dg_cX10_seen_334.2.2.2.1
theorem dX10_seen_10 : decode cX10_seen 10 = .ok (.aload_n 0, 1) := dk_42 dg_cX10_seen_334.2.2.2.2.1
theorem dX10_seen_11 : decode cX10_seen 11 = .ok (.getfield 28, 3) := dk_180 dg_cX10_seen_334.2.2.2.2.2.1
theorem dX10_seen_14 : decode cX10_seen 14 = .ok (.getfield 261, 3) := dk_180 dg_cX10_seen_334.2.2.2.2.2.2.1
theorem dX10_seen_17 : decode cX10_seen 17 = .ok (.ifCond .ne 5, 3) := dk_154 dg_cX10_seen_334.2.2.2.2.2.2.2
theorem dg_cX10_seen_335 : ck1 cX10_seen 20 2 = true ∧ ck1 cX10_seen 21 172 = true ∧ ck1 cX10_seen 22 42 = true ∧ ck3 cX10_seen 23 180 76 = true ∧ ck1 cX10_seen 26 27 = true ∧ ck1 cX10_seen 27 28 = true ∧ ck1 cX10_seen 28 42 = true ∧ ck3 cX10_seen 29 180 288 = true := by decide +kernel
theorem dX10_seen_20 : decode cX10_seen 20 = .ok (.iconst (-1), 1) := dk_2 dg_cX10_seen_335.1
theorem dX10_seen_21 : decode cX10_seen 21 = .ok (.ireturn, 1) := dk_172 dg_cX10_seen_335.2.1
theorem dX10_seen_22 : decode cX10_seen 22 = .ok (.aload_n 0, 1) := dk_42 dg_cX10_seen_335.2.2.1
theorem dX10_seen_23 : decode cX10_seen 23 = .ok (.getfield 76, 3) := dk_180 dg_cX10_seen_335.2.2.2.1
theorem dX10_seen_26 : decode cX10_seen 26 = .ok (.iload_n 1, 1) := dk_27 dg_cX10_seen_335.2.2.2.2.1
theorem dX10_seen_27 : decode cX10_seen 27 = .ok (.iload_n 2, 1) := dk_28 dg_cX10_seen_335.2.2.2.2.2.1
theorem dX10_seen_28 : decode cX10_seen 28 = .ok (.aload_n 0, 1) := dk_42 dg_cX10_seen_335.2.2.2.2.2.2.1
theorem dX10_seen_29 : decode cX10_seen 29 = .ok (.getfield 288, 3) := dk_180 dg_cX10_seen_335.2.2.2.2.2.2.2
theorem dg_cX10_seen_336 : ck3 cX10_seen 32 182 291 = true ∧ ck1 cX10_seen 35 172 = true := by decide +kernel
theorem dX10_seen_32 : decode cX10_seen 32 = .ok (.invokevirtual 291, 3) := dk_182 dg_cX10_seen_336.1
theorem dX10_seen_35 : decode cX10_seen 35 = .ok (.ireturn, 1) := dk_172 dg_cX10_seen_336.2
theorem dg_cX10_sewing_337 : ck1 cX10_sewing 0 42 = true ∧ ck3 cX10_sewing 1 180 28 = true ∧ ck1 cX10_sewing 4 27 = true ∧ ck3 cX10_sewing 5 182 138 = true ∧ ck3s cX10_sewing 8 153 23 = true ∧ ck1 cX10_sewing 11 42 = true ∧ ck3 cX10_sewing 12 180 28 = true ∧ ck1 cX10_sewing 15 28 = true := by decide +kernel
theorem dX10_sewing_0 : decode cX10_sewing 0 = .ok (.aload_n 0, 1) := dk_42 dg_cX10_sewing_337.1
theorem dX10_sewing_1 : decode cX10_sewing 1 = .ok (.getfield 28, 3) := dk_180 dg_cX10_sewing_337.2.1
theorem dX10_sewing_4 : decode cX10_sewing 4 = .ok (.iload_n 1, 1) := dk_27 dg_cX10_sewing_337.2.2.1
theorem dX10_sewing_5 : decode cX10_sewing 5 = .ok (.invokevirtual 138, 3) := dk_182 dg_cX10_sewing_337.2.2.2.1
theorem dX10_sewing_8 : decode cX10_sewing 8 = .ok (.ifCond .eq 23, 3) := dk_153 dg_cX10_sewing_337.2.2.2.2.1
theorem dX10_sewing_11 : decode cX10_sewing 11 = .ok (.aload_n 0, 1) := dk_42 dg_cX10_sewing_337.2.2.2.2.2.1
theorem dX10_sewing_12 : decode cX10_sewing 12 = .ok (.getfield 28, 3) := dk_180 dg_cX10_sewing_337.2.2.2.2.2.2.1
theorem dX10_sewing_15 : decode cX10_sewing 15 = .ok (.iload_n 2, 1) := dk_28 dg_cX10_sewing_337.2.2.2.2.2.2.2
theorem dg_cX10_sewing_338 : ck3 cX10_sewing 16 182 120 = true ∧ ck3s cX10_sewing 19 153 12 = true ∧ ck1 cX10_sewing 22 29 = true ∧ ck3s cX10_sewing 23 155 8 = true ∧ ck1 cX10_sewing 26 29 = true ∧ ck1 cX10_sewing 27 5 = true ∧ ck3s cX10_sewing 28 164 6 = true ∧ ck2s cX10_sewing 31 16 (-100) = true := by decide +kernel
theorem dX10_sewing_16 : decode cX10_sewing 16 = .ok (.invokevirtual 120, 3) := dk_182 dg_cX10_sewing_338.1
theorem dX10_sewing_19 : decode cX10_sewing 19 = .ok (.ifCond .eq 12, 3) := dk_153 dg_cX10_sewing_338.2.1
theorem dX10_sewing_22 : decode cX10_sewing 22 = .ok (.iload_n 3, 1) := dk_29 dg_cX10_sewing_338.2.2.1
theorem dX10_sewing_23 : decode cX10_sewing 23 = .ok (.ifCond .lt 8, 3) := dk_155 dg_cX10_sewing_338.2.2.2.1
theorem dX10_sewing_26 : decode cX10_sewing 26 = .ok (.iload_n 3, 1) := dk_29 dg_cX10_sewing_338.2.2.2.2.1
theorem dX10_sewing_27 : decode cX10_sewing 27 = .ok (.iconst 2, 1) := dk_5 dg_cX10_sewing_338.2.2.2.2.2.1
theorem dX10_sewing_28 : decode cX10_sewing 28 = .ok (.if_icmp .le 6, 3) := dk_164 dg_cX10_sewing_338.2.2.2.2.2.2.1
theorem dX10_sewing_31 : decode cX10_sewing 31 = .ok (.bipush (-100), 2) := dk_16 dg_cX10_sewing_338.2.2.2.2.2.2.2
theorem dg_cX10_sewing_339 : ck1 cX10_sewing 33 172 = true ∧ ck1 cX10_sewing 34 42 = true ∧ ck3 cX10_sewing 35 180 55 = true ∧ ck1 cX10_sewing 38 27 = true ∧ ck1 cX10_sewing 39 28 = true ∧ ck3 cX10_sewing 40 182 199 = true ∧ ck3s cX10_sewing 43 154 6 = true ∧ ck2s cX10_sewing 46 16 (-100) = true := by decide +kernel
theorem dX10_sewing_33 : decode cX10_sewing 33 = .ok (.ireturn, 1) := dk_172 dg_cX10_sewing_339.1
theorem dX10_sewing_34 : decode cX10_sewing 34 = .ok (.aload_n 0, 1) := dk_42 dg_cX10_sewing_339.2.1
theorem dX10_sewing_35 : decode cX10_sewing 35 = .ok (.getfield 55, 3) := dk_180 dg_cX10_sewing_339.2.2.1
theorem dX10_sewing_38 : decode cX10_sewing 38 = .ok (.iload_n 1, 1) := dk_27 dg_cX10_sewing_339.2.2.2.1
theorem dX10_sewing_39 : decode cX10_sewing 39 = .ok (.iload_n 2, 1) := dk_28 dg_cX10_sewing_339.2.2.2.2.1
theorem dX10_sewing_40 : decode cX10_sewing 40 = .ok (.invokevirtual 199, 3) := dk_182 dg_cX10_sewing_339.2.2.2.2.2.1
theorem dX10_sewing_43 : decode cX10_sewing 43 = .ok (.ifCond .ne 6, 3) := dk_154 dg_cX10_sewing_339.2.2.2.2.2.2.1
theorem dX10_sewing_46 : decode cX10_sewing 46 = .ok (.bipush (-100), 2) := dk_16 dg_cX10_sewing_339.2.2.2.2.2.2.2
theorem dg_cX10_sewing_340 : ck1 cX10_sewing 48 172 = true ∧ ck1 cX10_sewing 49 29 = true ∧ ck3s cX10_sewing 50 154 22 = true ∧ ck1 cX10_sewing 53 42 = true ∧ ck3 cX10_sewing 54 180 55 = true ∧ ck3 cX10_sewing 57 180 203 = true ∧ ck1 cX10_sewing 60 42 = true ∧ ck3 cX10_sewing 61 180 55 = true := by decide +kernel
theorem dX10_sewing_48 : decode cX10_sewing 48 = .ok (.ireturn, 1) := dk_172 dg_cX10_sewing_340.1
theorem dX10_sewing_49 : decode cX10_sewing 49 = .ok (.iload_n 3, 1) := dk_29 dg_cX10_sewing_340.2.1
theorem dX10_sewing_50 : decode cX10_sewing 50 = .ok (.ifCond .ne 22, 3) := dk_154 dg_cX10_sewing_340.2.2.1
theorem dX10_sewing_53 : decode cX10_sewing 53 = .ok (.aload_n 0, 1) := dk_42 dg_cX10_sewing_340.2.2.2.1
theorem dX10_sewing_54 : decode cX10_sewing 54 = .ok (.getfield 55, 3) := dk_180 dg_cX10_sewing_340.2.2.2.2.1
theorem dX10_sewing_57 : decode cX10_sewing 57 = .ok (.getfield 203, 3) := dk_180 dg_cX10_sewing_340.2.2.2.2.2.1
theorem dX10_sewing_60 : decode cX10_sewing 60 = .ok (.aload_n 0, 1) := dk_42 dg_cX10_sewing_340.2.2.2.2.2.2.1
theorem dX10_sewing_61 : decode cX10_sewing 61 = .ok (.getfield 55, 3) := dk_180 dg_cX10_sewing_340.2.2.2.2.2.2.2
def dS_cX10_sewing_1 : List UInt8 := 180 :: 0 :: 206 :: 184 :: 0 :: 209 :: 96 :: 172 :: 29 :: 4 :: 160 :: 0 :: 13 :: 42 :: 180 :: 0 :: 55 :: 180 :: 0 :: 203 :: 167 :: 0 :: 10 :: 42 :: 180 :: 0 :: 55 :: 180 :: 0 :: 206 :: 172 :: []
def dS_cX10_sewing_0 : List UInt8 := 42 :: 180 :: 0 :: 28 :: 27 :: 182 :: 0 :: 138 :: 153 :: 0 :: 23 :: 42 :: 180 :: 0 :: 28 :: 28 :: 182 :: 0 :: 120 :: 153 :: 0 :: 12 :: 29 :: 155 :: 0 :: 8 :: 29 :: 5 :: 164 :: 0 :: 6 :: 16 :: 156 :: 172 :: 42 :: 180 :: 0 :: 55 :: 27 :: 28 :: 182 :: 0 :: 199 :: 154 :: 0 :: 6 :: 16 :: 156 :: 172 :: 29 :: 154 :: 0 :: 22 :: 42 :: 180 :: 0 :: 55 :: 180 :: 0 :: 203 :: 42 :: 180 :: 0 :: 55 :: dS_cX10_sewing_1
theorem dT_cX10_sewing_0 : cX10_sewing.data.toList.drop 0 = dS_cX10_sewing_0 := by decide +kernel
theorem dT_cX10_sewing_1 : cX10_sewing.data.toList.drop 64 = dS_cX10_sewing_1 := ck_nx dT_cX10_sewing_0 (by decide +kernel) rfl
theorem dg_cX10_sewing_341 : ck3L dS_cX10_sewing_1 0 180 206 = true ∧ ck3L dS_cX10_sewing_1 3 184 209 = true ∧ ck1L dS_cX10_sewing_1 6 96 = true ∧ ck1L dS_cX10_sewing_1 7 172 = true ∧ ck1L dS_cX10_sewing_1 8 29 = true ∧ ck1L dS_cX10_sewing_1 9 4 = true ∧ ck3sL dS_cX10_sewing_1 10 160 13 = true ∧ ck1L dS_cX10_sewing_1 13 42 = true := by decide +kernel
theorem dX10_sewing_64 : decode cX10_sewing 64 = .ok (.getfield 206, 3) := dk_180 (ck3_s (r := 0) dT_cX10_sewing_1 rfl dg_cX10_sewing_341.1)
theorem dX10_sewing_67 : decode cX10_sewing 67 = .ok (.invokestatic 209, 3) := dk_184 (ck3_s (r := 3) dT_cX10_sewing_1 rfl dg_cX10_sewing_341.2.1)
theorem dX10_sewing_70 : decode cX10_sewing 70 = .ok (.iadd, 1) := dk_96 (ck1_s (r := 6) dT_cX10_sewing_1 rfl dg_cX10_sewing_341.2.2.1)
theorem dX10_sewing_71 : decode cX10_sewing 71 = .ok (.ireturn, 1) := dk_172 (ck1_s (r := 7) dT_cX10_sewing_1 rfl dg_cX10_sewing_341.2.2.2.1)
theorem dX10_sewing_72 : decode cX10_sewing 72 = .ok (.iload_n 3, 1) := dk_29 (ck1_s (r := 8) dT_cX10_sewing_1 rfl dg_cX10_sewing_341.2.2.2.2.1)
theorem dX10_sewing_73 : decode cX10_sewing 73 = .ok (.iconst 1, 1) := dk_4 (ck1_s (r := 9) dT_cX10_sewing_1 rfl dg_cX10_sewing_341.2.2.2.2.2.1)
theorem dX10_sewing_74 : decode cX10_sewing 74 = .ok (.if_icmp .ne 13, 3) := dk_160 (ck3s_s (r := 10) dT_cX10_sewing_1 rfl dg_cX10_sewing_341.2.2.2.2.2.2.1)
theorem dX10_sewing_77 : decode cX10_sewing 77 = .ok (.aload_n 0, 1) := dk_42 (ck1_s (r := 13) dT_cX10_sewing_1 rfl dg_cX10_sewing_341.2.2.2.2.2.2.2)
theorem dg_cX10_sewing_342 : ck3L dS_cX10_sewing_1 14 180 55 = true ∧ ck3L dS_cX10_sewing_1 17 180 203 = true ∧ ck3sL dS_cX10_sewing_1 20 167 10 = true ∧ ck1L dS_cX10_sewing_1 23 42 = true ∧ ck3L dS_cX10_sewing_1 24 180 55 = true ∧ ck3L dS_cX10_sewing_1 27 180 206 = true ∧ ck1L dS_cX10_sewing_1 30 172 = true := by decide +kernel
theorem dX10_sewing_78 : decode cX10_sewing 78 = .ok (.getfield 55, 3) := dk_180 (ck3_s (r := 14) dT_cX10_sewing_1 rfl dg_cX10_sewing_342.1)
theorem dX10_sewing_81 : decode cX10_sewing 81 = .ok (.getfield 203, 3) := dk_180 (ck3_s (r := 17) dT_cX10_sewing_1 rfl dg_cX10_sewing_342.2.1)
theorem dX10_sewing_84 : decode cX10_sewing 84 = .ok (.goto 10, 3) := dk_167 (ck3s_s (r := 20) dT_cX10_sewing_1 rfl dg_cX10_sewing_342.2.2.1)
theorem dX10_sewing_87 : decode cX10_sewing 87 = .ok (.aload_n 0, 1) := dk_42 (ck1_s (r := 23) dT_cX10_sewing_1 rfl dg_cX10_sewing_342.2.2.2.1)
theorem dX10_sewing_88 : decode cX10_sewing 88 = .ok (.getfield 55, 3) := dk_180 (ck3_s (r := 24) dT_cX10_sewing_1 rfl dg_cX10_sewing_342.2.2.2.2.1)
theorem dX10_sewing_91 : decode cX10_sewing 91 = .ok (.getfield 206, 3) := dk_180 (ck3_s (r := 27) dT_cX10_sewing_1 rfl dg_cX10_sewing_342.2.2.2.2.2.1)
theorem dX10_sewing_94 : decode cX10_sewing 94 = .ok (.ireturn, 1) := dk_172 (ck1_s (r := 30) dT_cX10_sewing_1 rfl dg_cX10_sewing_342.2.2.2.2.2.2)
theorem dg_cX10_sure_343 : ck1 cX10_sure 0 42 = true ∧ ck3 cX10_sure 1 180 76 = true ∧ ck1 cX10_sure 4 28 = true ∧ ck3 cX10_sure 5 182 299 = true ∧ ck1 cX10_sure 8 62 = true ∧ ck1 cX10_sure 9 29 = true ∧ ck3s cX10_sure 10 153 12 = true ∧ ck1 cX10_sure 13 27 = true := by decide +kernel
theorem dX10_sure_0 : decode cX10_sure 0 = .ok (.aload_n 0, 1) := dk_42 dg_cX10_sure_343.1
theorem dX10_sure_1 : decode cX10_sure 1 = .ok (.getfield 76, 3) := dk_180 dg_cX10_sure_343.2.1
theorem dX10_sure_4 : decode cX10_sure 4 = .ok (.iload_n 2, 1) := dk_28 dg_cX10_sure_343.2.2.1
theorem dX10_sure_5 : decode cX10_sure 5 = .ok (.invokevirtual 299, 3) := dk_182 dg_cX10_sure_343.2.2.2.1
theorem dX10_sure_8 : decode cX10_sure 8 = .ok (.istore_n 3, 1) := dk_62 dg_cX10_sure_343.2.2.2.2.1
theorem dX10_sure_9 : decode cX10_sure 9 = .ok (.iload_n 3, 1) := dk_29 dg_cX10_sure_343.2.2.2.2.2.1
theorem dX10_sure_10 : decode cX10_sure 10 = .ok (.ifCond .eq 12, 3) := dk_153 dg_cX10_sure_343.2.2.2.2.2.2.1
theorem dX10_sure_13 : decode cX10_sure 13 = .ok (.iload_n 1, 1) := dk_27 dg_cX10_sure_343.2.2.2.2.2.2.2
theorem dg_cX10_sure_344 : ck3s cX10_sure 14 155 8 = true ∧ ck1 cX10_sure 17 27 = true ∧ ck1 cX10_sure 18 4 = true ∧ ck3s cX10_sure 19 164 5 = true ∧ ck1 cX10_sure 22 2 = true ∧ ck1 cX10_sure 23 172 = true ∧ ck1 cX10_sure 24 27 = true ∧ ck3s cX10_sure 25 154 10 = true := by decide +kernel
theorem dX10_sure_14 : decode cX10_sure 14 = .ok (.ifCond .lt 8, 3) := dk_155 dg_cX10_sure_344.1
theorem dX10_sure_17 : decode cX10_sure 17 = .ok (.iload_n 1, 1) := dk_27 dg_cX10_sure_344.2.1
theorem dX10_sure_18 : decode cX10_sure 18 = .ok (.iconst 1, 1) := dk_4 dg_cX10_sure_344.2.2.1
theorem dX10_sure_19 : decode cX10_sure 19 = .ok (.if_icmp .le 5, 3) := dk_164 dg_cX10_sure_344.2.2.2.1
theorem dX10_sure_22 : decode cX10_sure 22 = .ok (.iconst (-1), 1) := dk_2 dg_cX10_sure_344.2.2.2.2.1
theorem dX10_sure_23 : decode cX10_sure 23 = .ok (.ireturn, 1) := dk_172 dg_cX10_sure_344.2.2.2.2.2.1
theorem dX10_sure_24 : decode cX10_sure 24 = .ok (.iload_n 1, 1) := dk_27 dg_cX10_sure_344.2.2.2.2.2.2.1
theorem dX10_sure_25 : decode cX10_sure 25 = .ok (.ifCond .ne 10, 3) := dk_154 dg_cX10_sure_344.2.2.2.2.2.2.2
theorem dg_cX10_sure_345 : ck1 cX10_sure 28 29 = true ∧ ck3 cX10_sure 29 184 302 = true ∧ ck3s cX10_sure 32 167 10 = true ∧ ck2s cX10_sure 35 16 31 = true ∧ ck1 cX10_sure 37 29 = true ∧ ck3 cX10_sure 38 184 305 = true ∧ ck1 cX10_sure 41 100 = true ∧ ck1 cX10_sure 42 172 = true := by decide +kernel
theorem dX10_sure_28 : decode cX10_sure 28 = .ok (.iload_n 3, 1) := dk_29 dg_cX10_sure_345.1
theorem dX10_sure_29 : decode cX10_sure 29 = .ok (.invokestatic 302, 3) := dk_184 dg_cX10_sure_345.2.1
theorem dX10_sure_32 : decode cX10_sure 32 = .ok (.goto 10, 3) := dk_167 dg_cX10_sure_345.2.2.1
theorem dX10_sure_35 : decode cX10_sure 35 = .ok (.bipush 31, 2) := dk_16 dg_cX10_sure_345.2.2.2.1
theorem dX10_sure_37 : decode cX10_sure 37 = .ok (.iload_n 3, 1) := dk_29 dg_cX10_sure_345.2.2.2.2.1
theorem dX10_sure_38 : decode cX10_sure 38 = .ok (.invokestatic 305, 3) := dk_184 dg_cX10_sure_345.2.2.2.2.2.1
theorem dX10_sure_41 : decode cX10_sure 41 = .ok (.isub, 1) := dk_100 dg_cX10_sure_345.2.2.2.2.2.2.1
theorem dX10_sure_42 : decode cX10_sure 42 = .ok (.ireturn, 1) := dk_172 dg_cX10_sure_345.2.2.2.2.2.2.2
theorem dg_cX10_takein_346 : ck1 cX10_takein 0 28 = true ∧ ck1 cX10_takein 1 4 = true ∧ ck3s cX10_takein 2 161 16 = true ∧ ck1 cX10_takein 5 28 = true ∧ ck1 cX10_takein 6 42 = true ∧ ck3 cX10_takein 7 180 37 = true ∧ ck1 cX10_takein 10 4 = true ∧ ck1 cX10_takein 11 27 = true := by decide +kernel
theorem dX10_takein_0 : decode cX10_takein 0 = .ok (.iload_n 2, 1) := dk_28 dg_cX10_takein_346.1
theorem dX10_takein_1 : decode cX10_takein 1 = .ok (.iconst 1, 1) := dk_4 dg_cX10_takein_346.2.1
theorem dX10_takein_2 : decode cX10_takein 2 = .ok (.if_icmp .lt 16, 3) := dk_161 dg_cX10_takein_346.2.2.1
theorem dX10_takein_5 : decode cX10_takein 5 = .ok (.iload_n 2, 1) := dk_28 dg_cX10_takein_346.2.2.2.1
theorem dX10_takein_6 : decode cX10_takein 6 = .ok (.aload_n 0, 1) := dk_42 dg_cX10_takein_346.2.2.2.2.1
theorem dX10_takein_7 : decode cX10_takein 7 = .ok (.getfield 37, 3) := dk_180 dg_cX10_takein_346.2.2.2.2.2.1
theorem dX10_takein_10 : decode cX10_takein 10 = .ok (.iconst 1, 1) := dk_4 dg_cX10_takein_346.2.2.2.2.2.2.1
theorem dX10_takein_11 : decode cX10_takein 11 = .ok (.iload_n 1, 1) := dk_27 dg_cX10_takein_346.2.2.2.2.2.2.2
theorem dg_cX10_takein_347 : ck3 cX10_takein 12 182 144 = true ∧ ck3s cX10_takein 15 164 5 = true ∧ ck1 cX10_takein 18 2 = true ∧ ck1 cX10_takein 19 172 = true ∧ ck1 cX10_takein 20 42 = true ∧ ck1 cX10_takein 21 27 = true ∧ ck1 cX10_takein 22 28 = true ∧ ck1 cX10_takein 23 116 = true := by decide +kernel
theorem dX10_takein_12 : decode cX10_takein 12 = .ok (.invokevirtual 144, 3) := dk_182 dg_cX10_takein_347.1
theorem dX10_takein_15 : decode cX10_takein 15 = .ok (.if_icmp .le 5, 3) := dk_164 dg_cX10_takein_347.2.1
theorem dX10_takein_18 : decode cX10_takein 18 = .ok (.iconst (-1), 1) := dk_2 dg_cX10_takein_347.2.2.1
theorem dX10_takein_19 : decode cX10_takein 19 = .ok (.ireturn, 1) := dk_172 dg_cX10_takein_347.2.2.2.1
theorem dX10_takein_20 : decode cX10_takein 20 = .ok (.aload_n 0, 1) := dk_42 dg_cX10_takein_347.2.2.2.2.1
theorem dX10_takein_21 : decode cX10_takein 21 = .ok (.iload_n 1, 1) := dk_27 dg_cX10_takein_347.2.2.2.2.2.1
theorem dX10_takein_22 : decode cX10_takein 22 = .ok (.iload_n 2, 1) := dk_28 dg_cX10_takein_347.2.2.2.2.2.2.1
theorem dX10_takein_23 : decode cX10_takein 23 = .ok (.ineg, 1) := dk_116 dg_cX10_takein_347.2.2.2.2.2.2.2
theorem dg_cX10_takein_348 : ck3 cX10_takein 24 182 167 = true ∧ ck1 cX10_takein 27 172 = true := by decide +kernel
theorem dX10_takein_24 : decode cX10_takein 24 = .ok (.invokevirtual 167, 3) := dk_182 dg_cX10_takein_348.1
theorem dX10_takein_27 : decode cX10_takein 27 = .ok (.ireturn, 1) := dk_172 dg_cX10_takein_348.2
theorem dg_cX10_turn_349 : ck1 cX10_turn 0 42 = true ∧ ck3 cX10_turn 1 180 28 = true ∧ ck1 cX10_turn 4 27 = true ∧ ck3 cX10_turn 5 182 138 = true ∧ ck3s cX10_turn 8 153 15 = true ∧ ck1 cX10_turn 11 42 = true ∧ ck3 cX10_turn 12 180 37 = true ∧ ck1 cX10_turn 15 7 = true := by decide +kernel
theorem dX10_turn_0 : decode cX10_turn 0 = .ok (.aload_n 0, 1) := dk_42 dg_cX10_turn_349.1
theorem dX10_turn_1 : decode cX10_turn 1 = .ok (.getfield 28, 3) := dk_180 dg_cX10_turn_349.2.1
theorem dX10_turn_4 : decode cX10_turn 4 = .ok (.iload_n 1, 1) := dk_27 dg_cX10_turn_349.2.2.1
theorem dX10_turn_5 : decode cX10_turn 5 = .ok (.invokevirtual 138, 3) := dk_182 dg_cX10_turn_349.2.2.2.1
theorem dX10_turn_8 : decode cX10_turn 8 = .ok (.ifCond .eq 15, 3) := dk_153 dg_cX10_turn_349.2.2.2.2.1
theorem dX10_turn_11 : decode cX10_turn 11 = .ok (.aload_n 0, 1) := dk_42 dg_cX10_turn_349.2.2.2.2.2.1
theorem dX10_turn_12 : decode cX10_turn 12 = .ok (.getfield 37, 3) := dk_180 dg_cX10_turn_349.2.2.2.2.2.2.1
theorem dX10_turn_15 : decode cX10_turn 15 = .ok (.iconst 4, 1) := dk_7 dg_cX10_turn_349.2.2.2.2.2.2.2
theorem dg_cX10_turn_350 : ck1 cX10_turn 16 27 = true ∧ ck3 cX10_turn 17 182 144 = true ∧ ck3s cX10_turn 20 153 5 = true ∧ ck1 cX10_turn 23 2 = true ∧ ck1 cX10_turn 24 172 = true ∧ ck1 cX10_turn 25 42 = true ∧ ck3 cX10_turn 26 180 37 = true ∧ ck1 cX10_turn 29 6 = true := by decide +kernel
theorem dX10_turn_16 : decode cX10_turn 16 = .ok (.iload_n 1, 1) := dk_27 dg_cX10_turn_350.1
theorem dX10_turn_17 : decode cX10_turn 17 = .ok (.invokevirtual 144, 3) := dk_182 dg_cX10_turn_350.2.1
theorem dX10_turn_20 : decode cX10_turn 20 = .ok (.ifCond .eq 5, 3) := dk_153 dg_cX10_turn_350.2.2.1
theorem dX10_turn_23 : decode cX10_turn 23 = .ok (.iconst (-1), 1) := dk_2 dg_cX10_turn_350.2.2.2.1
theorem dX10_turn_24 : decode cX10_turn 24 = .ok (.ireturn, 1) := dk_172 dg_cX10_turn_350.2.2.2.2.1
theorem dX10_turn_25 : decode cX10_turn 25 = .ok (.aload_n 0, 1) := dk_42 dg_cX10_turn_350.2.2.2.2.2.1
theorem dX10_turn_26 : decode cX10_turn 26 = .ok (.getfield 37, 3) := dk_180 dg_cX10_turn_350.2.2.2.2.2.2.1
theorem dX10_turn_29 : decode cX10_turn 29 = .ok (.iconst 3, 1) := dk_6 dg_cX10_turn_350.2.2.2.2.2.2.2
theorem dg_cX10_turn_351 : ck1 cX10_turn 30 27 = true ∧ ck3 cX10_turn 31 182 144 = true ∧ ck1 cX10_turn 34 61 = true ∧ ck1 cX10_turn 35 42 = true ∧ ck3 cX10_turn 36 180 37 = true ∧ ck1 cX10_turn 39 6 = true ∧ ck1 cX10_turn 40 27 = true ∧ ck1 cX10_turn 41 3 = true := by decide +kernel
theorem dX10_turn_30 : decode cX10_turn 30 = .ok (.iload_n 1, 1) := dk_27 dg_cX10_turn_351.1
theorem dX10_turn_31 : decode cX10_turn 31 = .ok (.invokevirtual 144, 3) := dk_182 dg_cX10_turn_351.2.1
theorem dX10_turn_34 : decode cX10_turn 34 = .ok (.istore_n 2, 1) := dk_61 dg_cX10_turn_351.2.2.1
theorem dX10_turn_35 : decode cX10_turn 35 = .ok (.aload_n 0, 1) := dk_42 dg_cX10_turn_351.2.2.2.1
theorem dX10_turn_36 : decode cX10_turn 36 = .ok (.getfield 37, 3) := dk_180 dg_cX10_turn_351.2.2.2.2.1
theorem dX10_turn_39 : decode cX10_turn 39 = .ok (.iconst 3, 1) := dk_6 dg_cX10_turn_351.2.2.2.2.2.1
theorem dX10_turn_40 : decode cX10_turn 40 = .ok (.iload_n 1, 1) := dk_27 dg_cX10_turn_351.2.2.2.2.2.2.1
theorem dX10_turn_41 : decode cX10_turn 41 = .ok (.iconst 0, 1) := dk_3 dg_cX10_turn_351.2.2.2.2.2.2.2
theorem dg_cX10_turn_352 : ck3 cX10_turn 42 182 170 = true ∧ ck1 cX10_turn 45 42 = true ∧ ck3 cX10_turn 46 180 37 = true ∧ ck1 cX10_turn 49 7 = true ∧ ck1 cX10_turn 50 27 = true ∧ ck1 cX10_turn 51 4 = true ∧ ck3 cX10_turn 52 182 170 = true ∧ ck1 cX10_turn 55 42 = true := by decide +kernel
theorem dX10_turn_42 : decode cX10_turn 42 = .ok (.invokevirtual 170, 3) := dk_182 dg_cX10_turn_352.1
theorem dX10_turn_45 : decode cX10_turn 45 = .ok (.aload_n 0, 1) := dk_42 dg_cX10_turn_352.2.1
theorem dX10_turn_46 : decode cX10_turn 46 = .ok (.getfield 37, 3) := dk_180 dg_cX10_turn_352.2.2.1
theorem dX10_turn_49 : decode cX10_turn 49 = .ok (.iconst 4, 1) := dk_7 dg_cX10_turn_352.2.2.2.1
theorem dX10_turn_50 : decode cX10_turn 50 = .ok (.iload_n 1, 1) := dk_27 dg_cX10_turn_352.2.2.2.2.1
theorem dX10_turn_51 : decode cX10_turn 51 = .ok (.iconst 1, 1) := dk_4 dg_cX10_turn_352.2.2.2.2.2.1
