theorem dX10_image_5 : decode cX10_image 5 = .ok (.invokevirtual 314, 3) := by decide +kernel
theorem dX10_image_8 : decode cX10_image 8 = .ok (.ifCond .eq 13, 3) := by decide +kernel
theorem dX10_image_11 : decode cX10_image 11 = .ok (.aload_n 0, 1) := by decide +kernel
theorem dX10_image_12 : decode cX10_image 12 = .ok (.getfield 37, 3) := by decide +kernel
theorem dX10_image_15 : decode cX10_image 15 = .ok (.invokevirtual 150, 3) := by decide +kernel
theorem dX10_image_18 : decode cX10_image 18 = .ok (.goto 4, 3) := by decide +kernel
theorem dX10_image_21 : decode cX10_image 21 = .ok (.iconst (-1), 1) := by decide +kernel
theorem dX10_image_22 : decode cX10_image 22 = .ok (.ireturn, 1) := by decide +kernel
theorem dX10_init_0 : decode cX10_init 0 = .ok (.aload_n 0, 1) := by decide +kernel
theorem dX10_init_1 : decode cX10_init 1 = .ok (.invokespecial 1, 3) := by decide +kernel
theorem dX10_init_4 : decode cX10_init 4 = .ok (.aload_n 0, 1) := by decide +kernel
theorem dX10_init_5 : decode cX10_init 5 = .ok (.new 7, 3) := by decide +kernel
theorem dX10_init_8 : decode cX10_init 8 = .ok (.dup, 1) := by decide +kernel
theorem dX10_init_9 : decode cX10_init 9 = .ok (.invokespecial 9, 3) := by decide +kernel
theorem dX10_init_12 : decode cX10_init 12 = .ok (.putfield 10, 3) := by decide +kernel
theorem dX10_init_15 : decode cX10_init 15 = .ok (.aload_n 0, 1) := by decide +kernel
theorem dX10_init_16 : decode cX10_init 16 = .ok (.new 16, 3) := by decide +kernel
theorem dX10_init_19 : decode cX10_init 19 = .ok (.dup, 1) := by decide +kernel
theorem dX10_init_20 : decode cX10_init 20 = .ok (.aload_n 0, 1) := by decide +kernel
theorem dX10_init_21 : decode cX10_init 21 = .ok (.getfield 10, 3) := by decide +kernel
theorem dX10_init_24 : decode cX10_init 24 = .ok (.invokespecial 18, 3) := by decide +kernel
theorem dX10_init_27 : decode cX10_init 27 = .ok (.putfield 21, 3) := by decide +kernel
theorem dX10_init_30 : decode cX10_init 30 = .ok (.aload_n 0, 1) := by decide +kernel
theorem dX10_init_31 : decode cX10_init 31 = .ok (.new 25, 3) := by decide +kernel
theorem dX10_init_34 : decode cX10_init 34 = .ok (.dup, 1) := by decide +kernel
theorem dX10_init_35 : decode cX10_init 35 = .ok (.invokespecial 27, 3) := by decide +kernel
theorem dX10_init_38 : decode cX10_init 38 = .ok (.putfield 28, 3) := by decide +kernel
theorem dX10_init_41 : decode cX10_init 41 = .ok (.aload_n 0, 1) := by decide +kernel
theorem dX10_init_42 : decode cX10_init 42 = .ok (.new 32, 3) := by decide +kernel
theorem dX10_init_45 : decode cX10_init 45 = .ok (.dup, 1) := by decide +kernel
theorem dX10_init_46 : decode cX10_init 46 = .ok (.aload_n 0, 1) := by decide +kernel
theorem dX10_init_47 : decode cX10_init 47 = .ok (.getfield 28, 3) := by decide +kernel
theorem dX10_init_50 : decode cX10_init 50 = .ok (.invokespecial 34, 3) := by decide +kernel
theorem dX10_init_53 : decode cX10_init 53 = .ok (.putfield 37, 3) := by decide +kernel
theorem dX10_init_56 : decode cX10_init 56 = .ok (.aload_n 0, 1) := by decide +kernel
theorem dX10_init_57 : decode cX10_init 57 = .ok (.new 41, 3) := by decide +kernel
theorem dX10_init_60 : decode cX10_init 60 = .ok (.dup, 1) := by decide +kernel
theorem dX10_init_61 : decode cX10_init 61 = .ok (.aload_n 0, 1) := by decide +kernel
theorem dX10_init_62 : decode cX10_init 62 = .ok (.getfield 37, 3) := by decide +kernel
theorem dX10_init_65 : decode cX10_init 65 = .ok (.invokespecial 43, 3) := by decide +kernel
theorem dX10_init_68 : decode cX10_init 68 = .ok (.putfield 46, 3) := by decide +kernel
theorem dX10_init_71 : decode cX10_init 71 = .ok (.aload_n 0, 1) := by decide +kernel
theorem dX10_init_72 : decode cX10_init 72 = .ok (.new 50, 3) := by decide +kernel
theorem dX10_init_75 : decode cX10_init 75 = .ok (.dup, 1) := by decide +kernel
theorem dX10_init_76 : decode cX10_init 76 = .ok (.aload_n 0, 1) := by decide +kernel
theorem dX10_init_77 : decode cX10_init 77 = .ok (.getfield 28, 3) := by decide +kernel
theorem dX10_init_80 : decode cX10_init 80 = .ok (.aload_n 0, 1) := by decide +kernel
theorem dX10_init_81 : decode cX10_init 81 = .ok (.getfield 37, 3) := by decide +kernel
theorem dX10_init_84 : decode cX10_init 84 = .ok (.invokespecial 52, 3) := by decide +kernel
theorem dX10_init_87 : decode cX10_init 87 = .ok (.putfield 55, 3) := by decide +kernel
theorem dX10_init_90 : decode cX10_init 90 = .ok (.aload_n 0, 1) := by decide +kernel
theorem dX10_init_91 : decode cX10_init 91 = .ok (.new 59, 3) := by decide +kernel
theorem dX10_init_94 : decode cX10_init 94 = .ok (.dup, 1) := by decide +kernel
theorem dX10_init_95 : decode cX10_init 95 = .ok (.aload_n 0, 1) := by decide +kernel
theorem dX10_init_96 : decode cX10_init 96 = .ok (.getfield 28, 3) := by decide +kernel
theorem dX10_init_99 : decode cX10_init 99 = .ok (.aload_n 0, 1) := by decide +kernel
theorem dX10_init_100 : decode cX10_init 100 = .ok (.getfield 37, 3) := by decide +kernel
theorem dX10_init_103 : decode cX10_init 103 = .ok (.invokespecial 61, 3) := by decide +kernel
theorem dX10_init_106 : decode cX10_init 106 = .ok (.putfield 62, 3) := by decide +kernel
theorem dX10_init_109 : decode cX10_init 109 = .ok (.aload_n 0, 1) := by decide +kernel
theorem dX10_init_110 : decode cX10_init 110 = .ok (.new 66, 3) := by decide +kernel
theorem dX10_init_113 : decode cX10_init 113 = .ok (.dup, 1) := by decide +kernel
theorem dX10_init_114 : decode cX10_init 114 = .ok (.aload_n 0, 1) := by decide +kernel
theorem dX10_init_115 : decode cX10_init 115 = .ok (.getfield 28, 3) := by decide +kernel
theorem dX10_init_118 : decode cX10_init 118 = .ok (.aload_n 0, 1) := by decide +kernel
theorem dX10_init_119 : decode cX10_init 119 = .ok (.getfield 37, 3) := by decide +kernel
theorem dX10_init_122 : decode cX10_init 122 = .ok (.invokespecial 68, 3) := by decide +kernel
theorem dX10_init_125 : decode cX10_init 125 = .ok (.putfield 69, 3) := by decide +kernel
theorem dX10_init_128 : decode cX10_init 128 = .ok (.aload_n 0, 1) := by decide +kernel
theorem dX10_init_129 : decode cX10_init 129 = .ok (.new 73, 3) := by decide +kernel
theorem dX10_init_132 : decode cX10_init 132 = .ok (.dup, 1) := by decide +kernel
theorem dX10_init_133 : decode cX10_init 133 = .ok (.aload_n 0, 1) := by decide +kernel
theorem dX10_init_134 : decode cX10_init 134 = .ok (.getfield 28, 3) := by decide +kernel
theorem dX10_init_137 : decode cX10_init 137 = .ok (.invokespecial 75, 3) := by decide +kernel
theorem dX10_init_140 : decode cX10_init 140 = .ok (.putfield 76, 3) := by decide +kernel
theorem dX10_init_143 : decode cX10_init 143 = .ok (.return_, 1) := by decide +kernel
theorem dX10_later_0 : decode cX10_later 0 = .ok (.iload_n 1, 1) := by decide +kernel
theorem dX10_later_1 : decode cX10_later 1 = .ok (.ifCond .lt 22, 3) := by decide +kernel
theorem dX10_later_4 : decode cX10_later 4 = .ok (.iload_n 1, 1) := by decide +kernel
theorem dX10_later_5 : decode cX10_later 5 = .ok (.sipush 1000, 3) := by decide +kernel
theorem dX10_later_8 : decode cX10_later 8 = .ok (.if_icmp .gt 15, 3) := by decide +kernel
theorem dX10_later_11 : decode cX10_later 11 = .ok (.aload_n 0, 1) := by decide +kernel
theorem dX10_later_12 : decode cX10_later 12 = .ok (.getfield 288, 3) := by decide +kernel
theorem dX10_later_15 : decode cX10_later 15 = .ok (.iload_n 1, 1) := by decide +kernel
theorem dX10_later_16 : decode cX10_later 16 = .ok (.iadd, 1) := by decide +kernel
theorem dX10_later_17 : decode cX10_later 17 = .ok (.ldc_w 298, 3) := by decide +kernel
theorem dX10_later_20 : decode cX10_later 20 = .ok (.if_icmp .le 5, 3) := by decide +kernel
theorem dX10_later_23 : decode cX10_later 23 = .ok (.iconst (-1), 1) := by decide +kernel
theorem dX10_later_24 : decode cX10_later 24 = .ok (.ireturn, 1) := by decide +kernel
theorem dX10_later_25 : decode cX10_later 25 = .ok (.aload_n 0, 1) := by decide +kernel
theorem dX10_later_26 : decode cX10_later 26 = .ok (.dup, 1) := by decide +kernel
theorem dX10_later_27 : decode cX10_later 27 = .ok (.getfield 288, 3) := by decide +kernel
theorem dX10_later_30 : decode cX10_later 30 = .ok (.iload_n 1, 1) := by decide +kernel
theorem dX10_later_31 : decode cX10_later 31 = .ok (.iadd, 1) := by decide +kernel
theorem dX10_later_32 : decode cX10_later 32 = .ok (.putfield 288, 3) := by decide +kernel
theorem dX10_later_35 : decode cX10_later 35 = .ok (.aload_n 0, 1) := by decide +kernel
theorem dX10_later_36 : decode cX10_later 36 = .ok (.getfield 288, 3) := by decide +kernel
theorem dX10_later_39 : decode cX10_later 39 = .ok (.ireturn, 1) := by decide +kernel
theorem dX10_law_0 : decode cX10_law 0 = .ok (.iload_n 1, 1) := by decide +kernel
theorem dX10_law_1 : decode cX10_law 1 = .ok (.ifCond .lt 10, 3) := by decide +kernel
theorem dX10_law_4 : decode cX10_law 4 = .ok (.iload_n 1, 1) := by decide +kernel
theorem dX10_law_5 : decode cX10_law 5 = .ok (.sipush 999, 3) := by decide +kernel
theorem dX10_law_8 : decode cX10_law 8 = .ok (.if_icmp .le 7, 3) := by decide +kernel
theorem dX10_law_11 : decode cX10_law 11 = .ok (.iconst (-1), 1) := by decide +kernel
theorem dX10_law_12 : decode cX10_law 12 = .ok (.goto 11, 3) := by decide +kernel
theorem dX10_law_15 : decode cX10_law 15 = .ok (.aload_n 0, 1) := by decide +kernel
theorem dX10_law_16 : decode cX10_law 16 = .ok (.getfield 55, 3) := by decide +kernel
theorem dX10_law_19 : decode cX10_law 19 = .ok (.iload_n 1, 1) := by decide +kernel
theorem dX10_law_20 : decode cX10_law 20 = .ok (.invokevirtual 267, 3) := by decide +kernel
theorem dX10_law_23 : decode cX10_law 23 = .ok (.ireturn, 1) := by decide +kernel
theorem dX10_letout_0 : decode cX10_letout 0 = .ok (.iload_n 2, 1) := by decide +kernel
theorem dX10_letout_1 : decode cX10_letout 1 = .ok (.iconst 1, 1) := by decide +kernel
theorem dX10_letout_2 : decode cX10_letout 2 = .ok (.if_icmp .lt 16, 3) := by decide +kernel
theorem dX10_letout_5 : decode cX10_letout 5 = .ok (.iload_n 2, 1) := by decide +kernel
theorem dX10_letout_6 : decode cX10_letout 6 = .ok (.aload_n 0, 1) := by decide +kernel
theorem dX10_letout_7 : decode cX10_letout 7 = .ok (.getfield 37, 3) := by decide +kernel
theorem dX10_letout_10 : decode cX10_letout 10 = .ok (.iconst 2, 1) := by decide +kernel
theorem dX10_letout_11 : decode cX10_letout 11 = .ok (.iload_n 1, 1) := by decide +kernel
theorem dX10_letout_12 : decode cX10_letout 12 = .ok (.invokevirtual 144, 3) := by decide +kernel
theorem dX10_letout_15 : decode cX10_letout 15 = .ok (.if_icmp .le 5, 3) := by decide +kernel
theorem dX10_letout_18 : decode cX10_letout 18 = .ok (.iconst (-1), 1) := by decide +kernel
theorem dX10_letout_19 : decode cX10_letout 19 = .ok (.ireturn, 1) := by decide +kernel
theorem dX10_letout_20 : decode cX10_letout 20 = .ok (.aload_n 0, 1) := by decide +kernel
theorem dX10_letout_21 : decode cX10_letout 21 = .ok (.iload_n 1, 1) := by decide +kernel
theorem dX10_letout_22 : decode cX10_letout 22 = .ok (.iload_n 2, 1) := by decide +kernel
theorem dX10_letout_23 : decode cX10_letout 23 = .ok (.invokevirtual 167, 3) := by decide +kernel
theorem dX10_letout_26 : decode cX10_letout 26 = .ok (.ireturn, 1) := by decide +kernel
theorem dX10_lies_0 : decode cX10_lies 0 = .ok (.aload_n 0, 1) := by decide +kernel
theorem dX10_lies_1 : decode cX10_lies 1 = .ok (.getfield 69, 3) := by decide +kernel
theorem dX10_lies_4 : decode cX10_lies 4 = .ok (.iload_n 1, 1) := by decide +kernel
theorem dX10_lies_5 : decode cX10_lies 5 = .ok (.invokevirtual 285, 3) := by decide +kernel
theorem dX10_lies_8 : decode cX10_lies 8 = .ok (.ireturn, 1) := by decide +kernel
theorem dX10_man_0 : decode cX10_man 0 = .ok (.aload_n 0, 1) := by decide +kernel
theorem dX10_man_1 : decode cX10_man 1 = .ok (.getfield 28, 3) := by decide +kernel
theorem dX10_man_4 : decode cX10_man 4 = .ok (.iload_n 1, 1) := by decide +kernel
theorem dX10_man_5 : decode cX10_man 5 = .ok (.invokevirtual 120, 3) := by decide +kernel
theorem dX10_man_8 : decode cX10_man 8 = .ok (.ifCond .ne 6, 3) := by decide +kernel
theorem dX10_man_11 : decode cX10_man 11 = .ok (.bipush (-2), 2) := by decide +kernel
theorem dX10_man_13 : decode cX10_man 13 = .ok (.ireturn, 1) := by decide +kernel
theorem dX10_man_14 : decode cX10_man 14 = .ok (.iload_n 2, 1) := by decide +kernel
theorem dX10_man_15 : decode cX10_man 15 = .ok (.tableswitch 80 0 4 #[33, 43, 52, 62, 71], 33) := by decide +kernel
theorem dX10_man_48 : decode cX10_man 48 = .ok (.aload_n 0, 1) := by decide +kernel
theorem dX10_man_49 : decode cX10_man 49 = .ok (.getfield 28, 3) := by decide +kernel
theorem dX10_man_52 : decode cX10_man 52 = .ok (.iconst 0, 1) := by decide +kernel
theorem dX10_man_53 : decode cX10_man 53 = .ok (.iload_n 1, 1) := by decide +kernel
theorem dX10_man_54 : decode cX10_man 54 = .ok (.invokevirtual 124, 3) := by decide +kernel
theorem dX10_man_57 : decode cX10_man 57 = .ok (.ireturn, 1) := by decide +kernel
theorem dX10_man_58 : decode cX10_man 58 = .ok (.aload_n 0, 1) := by decide +kernel
theorem dX10_man_59 : decode cX10_man 59 = .ok (.getfield 37, 3) := by decide +kernel
theorem dX10_man_62 : decode cX10_man 62 = .ok (.iload_n 1, 1) := by decide +kernel
theorem dX10_man_63 : decode cX10_man 63 = .ok (.invokevirtual 128, 3) := by decide +kernel
theorem dX10_man_66 : decode cX10_man 66 = .ok (.ireturn, 1) := by decide +kernel
theorem dX10_man_67 : decode cX10_man 67 = .ok (.aload_n 0, 1) := by decide +kernel
theorem dX10_man_68 : decode cX10_man 68 = .ok (.getfield 28, 3) := by decide +kernel
theorem dX10_man_71 : decode cX10_man 71 = .ok (.iconst 2, 1) := by decide +kernel
theorem dX10_man_72 : decode cX10_man 72 = .ok (.iload_n 1, 1) := by decide +kernel
theorem dX10_man_73 : decode cX10_man 73 = .ok (.invokevirtual 124, 3) := by decide +kernel
theorem dX10_man_76 : decode cX10_man 76 = .ok (.ireturn, 1) := by decide +kernel
theorem dX10_man_77 : decode cX10_man 77 = .ok (.aload_n 0, 1) := by decide +kernel
theorem dX10_man_78 : decode cX10_man 78 = .ok (.getfield 37, 3) := by decide +kernel
theorem dX10_man_81 : decode cX10_man 81 = .ok (.iload_n 1, 1) := by decide +kernel
theorem dX10_man_82 : decode cX10_man 82 = .ok (.invokevirtual 132, 3) := by decide +kernel
theorem dX10_man_85 : decode cX10_man 85 = .ok (.ireturn, 1) := by decide +kernel
theorem dX10_man_86 : decode cX10_man 86 = .ok (.aload_n 0, 1) := by decide +kernel
theorem dX10_man_87 : decode cX10_man 87 = .ok (.getfield 37, 3) := by decide +kernel
theorem dX10_man_90 : decode cX10_man 90 = .ok (.iload_n 1, 1) := by decide +kernel
theorem dX10_man_91 : decode cX10_man 91 = .ok (.invokevirtual 135, 3) := by decide +kernel
theorem dX10_man_94 : decode cX10_man 94 = .ok (.ireturn, 1) := by decide +kernel
theorem dX10_man_95 : decode cX10_man 95 = .ok (.bipush (-2), 2) := by decide +kernel
theorem dX10_man_97 : decode cX10_man 97 = .ok (.ireturn, 1) := by decide +kernel
theorem dX10_misfit_0 : decode cX10_misfit 0 = .ok (.aload_n 0, 1) := by decide +kernel
theorem dX10_misfit_1 : decode cX10_misfit 1 = .ok (.getfield 28, 3) := by decide +kernel
theorem dX10_misfit_4 : decode cX10_misfit 4 = .ok (.iload_n 1, 1) := by decide +kernel
theorem dX10_misfit_5 : decode cX10_misfit 5 = .ok (.invokevirtual 120, 3) := by decide +kernel
theorem dX10_misfit_8 : decode cX10_misfit 8 = .ok (.ifCond .eq 26, 3) := by decide +kernel
theorem dX10_misfit_11 : decode cX10_misfit 11 = .ok (.aload_n 0, 1) := by decide +kernel
theorem dX10_misfit_12 : decode cX10_misfit 12 = .ok (.getfield 28, 3) := by decide +kernel
theorem dX10_misfit_15 : decode cX10_misfit 15 = .ok (.iload_n 2, 1) := by decide +kernel
theorem dX10_misfit_16 : decode cX10_misfit 16 = .ok (.invokevirtual 138, 3) := by decide +kernel
theorem dX10_misfit_19 : decode cX10_misfit 19 = .ok (.ifCond .eq 15, 3) := by decide +kernel
theorem dX10_misfit_22 : decode cX10_misfit 22 = .ok (.aload_n 0, 1) := by decide +kernel
theorem dX10_misfit_23 : decode cX10_misfit 23 = .ok (.getfield 37, 3) := by decide +kernel
theorem dX10_misfit_26 : decode cX10_misfit 26 = .ok (.iload_n 1, 1) := by decide +kernel
theorem dX10_misfit_27 : decode cX10_misfit 27 = .ok (.iload_n 2, 1) := by decide +kernel
theorem dX10_misfit_28 : decode cX10_misfit 28 = .ok (.invokevirtual 147, 3) := by decide +kernel
theorem dX10_misfit_31 : decode cX10_misfit 31 = .ok (.goto 4, 3) := by decide +kernel
theorem dX10_misfit_34 : decode cX10_misfit 34 = .ok (.iconst (-1), 1) := by decide +kernel
theorem dX10_misfit_35 : decode cX10_misfit 35 = .ok (.ireturn, 1) := by decide +kernel
theorem dX10_naked_0 : decode cX10_naked 0 = .ok (.iconst 0, 1) := by decide +kernel
theorem dX10_naked_1 : decode cX10_naked 1 = .ok (.istore_n 1, 1) := by decide +kernel
theorem dX10_naked_2 : decode cX10_naked 2 = .ok (.iconst 0, 1) := by decide +kernel
theorem dX10_naked_3 : decode cX10_naked 3 = .ok (.istore_n 2, 1) := by decide +kernel
theorem dX10_naked_4 : decode cX10_naked 4 = .ok (.iload_n 2, 1) := by decide +kernel
theorem dX10_naked_5 : decode cX10_naked 5 = .ok (.aload_n 0, 1) := by decide +kernel
theorem dX10_naked_6 : decode cX10_naked 6 = .ok (.getfield 28, 3) := by decide +kernel
theorem dX10_naked_9 : decode cX10_naked 9 = .ok (.getfield 111, 3) := by decide +kernel
theorem dX10_naked_12 : decode cX10_naked 12 = .ok (.if_icmp .ge 26, 3) := by decide +kernel
theorem dX10_naked_15 : decode cX10_naked 15 = .ok (.aload_n 0, 1) := by decide +kernel
theorem dX10_naked_16 : decode cX10_naked 16 = .ok (.getfield 37, 3) := by decide +kernel
theorem dX10_naked_19 : decode cX10_naked 19 = .ok (.iload_n 2, 1) := by decide +kernel
theorem dX10_naked_20 : decode cX10_naked 20 = .ok (.invokevirtual 135, 3) := by decide +kernel
theorem dX10_naked_23 : decode cX10_naked 23 = .ok (.ifCond .ne 9, 3) := by decide +kernel
theorem dX10_naked_26 : decode cX10_naked 26 = .ok (.iload_n 1, 1) := by decide +kernel
theorem dX10_naked_27 : decode cX10_naked 27 = .ok (.iconst 1, 1) := by decide +kernel
theorem dX10_naked_28 : decode cX10_naked 28 = .ok (.iload_n 2, 1) := by decide +kernel
theorem dX10_naked_29 : decode cX10_naked 29 = .ok (.ishl, 1) := by decide +kernel
theorem dX10_naked_30 : decode cX10_naked 30 = .ok (.ior, 1) := by decide +kernel
theorem dX10_naked_31 : decode cX10_naked 31 = .ok (.istore_n 1, 1) := by decide +kernel
theorem dX10_naked_32 : decode cX10_naked 32 = .ok (.iinc 2 1, 3) := by decide +kernel
theorem dX10_naked_35 : decode cX10_naked 35 = .ok (.goto (-31), 3) := by decide +kernel
theorem dX10_naked_38 : decode cX10_naked 38 = .ok (.iload_n 1, 1) := by decide +kernel
theorem dX10_naked_39 : decode cX10_naked 39 = .ok (.ireturn, 1) := by decide +kernel
theorem dX10_odds_0 : decode cX10_odds 0 = .ok (.iload_n 1, 1) := by decide +kernel
theorem dX10_odds_1 : decode cX10_odds 1 = .ok (.ifCond .lt 17, 3) := by decide +kernel
theorem dX10_odds_4 : decode cX10_odds 4 = .ok (.iload_n 1, 1) := by decide +kernel
theorem dX10_odds_5 : decode cX10_odds 5 = .ok (.iconst 4, 1) := by decide +kernel
theorem dX10_odds_6 : decode cX10_odds 6 = .ok (.if_icmp .gt 12, 3) := by decide +kernel
theorem dX10_odds_9 : decode cX10_odds 9 = .ok (.iload_n 2, 1) := by decide +kernel
theorem dX10_odds_10 : decode cX10_odds 10 = .ok (.ifCond .lt 8, 3) := by decide +kernel
theorem dX10_odds_13 : decode cX10_odds 13 = .ok (.iload_n 2, 1) := by decide +kernel
theorem dX10_odds_14 : decode cX10_odds 14 = .ok (.iconst 1, 1) := by decide +kernel
theorem dX10_odds_15 : decode cX10_odds 15 = .ok (.if_icmp .le 5, 3) := by decide +kernel
theorem dX10_odds_18 : decode cX10_odds 18 = .ok (.iconst (-1), 1) := by decide +kernel
theorem dX10_odds_19 : decode cX10_odds 19 = .ok (.ireturn, 1) := by decide +kernel
theorem dX10_odds_20 : decode cX10_odds 20 = .ok (.iconst 1, 1) := by decide +kernel
theorem dX10_odds_21 : decode cX10_odds 21 = .ok (.istore_n 3, 1) := by decide +kernel
theorem dX10_odds_22 : decode cX10_odds 22 = .ok (.iconst 1, 1) := by decide +kernel
theorem dX10_odds_23 : decode cX10_odds 23 = .ok (.istore 4, 2) := by decide +kernel
theorem dX10_odds_25 : decode cX10_odds 25 = .ok (.iconst 0, 1) := by decide +kernel
theorem dX10_odds_26 : decode cX10_odds 26 = .ok (.istore 5, 2) := by decide +kernel
theorem dX10_odds_28 : decode cX10_odds 28 = .ok (.iload 5, 2) := by decide +kernel
theorem dX10_odds_30 : decode cX10_odds 30 = .ok (.iload_n 1, 1) := by decide +kernel
theorem dX10_odds_31 : decode cX10_odds 31 = .ok (.if_icmp .ge 29, 3) := by decide +kernel
theorem dX10_odds_34 : decode cX10_odds 34 = .ok (.iload_n 3, 1) := by decide +kernel
theorem dX10_odds_35 : decode cX10_odds 35 = .ok (.bipush 100, 2) := by decide +kernel
theorem dX10_odds_37 : decode cX10_odds 37 = .ok (.aload_n 0, 1) := by decide +kernel
theorem dX10_odds_38 : decode cX10_odds 38 = .ok (.getfield 28, 3) := by decide +kernel
theorem dX10_odds_41 : decode cX10_odds 41 = .ok (.getfield 154, 3) := by decide +kernel
theorem dX10_odds_44 : decode cX10_odds 44 = .ok (.isub, 1) := by decide +kernel
theorem dX10_odds_45 : decode cX10_odds 45 = .ok (.imul, 1) := by decide +kernel
theorem dX10_odds_46 : decode cX10_odds 46 = .ok (.istore_n 3, 1) := by decide +kernel
theorem dX10_odds_47 : decode cX10_odds 47 = .ok (.iload 4, 2) := by decide +kernel
theorem dX10_odds_49 : decode cX10_odds 49 = .ok (.bipush 100, 2) := by decide +kernel
theorem dX10_odds_51 : decode cX10_odds 51 = .ok (.imul, 1) := by decide +kernel
theorem dX10_odds_52 : decode cX10_odds 52 = .ok (.istore 4, 2) := by decide +kernel
theorem dX10_odds_54 : decode cX10_odds 54 = .ok (.iinc 5 1, 3) := by decide +kernel
theorem dX10_odds_57 : decode cX10_odds 57 = .ok (.goto (-29), 3) := by decide +kernel
theorem dX10_odds_60 : decode cX10_odds 60 = .ok (.iload 4, 2) := by decide +kernel
theorem dX10_odds_62 : decode cX10_odds 62 = .ok (.iload_n 3, 1) := by decide +kernel
theorem dX10_odds_63 : decode cX10_odds 63 = .ok (.invokestatic 282, 3) := by decide +kernel
theorem dX10_odds_66 : decode cX10_odds 66 = .ok (.istore 5, 2) := by decide +kernel
theorem dX10_odds_68 : decode cX10_odds 68 = .ok (.iload 5, 2) := by decide +kernel
theorem dX10_odds_70 : decode cX10_odds 70 = .ok (.iconst 1, 1) := by decide +kernel
theorem dX10_odds_71 : decode cX10_odds 71 = .ok (.if_icmp .ge 5, 3) := by decide +kernel
theorem dX10_odds_74 : decode cX10_odds 74 = .ok (.iconst (-1), 1) := by decide +kernel
theorem dX10_odds_75 : decode cX10_odds 75 = .ok (.ireturn, 1) := by decide +kernel
theorem dX10_odds_76 : decode cX10_odds 76 = .ok (.iload_n 2, 1) := by decide +kernel
theorem dX10_odds_77 : decode cX10_odds 77 = .ok (.ifCond .ne 7, 3) := by decide +kernel
theorem dX10_odds_80 : decode cX10_odds 80 = .ok (.iload_n 3, 1) := by decide +kernel
theorem dX10_odds_81 : decode cX10_odds 81 = .ok (.goto 5, 3) := by decide +kernel
theorem dX10_odds_84 : decode cX10_odds 84 = .ok (.iload 4, 2) := by decide +kernel
theorem dX10_odds_86 : decode cX10_odds 86 = .ok (.iload 5, 2) := by decide +kernel
theorem dX10_odds_88 : decode cX10_odds 88 = .ok (.idiv, 1) := by decide +kernel
theorem dX10_odds_89 : decode cX10_odds 89 = .ok (.ireturn, 1) := by decide +kernel
theorem dX10_out_0 : decode cX10_out 0 = .ok (.aload_n 0, 1) := by decide +kernel
theorem dX10_out_1 : decode cX10_out 1 = .ok (.getfield 28, 3) := by decide +kernel
theorem dX10_out_4 : decode cX10_out 4 = .ok (.iload_n 1, 1) := by decide +kernel
theorem dX10_out_5 : decode cX10_out 5 = .ok (.invokevirtual 120, 3) := by decide +kernel
theorem dX10_out_8 : decode cX10_out 8 = .ok (.ifCond .eq 14, 3) := by decide +kernel
theorem dX10_out_11 : decode cX10_out 11 = .ok (.aload_n 0, 1) := by decide +kernel
theorem dX10_out_12 : decode cX10_out 12 = .ok (.getfield 55, 3) := by decide +kernel
theorem dX10_out_15 : decode cX10_out 15 = .ok (.iload_n 1, 1) := by decide +kernel
theorem dX10_out_16 : decode cX10_out 16 = .ok (.invokevirtual 184, 3) := by decide +kernel
theorem dX10_out_19 : decode cX10_out 19 = .ok (.goto 4, 3) := by decide +kernel
theorem dX10_out_22 : decode cX10_out 22 = .ok (.iconst (-1), 1) := by decide +kernel
theorem dX10_out_23 : decode cX10_out 23 = .ok (.ireturn, 1) := by decide +kernel
theorem dX10_popular_0 : decode cX10_popular 0 = .ok (.aload_n 0, 1) := by decide +kernel
theorem dX10_popular_1 : decode cX10_popular 1 = .ok (.getfield 28, 3) := by decide +kernel
theorem dX10_popular_4 : decode cX10_popular 4 = .ok (.iload_n 1, 1) := by decide +kernel
theorem dX10_popular_5 : decode cX10_popular 5 = .ok (.invokevirtual 138, 3) := by decide +kernel
theorem dX10_popular_8 : decode cX10_popular 8 = .ok (.ifCond .eq 14, 3) := by decide +kernel
theorem dX10_popular_11 : decode cX10_popular 11 = .ok (.aload_n 0, 1) := by decide +kernel
theorem dX10_popular_12 : decode cX10_popular 12 = .ok (.getfield 37, 3) := by decide +kernel
theorem dX10_popular_15 : decode cX10_popular 15 = .ok (.iload_n 1, 1) := by decide +kernel
theorem dX10_popular_16 : decode cX10_popular 16 = .ok (.invokevirtual 264, 3) := by decide +kernel
theorem dX10_popular_19 : decode cX10_popular 19 = .ok (.goto 4, 3) := by decide +kernel
theorem dX10_popular_22 : decode cX10_popular 22 = .ok (.iconst (-1), 1) := by decide +kernel
theorem dX10_popular_23 : decode cX10_popular 23 = .ok (.ireturn, 1) := by decide +kernel
theorem dX10_rags_0 : decode cX10_rags 0 = .ok (.iconst 0, 1) := by decide +kernel
theorem dX10_rags_1 : decode cX10_rags 1 = .ok (.istore_n 1, 1) := by decide +kernel
theorem dX10_rags_2 : decode cX10_rags 2 = .ok (.iconst 0, 1) := by decide +kernel
theorem dX10_rags_3 : decode cX10_rags 3 = .ok (.istore_n 2, 1) := by decide +kernel
theorem dX10_rags_4 : decode cX10_rags 4 = .ok (.iload_n 2, 1) := by decide +kernel
theorem dX10_rags_5 : decode cX10_rags 5 = .ok (.aload_n 0, 1) := by decide +kernel
theorem dX10_rags_6 : decode cX10_rags 6 = .ok (.getfield 28, 3) := by decide +kernel
theorem dX10_rags_9 : decode cX10_rags 9 = .ok (.getfield 261, 3) := by decide +kernel
theorem dX10_rags_12 : decode cX10_rags 12 = .ok (.if_icmp .ge 26, 3) := by decide +kernel
theorem dX10_rags_15 : decode cX10_rags 15 = .ok (.aload_n 0, 1) := by decide +kernel
theorem dX10_rags_16 : decode cX10_rags 16 = .ok (.getfield 37, 3) := by decide +kernel
theorem dX10_rags_19 : decode cX10_rags 19 = .ok (.iload_n 2, 1) := by decide +kernel
theorem dX10_rags_20 : decode cX10_rags 20 = .ok (.invokevirtual 264, 3) := by decide +kernel
theorem dX10_rags_23 : decode cX10_rags 23 = .ok (.ifCond .ne 9, 3) := by decide +kernel
theorem dX10_rags_26 : decode cX10_rags 26 = .ok (.iload_n 1, 1) := by decide +kernel
theorem dX10_rags_27 : decode cX10_rags 27 = .ok (.iconst 1, 1) := by decide +kernel
theorem dX10_rags_28 : decode cX10_rags 28 = .ok (.iload_n 2, 1) := by decide +kernel
theorem dX10_rags_29 : decode cX10_rags 29 = .ok (.ishl, 1) := by decide +kernel
theorem dX10_rags_30 : decode cX10_rags 30 = .ok (.ior, 1) := by decide +kernel
theorem dX10_rags_31 : decode cX10_rags 31 = .ok (.istore_n 1, 1) := by decide +kernel
theorem dX10_rags_32 : decode cX10_rags 32 = .ok (.iinc 2 1, 3) := by decide +kernel
theorem dX10_rags_35 : decode cX10_rags 35 = .ok (.goto (-31), 3) := by decide +kernel
theorem dX10_rags_38 : decode cX10_rags 38 = .ok (.iload_n 1, 1) := by decide +kernel
theorem dX10_rags_39 : decode cX10_rags 39 = .ok (.ireturn, 1) := by decide +kernel
theorem dX10_reach_0 : decode cX10_reach 0 = .ok (.aload_n 0, 1) := by decide +kernel
theorem dX10_reach_1 : decode cX10_reach 1 = .ok (.getfield 69, 3) := by decide +kernel
theorem dX10_reach_4 : decode cX10_reach 4 = .ok (.invokevirtual 107, 3) := by decide +kernel
theorem dX10_reach_7 : decode cX10_reach 7 = .ok (.iload_n 1, 1) := by decide +kernel
theorem dX10_reach_8 : decode cX10_reach 8 = .ok (.iload_n 2, 1) := by decide +kernel
theorem dX10_reach_9 : decode cX10_reach 9 = .ok (.if_icmp .eq 25, 3) := by decide +kernel
theorem dX10_reach_12 : decode cX10_reach 12 = .ok (.aload_n 0, 1) := by decide +kernel
theorem dX10_reach_13 : decode cX10_reach 13 = .ok (.getfield 28, 3) := by decide +kernel
theorem dX10_reach_16 : decode cX10_reach 16 = .ok (.iload_n 1, 1) := by decide +kernel
theorem dX10_reach_17 : decode cX10_reach 17 = .ok (.invokevirtual 120, 3) := by decide +kernel
theorem dX10_reach_20 : decode cX10_reach 20 = .ok (.ifCond .eq 14, 3) := by decide +kernel
theorem dX10_reach_23 : decode cX10_reach 23 = .ok (.aload_n 0, 1) := by decide +kernel
theorem dX10_reach_24 : decode cX10_reach 24 = .ok (.getfield 28, 3) := by decide +kernel
theorem dX10_reach_27 : decode cX10_reach 27 = .ok (.iload_n 2, 1) := by decide +kernel
theorem dX10_reach_28 : decode cX10_reach 28 = .ok (.invokevirtual 120, 3) := by decide +kernel
theorem dX10_reach_31 : decode cX10_reach 31 = .ok (.ifCond .ne 5, 3) := by decide +kernel
theorem dX10_reach_34 : decode cX10_reach 34 = .ok (.iconst (-1), 1) := by decide +kernel
theorem dX10_reach_35 : decode cX10_reach 35 = .ok (.ireturn, 1) := by decide +kernel
theorem dX10_reach_36 : decode cX10_reach 36 = .ok (.aload_n 0, 1) := by decide +kernel
theorem dX10_reach_37 : decode cX10_reach 37 = .ok (.getfield 69, 3) := by decide +kernel
theorem dX10_reach_40 : decode cX10_reach 40 = .ok (.iload_n 1, 1) := by decide +kernel
theorem dX10_reach_41 : decode cX10_reach 41 = .ok (.iload_n 2, 1) := by decide +kernel
theorem dX10_reach_42 : decode cX10_reach 42 = .ok (.invokevirtual 255, 3) := by decide +kernel
theorem dX10_reach_45 : decode cX10_reach 45 = .ok (.ireturn, 1) := by decide +kernel
theorem dX10_redo_0 : decode cX10_redo 0 = .ok (.aload_n 0, 1) := by decide +kernel
theorem dX10_redo_1 : decode cX10_redo 1 = .ok (.getfield 46, 3) := by decide +kernel
theorem dX10_redo_4 : decode cX10_redo 4 = .ok (.invokevirtual 177, 3) := by decide +kernel
theorem dX10_redo_7 : decode cX10_redo 7 = .ok (.ireturn, 1) := by decide +kernel
theorem dX10_regiment_0 : decode cX10_regiment 0 = .ok (.aload_n 0, 1) := by decide +kernel
theorem dX10_regiment_1 : decode cX10_regiment 1 = .ok (.getfield 21, 3) := by decide +kernel
theorem dX10_regiment_4 : decode cX10_regiment 4 = .ok (.invokevirtual 92, 3) := by decide +kernel
theorem dX10_regiment_7 : decode cX10_regiment 7 = .ok (.istore_n 1, 1) := by decide +kernel
theorem dX10_regiment_8 : decode cX10_regiment 8 = .ok (.aload_n 0, 1) := by decide +kernel
theorem dX10_regiment_9 : decode cX10_regiment 9 = .ok (.getfield 10, 3) := by decide +kernel
theorem dX10_regiment_12 : decode cX10_regiment 12 = .ok (.iconst 0, 1) := by decide +kernel
theorem dX10_regiment_13 : decode cX10_regiment 13 = .ok (.putfield 88, 3) := by decide +kernel
theorem dX10_regiment_16 : decode cX10_regiment 16 = .ok (.iload_n 1, 1) := by decide +kernel
theorem dX10_regiment_17 : decode cX10_regiment 17 = .ok (.ifCond .ne 5, 3) := by decide +kernel
theorem dX10_regiment_20 : decode cX10_regiment 20 = .ok (.iconst (-1), 1) := by decide +kernel
theorem dX10_regiment_21 : decode cX10_regiment 21 = .ok (.ireturn, 1) := by decide +kernel
theorem dX10_regiment_22 : decode cX10_regiment 22 = .ok (.aload_n 0, 1) := by decide +kernel
theorem dX10_regiment_23 : decode cX10_regiment 23 = .ok (.getfield 28, 3) := by decide +kernel
theorem dX10_regiment_26 : decode cX10_regiment 26 = .ok (.aload_n 0, 1) := by decide +kernel
theorem dX10_regiment_27 : decode cX10_regiment 27 = .ok (.getfield 21, 3) := by decide +kernel
theorem dX10_regiment_30 : decode cX10_regiment 30 = .ok (.getfield 95, 3) := by decide +kernel
theorem dX10_regiment_33 : decode cX10_regiment 33 = .ok (.invokevirtual 98, 3) := by decide +kernel
theorem dX10_regiment_36 : decode cX10_regiment 36 = .ok (.aload_n 0, 1) := by decide +kernel
theorem dX10_regiment_37 : decode cX10_regiment 37 = .ok (.getfield 37, 3) := by decide +kernel
theorem dX10_regiment_40 : decode cX10_regiment 40 = .ok (.invokevirtual 101, 3) := by decide +kernel
theorem dX10_regiment_43 : decode cX10_regiment 43 = .ok (.aload_n 0, 1) := by decide +kernel
theorem dX10_regiment_44 : decode cX10_regiment 44 = .ok (.getfield 46, 3) := by decide +kernel
theorem dX10_regiment_47 : decode cX10_regiment 47 = .ok (.invokevirtual 104, 3) := by decide +kernel
theorem dX10_regiment_50 : decode cX10_regiment 50 = .ok (.aload_n 0, 1) := by decide +kernel
theorem dX10_regiment_51 : decode cX10_regiment 51 = .ok (.getfield 69, 3) := by decide +kernel
theorem dX10_regiment_54 : decode cX10_regiment 54 = .ok (.invokevirtual 107, 3) := by decide +kernel
theorem dX10_regiment_57 : decode cX10_regiment 57 = .ok (.aload_n 0, 1) := by decide +kernel
theorem dX10_regiment_58 : decode cX10_regiment 58 = .ok (.getfield 76, 3) := by decide +kernel
theorem dX10_regiment_61 : decode cX10_regiment 61 = .ok (.invokevirtual 110, 3) := by decide +kernel
theorem dX10_regiment_64 : decode cX10_regiment 64 = .ok (.aload_n 0, 1) := by decide +kernel
theorem dX10_regiment_65 : decode cX10_regiment 65 = .ok (.getfield 28, 3) := by decide +kernel
theorem dX10_regiment_68 : decode cX10_regiment 68 = .ok (.getfield 111, 3) := by decide +kernel
theorem dX10_regiment_71 : decode cX10_regiment 71 = .ok (.ireturn, 1) := by decide +kernel
theorem dX10_rota_0 : decode cX10_rota 0 = .ok (.aload_n 0, 1) := by decide +kernel
theorem dX10_rota_1 : decode cX10_rota 1 = .ok (.getfield 28, 3) := by decide +kernel
theorem dX10_rota_4 : decode cX10_rota 4 = .ok (.getfield 111, 3) := by decide +kernel
theorem dX10_rota_7 : decode cX10_rota 7 = .ok (.ifCond .eq 12, 3) := by decide +kernel
theorem dX10_rota_10 : decode cX10_rota 10 = .ok (.iload_n 1, 1) := by decide +kernel
theorem dX10_rota_11 : decode cX10_rota 11 = .ok (.ifCond .lt 8, 3) := by decide +kernel
theorem dX10_rota_14 : decode cX10_rota 14 = .ok (.iload_n 1, 1) := by decide +kernel
theorem dX10_rota_15 : decode cX10_rota 15 = .ok (.iconst 1, 1) := by decide +kernel
theorem dX10_rota_16 : decode cX10_rota 16 = .ok (.if_icmp .le 5, 3) := by decide +kernel
theorem dX10_rota_19 : decode cX10_rota 19 = .ok (.iconst (-1), 1) := by decide +kernel
theorem dX10_rota_20 : decode cX10_rota 20 = .ok (.ireturn, 1) := by decide +kernel
theorem dX10_rota_21 : decode cX10_rota 21 = .ok (.aload_n 0, 1) := by decide +kernel
theorem dX10_rota_22 : decode cX10_rota 22 = .ok (.getfield 55, 3) := by decide +kernel
theorem dX10_rota_25 : decode cX10_rota 25 = .ok (.invokevirtual 214, 3) := by decide +kernel
theorem dX10_rota_28 : decode cX10_rota 28 = .ok (.iload_n 1, 1) := by decide +kernel
theorem dX10_rota_29 : decode cX10_rota 29 = .ok (.ifCond .ne 13, 3) := by decide +kernel
theorem dX10_rota_32 : decode cX10_rota 32 = .ok (.aload_n 0, 1) := by decide +kernel
theorem dX10_rota_33 : decode cX10_rota 33 = .ok (.getfield 55, 3) := by decide +kernel
theorem dX10_rota_36 : decode cX10_rota 36 = .ok (.getfield 217, 3) := by decide +kernel
theorem dX10_rota_39 : decode cX10_rota 39 = .ok (.goto 10, 3) := by decide +kernel
theorem dX10_rota_42 : decode cX10_rota 42 = .ok (.aload_n 0, 1) := by decide +kernel
theorem dX10_rota_43 : decode cX10_rota 43 = .ok (.getfield 55, 3) := by decide +kernel
theorem dX10_rota_46 : decode cX10_rota 46 = .ok (.getfield 220, 3) := by decide +kernel
theorem dX10_rota_49 : decode cX10_rota 49 = .ok (.ireturn, 1) := by decide +kernel
theorem dX10_rout_0 : decode cX10_rout 0 = .ok (.aload_n 0, 1) := by decide +kernel
theorem dX10_rout_1 : decode cX10_rout 1 = .ok (.getfield 55, 3) := by decide +kernel
theorem dX10_rout_4 : decode cX10_rout 4 = .ok (.invokevirtual 279, 3) := by decide +kernel
theorem dX10_rout_7 : decode cX10_rout 7 = .ok (.ireturn, 1) := by decide +kernel
theorem dX10_seen_0 : decode cX10_seen 0 = .ok (.aload_n 0, 1) := by decide +kernel
theorem dX10_seen_1 : decode cX10_seen 1 = .ok (.getfield 28, 3) := by decide +kernel
theorem dX10_seen_4 : decode cX10_seen 4 = .ok (.getfield 111, 3) := by decide +kernel
theorem dX10_seen_7 : decode cX10_seen 7 = .ok (.ifCond .eq 13, 3) := by decide +kernel
theorem dX10_seen_10 : decode cX10_seen 10 = .ok (.aload_n 0, 1) := by decide +kernel
theorem dX10_seen_11 : decode cX10_seen 11 = .ok (.getfield 28, 3) := by decide +kernel
theorem dX10_seen_14 : decode cX10_seen 14 = .ok (.getfield 261, 3) := by decide +kernel
theorem dX10_seen_17 : decode cX10_seen 17 = .ok (.ifCond .ne 5, 3) := by decide +kernel
theorem dX10_seen_20 : decode cX10_seen 20 = .ok (.iconst (-1), 1) := by decide +kernel
theorem dX10_seen_21 : decode cX10_seen 21 = .ok (.ireturn, 1) := by decide +kernel
theorem dX10_seen_22 : decode cX10_seen 22 = .ok (.aload_n 0, 1) := by decide +kernel
theorem dX10_seen_23 : decode cX10_seen 23 = .ok (.getfield 76, 3) := by decide +kernel
theorem dX10_seen_26 : decode cX10_seen 26 = .ok (.iload_n 1, 1) := by decide +kernel
theorem dX10_seen_27 : decode cX10_seen 27 = .ok (.iload_n 2, 1) := by decide +kernel
theorem dX10_seen_28 : decode cX10_seen 28 = .ok (.aload_n 0, 1) := by decide +kernel
theorem dX10_seen_29 : decode cX10_seen 29 = .ok (.getfield 288, 3) := by decide +kernel
theorem dX10_seen_32 : decode cX10_seen 32 = .ok (.invokevirtual 291, 3) := by decide +kernel
theorem dX10_seen_35 : decode cX10_seen 35 = .ok (.ireturn, 1) := by decide +kernel
theorem dX10_sewing_0 : decode cX10_sewing 0 = .ok (.aload_n 0, 1) := by decide +kernel
theorem dX10_sewing_1 : decode cX10_sewing 1 = .ok (.getfield 28, 3) := by decide +kernel
theorem dX10_sewing_4 : decode cX10_sewing 4 = .ok (.iload_n 1, 1) := by decide +kernel
theorem dX10_sewing_5 : decode cX10_sewing 5 = .ok (.invokevirtual 138, 3) := by decide +kernel
theorem dX10_sewing_8 : decode cX10_sewing 8 = .ok (.ifCond .eq 23, 3) := by decide +kernel
theorem dX10_sewing_11 : decode cX10_sewing 11 = .ok (.aload_n 0, 1) := by decide +kernel
theorem dX10_sewing_12 : decode cX10_sewing 12 = .ok (.getfield 28, 3) := by decide +kernel
theorem dX10_sewing_15 : decode cX10_sewing 15 = .ok (.iload_n 2, 1) := by decide +kernel
theorem dX10_sewing_16 : decode cX10_sewing 16 = .ok (.invokevirtual 120, 3) := by decide +kernel
theorem dX10_sewing_19 : decode cX10_sewing 19 = .ok (.ifCond .eq 12, 3) := by decide +kernel
theorem dX10_sewing_22 : decode cX10_sewing 22 = .ok (.iload_n 3, 1) := by decide +kernel
theorem dX10_sewing_23 : decode cX10_sewing 23 = .ok (.ifCond .lt 8, 3) := by decide +kernel
theorem dX10_sewing_26 : decode cX10_sewing 26 = .ok (.iload_n 3, 1) := by decide +kernel
theorem dX10_sewing_27 : decode cX10_sewing 27 = .ok (.iconst 2, 1) := by decide +kernel
theorem dX10_sewing_28 : decode cX10_sewing 28 = .ok (.if_icmp .le 6, 3) := by decide +kernel
theorem dX10_sewing_31 : decode cX10_sewing 31 = .ok (.bipush (-100), 2) := by decide +kernel
theorem dX10_sewing_33 : decode cX10_sewing 33 = .ok (.ireturn, 1) := by decide +kernel
theorem dX10_sewing_34 : decode cX10_sewing 34 = .ok (.aload_n 0, 1) := by decide +kernel
theorem dX10_sewing_35 : decode cX10_sewing 35 = .ok (.getfield 55, 3) := by decide +kernel
theorem dX10_sewing_38 : decode cX10_sewing 38 = .ok (.iload_n 1, 1) := by decide +kernel
theorem dX10_sewing_39 : decode cX10_sewing 39 = .ok (.iload_n 2, 1) := by decide +kernel
theorem dX10_sewing_40 : decode cX10_sewing 40 = .ok (.invokevirtual 199, 3) := by decide +kernel
theorem dX10_sewing_43 : decode cX10_sewing 43 = .ok (.ifCond .ne 6, 3) := by decide +kernel
theorem dX10_sewing_46 : decode cX10_sewing 46 = .ok (.bipush (-100), 2) := by decide +kernel
theorem dX10_sewing_48 : decode cX10_sewing 48 = .ok (.ireturn, 1) := by decide +kernel
theorem dX10_sewing_49 : decode cX10_sewing 49 = .ok (.iload_n 3, 1) := by decide +kernel
theorem dX10_sewing_50 : decode cX10_sewing 50 = .ok (.ifCond .ne 22, 3) := by decide +kernel
theorem dX10_sewing_53 : decode cX10_sewing 53 = .ok (.aload_n 0, 1) := by decide +kernel
theorem dX10_sewing_54 : decode cX10_sewing 54 = .ok (.getfield 55, 3) := by decide +kernel
theorem dX10_sewing_57 : decode cX10_sewing 57 = .ok (.getfield 203, 3) := by decide +kernel
theorem dX10_sewing_60 : decode cX10_sewing 60 = .ok (.aload_n 0, 1) := by decide +kernel
theorem dX10_sewing_61 : decode cX10_sewing 61 = .ok (.getfield 55, 3) := by decide +kernel
theorem dX10_sewing_64 : decode cX10_sewing 64 = .ok (.getfield 206, 3) := by decide +kernel
theorem dX10_sewing_67 : decode cX10_sewing 67 = .ok (.invokestatic 209, 3) := by decide +kernel
theorem dX10_sewing_70 : decode cX10_sewing 70 = .ok (.iadd, 1) := by decide +kernel
theorem dX10_sewing_71 : decode cX10_sewing 71 = .ok (.ireturn, 1) := by decide +kernel
theorem dX10_sewing_72 : decode cX10_sewing 72 = .ok (.iload_n 3, 1) := by decide +kernel
theorem dX10_sewing_73 : decode cX10_sewing 73 = .ok (.iconst 1, 1) := by decide +kernel
theorem dX10_sewing_74 : decode cX10_sewing 74 = .ok (.if_icmp .ne 13, 3) := by decide +kernel
theorem dX10_sewing_77 : decode cX10_sewing 77 = .ok (.aload_n 0, 1) := by decide +kernel
theorem dX10_sewing_78 : decode cX10_sewing 78 = .ok (.getfield 55, 3) := by decide +kernel
theorem dX10_sewing_81 : decode cX10_sewing 81 = .ok (.getfield 203, 3) := by decide +kernel
theorem dX10_sewing_84 : decode cX10_sewing 84 = .ok (.goto 10, 3) := by decide +kernel
theorem dX10_sewing_87 : decode cX10_sewing 87 = .ok (.aload_n 0, 1) := by decide +kernel
theorem dX10_sewing_88 : decode cX10_sewing 88 = .ok (.getfield 55, 3) := by decide +kernel
theorem dX10_sewing_91 : decode cX10_sewing 91 = .ok (.getfield 206, 3) := by decide +kernel
theorem dX10_sewing_94 : decode cX10_sewing 94 = .ok (.ireturn, 1) := by decide +kernel
theorem dX10_sure_0 : decode cX10_sure 0 = .ok (.aload_n 0, 1) := by decide +kernel
theorem dX10_sure_1 : decode cX10_sure 1 = .ok (.getfield 76, 3) := by decide +kernel
theorem dX10_sure_4 : decode cX10_sure 4 = .ok (.iload_n 2, 1) := by decide +kernel
theorem dX10_sure_5 : decode cX10_sure 5 = .ok (.invokevirtual 299, 3) := by decide +kernel
theorem dX10_sure_8 : decode cX10_sure 8 = .ok (.istore_n 3, 1) := by decide +kernel
theorem dX10_sure_9 : decode cX10_sure 9 = .ok (.iload_n 3, 1) := by decide +kernel
theorem dX10_sure_10 : decode cX10_sure 10 = .ok (.ifCond .eq 12, 3) := by decide +kernel
theorem dX10_sure_13 : decode cX10_sure 13 = .ok (.iload_n 1, 1) := by decide +kernel
theorem dX10_sure_14 : decode cX10_sure 14 = .ok (.ifCond .lt 8, 3) := by decide +kernel
theorem dX10_sure_17 : decode cX10_sure 17 = .ok (.iload_n 1, 1) := by decide +kernel
theorem dX10_sure_18 : decode cX10_sure 18 = .ok (.iconst 1, 1) := by decide +kernel
theorem dX10_sure_19 : decode cX10_sure 19 = .ok (.if_icmp .le 5, 3) := by decide +kernel
theorem dX10_sure_22 : decode cX10_sure 22 = .ok (.iconst (-1), 1) := by decide +kernel
theorem dX10_sure_23 : decode cX10_sure 23 = .ok (.ireturn, 1) := by decide +kernel
theorem dX10_sure_24 : decode cX10_sure 24 = .ok (.iload_n 1, 1) := by decide +kernel
theorem dX10_sure_25 : decode cX10_sure 25 = .ok (.ifCond .ne 10, 3) := by decide +kernel
theorem dX10_sure_28 : decode cX10_sure 28 = .ok (.iload_n 3, 1) := by decide +kernel
theorem dX10_sure_29 : decode cX10_sure 29 = .ok (.invokestatic 302, 3) := by decide +kernel
theorem dX10_sure_32 : decode cX10_sure 32 = .ok (.goto 10, 3) := by decide +kernel
theorem dX10_sure_35 : decode cX10_sure 35 = .ok (.bipush 31, 2) := by decide +kernel
theorem dX10_sure_37 : decode cX10_sure 37 = .ok (.iload_n 3, 1) := by decide +kernel
theorem dX10_sure_38 : decode cX10_sure 38 = .ok (.invokestatic 305, 3) := by decide +kernel
theorem dX10_sure_41 : decode cX10_sure 41 = .ok (.isub, 1) := by decide +kernel
theorem dX10_sure_42 : decode cX10_sure 42 = .ok (.ireturn, 1) := by decide +kernel
theorem dX10_takein_0 : decode cX10_takein 0 = .ok (.iload_n 2, 1) := by decide +kernel
theorem dX10_takein_1 : decode cX10_takein 1 = .ok (.iconst 1, 1) := by decide +kernel
theorem dX10_takein_2 : decode cX10_takein 2 = .ok (.if_icmp .lt 16, 3) := by decide +kernel
theorem dX10_takein_5 : decode cX10_takein 5 = .ok (.iload_n 2, 1) := by decide +kernel
theorem dX10_takein_6 : decode cX10_takein 6 = .ok (.aload_n 0, 1) := by decide +kernel
theorem dX10_takein_7 : decode cX10_takein 7 = .ok (.getfield 37, 3) := by decide +kernel
theorem dX10_takein_10 : decode cX10_takein 10 = .ok (.iconst 1, 1) := by decide +kernel
theorem dX10_takein_11 : decode cX10_takein 11 = .ok (.iload_n 1, 1) := by decide +kernel
theorem dX10_takein_12 : decode cX10_takein 12 = .ok (.invokevirtual 144, 3) := by decide +kernel
theorem dX10_takein_15 : decode cX10_takein 15 = .ok (.if_icmp .le 5, 3) := by decide +kernel
theorem dX10_takein_18 : decode cX10_takein 18 = .ok (.iconst (-1), 1) := by decide +kernel
theorem dX10_takein_19 : decode cX10_takein 19 = .ok (.ireturn, 1) := by decide +kernel
theorem dX10_takein_20 : decode cX10_takein 20 = .ok (.aload_n 0, 1) := by decide +kernel
theorem dX10_takein_21 : decode cX10_takein 21 = .ok (.iload_n 1, 1) := by decide +kernel
theorem dX10_takein_22 : decode cX10_takein 22 = .ok (.iload_n 2, 1) := by decide +kernel
theorem dX10_takein_23 : decode cX10_takein 23 = .ok (.ineg, 1) := by decide +kernel
theorem dX10_takein_24 : decode cX10_takein 24 = .ok (.invokevirtual 167, 3) := by decide +kernel
theorem dX10_takein_27 : decode cX10_takein 27 = .ok (.ireturn, 1) := by decide +kernel
theorem dX10_turn_0 : decode cX10_turn 0 = .ok (.aload_n 0, 1) := by decide +kernel
theorem dX10_turn_1 : decode cX10_turn 1 = .ok (.getfield 28, 3) := by decide +kernel
theorem dX10_turn_4 : decode cX10_turn 4 = .ok (.iload_n 1, 1) := by decide +kernel
theorem dX10_turn_5 : decode cX10_turn 5 = .ok (.invokevirtual 138, 3) := by decide +kernel
theorem dX10_turn_8 : decode cX10_turn 8 = .ok (.ifCond .eq 15, 3) := by decide +kernel
theorem dX10_turn_11 : decode cX10_turn 11 = .ok (.aload_n 0, 1) := by decide +kernel
theorem dX10_turn_12 : decode cX10_turn 12 = .ok (.getfield 37, 3) := by decide +kernel
theorem dX10_turn_15 : decode cX10_turn 15 = .ok (.iconst 4, 1) := by decide +kernel
theorem dX10_turn_16 : decode cX10_turn 16 = .ok (.iload_n 1, 1) := by decide +kernel
theorem dX10_turn_17 : decode cX10_turn 17 = .ok (.invokevirtual 144, 3) := by decide +kernel
theorem dX10_turn_20 : decode cX10_turn 20 = .ok (.ifCond .eq 5, 3) := by decide +kernel
theorem dX10_turn_23 : decode cX10_turn 23 = .ok (.iconst (-1), 1) := by decide +kernel
theorem dX10_turn_24 : decode cX10_turn 24 = .ok (.ireturn, 1) := by decide +kernel
theorem dX10_turn_25 : decode cX10_turn 25 = .ok (.aload_n 0, 1) := by decide +kernel
theorem dX10_turn_26 : decode cX10_turn 26 = .ok (.getfield 37, 3) := by decide +kernel
theorem dX10_turn_29 : decode cX10_turn 29 = .ok (.iconst 3, 1) := by decide +kernel
theorem dX10_turn_30 : decode cX10_turn 30 = .ok (.iload_n 1, 1) := by decide +kernel
theorem dX10_turn_31 : decode cX10_turn 31 = .ok (.invokevirtual 144, 3) := by decide +kernel
theorem dX10_turn_34 : decode cX10_turn 34 = .ok (.istore_n 2, 1) := by decide +kernel
theorem dX10_turn_35 : decode cX10_turn 35 = .ok (.aload_n 0, 1) := by decide +kernel
theorem dX10_turn_36 : decode cX10_turn 36 = .ok (.getfield 37, 3) := by decide +kernel
theorem dX10_turn_39 : decode cX10_turn 39 = .ok (.iconst 3, 1) := by decide +kernel
theorem dX10_turn_40 : decode cX10_turn 40 = .ok (.iload_n 1, 1) := by decide +kernel
theorem dX10_turn_41 : decode cX10_turn 41 = .ok (.iconst 0, 1) := by decide +kernel
theorem dX10_turn_42 : decode cX10_turn 42 = .ok (.invokevirtual 170, 3) := by decide +kernel
theorem dX10_turn_45 : decode cX10_turn 45 = .ok (.aload_n 0, 1) := by decide +kernel
theorem dX10_turn_46 : decode cX10_turn 46 = .ok (.getfield 37, 3) := by decide +kernel
theorem dX10_turn_49 : decode cX10_turn 49 = .ok (.iconst 4, 1) := by decide +kernel
theorem dX10_turn_50 : decode cX10_turn 50 = .ok (.iload_n 1, 1) := by decide +kernel
theorem dX10_turn_51 : decode cX10_turn 51 = .ok (.iconst 1, 1) := by decide +kernel
theorem dX10_turn_52 : decode cX10_turn 52 = .ok (.invokevirtual 170, 3) := by decide +kernel
theorem dX10_turn_55 : decode cX10_turn 55 = .ok (.aload_n 0, 1) := by decide +kernel
theorem dX10_turn_56 : decode cX10_turn 56 = .ok (.getfield 46, 3) := by decide +kernel
theorem dX10_turn_59 : decode cX10_turn 59 = .ok (.invokevirtual 160, 3) := by decide +kernel
theorem dX10_turn_62 : decode cX10_turn 62 = .ok (.iload_n 2, 1) := by decide +kernel
theorem dX10_turn_63 : decode cX10_turn 63 = .ok (.ireturn, 1) := by decide +kernel
theorem dX10_turning_0 : decode cX10_turning 0 = .ok (.aload_n 0, 1) := by decide +kernel
theorem dX10_turning_1 : decode cX10_turning 1 = .ok (.getfield 55, 3) := by decide +kernel
theorem dX10_turning_4 : decode cX10_turning 4 = .ok (.invokevirtual 258, 3) := by decide +kernel
theorem dX10_turning_7 : decode cX10_turning 7 = .ok (.ireturn, 1) := by decide +kernel
theorem dX10_undo_0 : decode cX10_undo 0 = .ok (.aload_n 0, 1) := by decide +kernel
theorem dX10_undo_1 : decode cX10_undo 1 = .ok (.getfield 46, 3) := by decide +kernel
theorem dX10_undo_4 : decode cX10_undo 4 = .ok (.invokevirtual 174, 3) := by decide +kernel
theorem dX10_undo_7 : decode cX10_undo 7 = .ok (.ireturn, 1) := by decide +kernel
theorem dX10_untell_0 : decode cX10_untell 0 = .ok (.aload_n 0, 1) := by decide +kernel
theorem dX10_untell_1 : decode cX10_untell 1 = .ok (.getfield 76, 3) := by decide +kernel
theorem dX10_untell_4 : decode cX10_untell 4 = .ok (.iload_n 1, 1) := by decide +kernel
theorem dX10_untell_5 : decode cX10_untell 5 = .ok (.aload_n 0, 1) := by decide +kernel
theorem dX10_untell_6 : decode cX10_untell 6 = .ok (.getfield 288, 3) := by decide +kernel
theorem dX10_untell_9 : decode cX10_untell 9 = .ok (.invokevirtual 295, 3) := by decide +kernel
theorem dX10_untell_12 : decode cX10_untell 12 = .ok (.ireturn, 1) := by decide +kernel
theorem dX10_widen_0 : decode cX10_widen 0 = .ok (.aload_n 0, 1) := by decide +kernel
theorem dX10_widen_1 : decode cX10_widen 1 = .ok (.getfield 37, 3) := by decide +kernel
theorem dX10_widen_4 : decode cX10_widen 4 = .ok (.iconst 1, 1) := by decide +kernel
theorem dX10_widen_5 : decode cX10_widen 5 = .ok (.iload_n 1, 1) := by decide +kernel
theorem dX10_widen_6 : decode cX10_widen 6 = .ok (.invokevirtual 144, 3) := by decide +kernel
theorem dX10_widen_9 : decode cX10_widen 9 = .ok (.iload_n 2, 1) := by decide +kernel
theorem dX10_widen_10 : decode cX10_widen 10 = .ok (.iadd, 1) := by decide +kernel
theorem dX10_widen_11 : decode cX10_widen 11 = .ok (.istore_n 3, 1) := by decide +kernel
theorem dX10_widen_12 : decode cX10_widen 12 = .ok (.aload_n 0, 1) := by decide +kernel
theorem dX10_widen_13 : decode cX10_widen 13 = .ok (.getfield 37, 3) := by decide +kernel
theorem dX10_widen_16 : decode cX10_widen 16 = .ok (.iconst 2, 1) := by decide +kernel
theorem dX10_widen_17 : decode cX10_widen 17 = .ok (.iload_n 1, 1) := by decide +kernel
theorem dX10_widen_18 : decode cX10_widen 18 = .ok (.invokevirtual 144, 3) := by decide +kernel
theorem dX10_widen_21 : decode cX10_widen 21 = .ok (.iload_n 2, 1) := by decide +kernel
theorem dX10_widen_22 : decode cX10_widen 22 = .ok (.isub, 1) := by decide +kernel
theorem dX10_widen_23 : decode cX10_widen 23 = .ok (.istore 4, 2) := by decide +kernel
theorem dX10_widen_25 : decode cX10_widen 25 = .ok (.iload_n 3, 1) := by decide +kernel
theorem dX10_widen_26 : decode cX10_widen 26 = .ok (.bipush 99, 2) := by decide +kernel
theorem dX10_widen_28 : decode cX10_widen 28 = .ok (.if_icmp .gt 10, 3) := by decide +kernel
theorem dX10_widen_31 : decode cX10_widen 31 = .ok (.iload 4, 2) := by decide +kernel
theorem dX10_widen_33 : decode cX10_widen 33 = .ok (.bipush 99, 2) := by decide +kernel
theorem dX10_widen_35 : decode cX10_widen 35 = .ok (.if_icmp .le 5, 3) := by decide +kernel
theorem dX10_widen_38 : decode cX10_widen 38 = .ok (.iconst (-1), 1) := by decide +kernel
theorem dX10_widen_39 : decode cX10_widen 39 = .ok (.ireturn, 1) := by decide +kernel
theorem dX10_widen_40 : decode cX10_widen 40 = .ok (.aload_n 0, 1) := by decide +kernel
theorem dX10_widen_41 : decode cX10_widen 41 = .ok (.getfield 37, 3) := by decide +kernel
theorem dX10_widen_44 : decode cX10_widen 44 = .ok (.iconst 1, 1) := by decide +kernel
theorem dX10_widen_45 : decode cX10_widen 45 = .ok (.iload_n 1, 1) := by decide +kernel
theorem dX10_widen_46 : decode cX10_widen 46 = .ok (.iload_n 3, 1) := by decide +kernel
theorem dX10_widen_47 : decode cX10_widen 47 = .ok (.invokevirtual 170, 3) := by decide +kernel
theorem dX10_widen_50 : decode cX10_widen 50 = .ok (.aload_n 0, 1) := by decide +kernel
theorem dX10_widen_51 : decode cX10_widen 51 = .ok (.getfield 37, 3) := by decide +kernel
theorem dX10_widen_54 : decode cX10_widen 54 = .ok (.iconst 2, 1) := by decide +kernel
theorem dX10_widen_55 : decode cX10_widen 55 = .ok (.iload_n 1, 1) := by decide +kernel
theorem dX10_widen_56 : decode cX10_widen 56 = .ok (.iload 4, 2) := by decide +kernel
theorem dX10_widen_58 : decode cX10_widen 58 = .ok (.invokevirtual 170, 3) := by decide +kernel
theorem dX10_widen_61 : decode cX10_widen 61 = .ok (.aload_n 0, 1) := by decide +kernel
theorem dX10_widen_62 : decode cX10_widen 62 = .ok (.getfield 46, 3) := by decide +kernel
theorem dX10_widen_65 : decode cX10_widen 65 = .ok (.invokevirtual 160, 3) := by decide +kernel
theorem dX10_widen_68 : decode cX10_widen 68 = .ok (.iload_n 3, 1) := by decide +kernel
theorem dX10_widen_69 : decode cX10_widen 69 = .ok (.ireturn, 1) := by decide +kernel
theorem dX10_will_0 : decode cX10_will 0 = .ok (.aload_n 0, 1) := by decide +kernel
theorem dX10_will_1 : decode cX10_will 1 = .ok (.getfield 28, 3) := by decide +kernel
theorem dX10_will_4 : decode cX10_will 4 = .ok (.iload_n 1, 1) := by decide +kernel
theorem dX10_will_5 : decode cX10_will 5 = .ok (.invokevirtual 120, 3) := by decide +kernel
theorem dX10_will_8 : decode cX10_will 8 = .ok (.ifCond .eq 22, 3) := by decide +kernel
theorem dX10_will_11 : decode cX10_will 11 = .ok (.iload_n 2, 1) := by decide +kernel
theorem dX10_will_12 : decode cX10_will 12 = .ok (.ifCond .lt 18, 3) := by decide +kernel
theorem dX10_will_15 : decode cX10_will 15 = .ok (.iload_n 2, 1) := by decide +kernel
theorem dX10_will_16 : decode cX10_will 16 = .ok (.bipush 60, 2) := by decide +kernel
theorem dX10_will_18 : decode cX10_will 18 = .ok (.if_icmp .gt 12, 3) := by decide +kernel
theorem dX10_will_21 : decode cX10_will 21 = .ok (.iload_n 3, 1) := by decide +kernel
theorem dX10_will_22 : decode cX10_will 22 = .ok (.ifCond .lt 8, 3) := by decide +kernel
theorem dX10_will_25 : decode cX10_will 25 = .ok (.iload_n 3, 1) := by decide +kernel
theorem dX10_will_26 : decode cX10_will 26 = .ok (.iconst 1, 1) := by decide +kernel
theorem dX10_will_27 : decode cX10_will 27 = .ok (.if_icmp .le 6, 3) := by decide +kernel
theorem dX10_will_30 : decode cX10_will 30 = .ok (.bipush (-2), 2) := by decide +kernel
theorem dX10_will_32 : decode cX10_will 32 = .ok (.ireturn, 1) := by decide +kernel
theorem dX10_will_33 : decode cX10_will 33 = .ok (.aload_n 0, 1) := by decide +kernel
theorem dX10_will_34 : decode cX10_will 34 = .ok (.getfield 55, 3) := by decide +kernel
theorem dX10_will_37 : decode cX10_will 37 = .ok (.iload_n 1, 1) := by decide +kernel
theorem dX10_will_38 : decode cX10_will 38 = .ok (.iload_n 2, 1) := by decide +kernel
theorem dX10_will_39 : decode cX10_will 39 = .ok (.iload_n 3, 1) := by decide +kernel
theorem dX10_will_40 : decode cX10_will 40 = .ok (.iconst 1, 1) := by decide +kernel
theorem dX10_will_41 : decode cX10_will 41 = .ok (.if_icmp .ne 13, 3) := by decide +kernel
theorem dX10_will_44 : decode cX10_will 44 = .ok (.aload_n 0, 1) := by decide +kernel
theorem dX10_will_45 : decode cX10_will 45 = .ok (.getfield 28, 3) := by decide +kernel
theorem dX10_will_48 : decode cX10_will 48 = .ok (.getfield 154, 3) := by decide +kernel
theorem dX10_will_51 : decode cX10_will 51 = .ok (.goto 4, 3) := by decide +kernel
theorem dX10_will_54 : decode cX10_will 54 = .ok (.iconst 0, 1) := by decide +kernel
theorem dX10_will_55 : decode cX10_will 55 = .ok (.invokevirtual 180, 3) := by decide +kernel
theorem dX10_will_58 : decode cX10_will 58 = .ok (.ireturn, 1) := by decide +kernel
theorem dX10_wings_0 : decode cX10_wings 0 = .ok (.iload_n 1, 1) := by decide +kernel
theorem dX10_wings_1 : decode cX10_wings 1 = .ok (.ifCond .lt 8, 3) := by decide +kernel
theorem dX10_wings_4 : decode cX10_wings 4 = .ok (.iload_n 1, 1) := by decide +kernel
theorem dX10_wings_5 : decode cX10_wings 5 = .ok (.iconst 1, 1) := by decide +kernel
theorem dX10_wings_6 : decode cX10_wings 6 = .ok (.if_icmp .le 5, 3) := by decide +kernel
theorem dX10_wings_9 : decode cX10_wings 9 = .ok (.iconst (-1), 1) := by decide +kernel
theorem dX10_wings_10 : decode cX10_wings 10 = .ok (.ireturn, 1) := by decide +kernel
theorem dX10_wings_11 : decode cX10_wings 11 = .ok (.aload_n 0, 1) := by decide +kernel
theorem dX10_wings_12 : decode cX10_wings 12 = .ok (.getfield 62, 3) := by decide +kernel
theorem dX10_wings_15 : decode cX10_wings 15 = .ok (.invokevirtual 243, 3) := by decide +kernel
theorem dX10_wings_18 : decode cX10_wings 18 = .ok (.istore_n 2, 1) := by decide +kernel
theorem dX10_wings_19 : decode cX10_wings 19 = .ok (.iload_n 1, 1) := by decide +kernel
theorem dX10_wings_20 : decode cX10_wings 20 = .ok (.iconst 1, 1) := by decide +kernel
theorem dX10_wings_21 : decode cX10_wings 21 = .ok (.if_icmp .ne 7, 3) := by decide +kernel
theorem dX10_wings_24 : decode cX10_wings 24 = .ok (.iload_n 2, 1) := by decide +kernel
theorem dX10_wings_25 : decode cX10_wings 25 = .ok (.goto 11, 3) := by decide +kernel
theorem dX10_wings_28 : decode cX10_wings 28 = .ok (.aload_n 0, 1) := by decide +kernel
theorem dX10_wings_29 : decode cX10_wings 29 = .ok (.getfield 62, 3) := by decide +kernel
theorem dX10_wings_32 : decode cX10_wings 32 = .ok (.iload_n 2, 1) := by decide +kernel
theorem dX10_wings_33 : decode cX10_wings 33 = .ok (.invokevirtual 246, 3) := by decide +kernel
theorem dX10_wings_36 : decode cX10_wings 36 = .ok (.ireturn, 1) := by decide +kernel
theorem dX11_about_0 : decode cX11_about 0 = .ok (.iload_n 1, 1) := by decide +kernel
theorem dX11_about_1 : decode cX11_about 1 = .ok (.tableswitch 147 0 13 #[71, 76, 81, 86, 91, 96, 104, 112, 117, 122, 127, 132, 137, 142], 71) := by decide +kernel
theorem dX11_about_72 : decode cX11_about 72 = .ok (.aload_n 0, 1) := by decide +kernel
theorem dX11_about_73 : decode cX11_about 73 = .ok (.getfield 387, 3) := by decide +kernel
theorem dX11_about_76 : decode cX11_about 76 = .ok (.ireturn, 1) := by decide +kernel
theorem dX11_about_77 : decode cX11_about 77 = .ok (.aload_n 0, 1) := by decide +kernel
theorem dX11_about_78 : decode cX11_about 78 = .ok (.getfield 390, 3) := by decide +kernel
theorem dX11_about_81 : decode cX11_about 81 = .ok (.ireturn, 1) := by decide +kernel
theorem dX11_about_82 : decode cX11_about 82 = .ok (.aload_n 0, 1) := by decide +kernel
theorem dX11_about_83 : decode cX11_about 83 = .ok (.getfield 84, 3) := by decide +kernel
theorem dX11_about_86 : decode cX11_about 86 = .ok (.ireturn, 1) := by decide +kernel
theorem dX11_about_87 : decode cX11_about 87 = .ok (.aload_n 0, 1) := by decide +kernel
theorem dX11_about_88 : decode cX11_about 88 = .ok (.getfield 87, 3) := by decide +kernel
theorem dX11_about_91 : decode cX11_about 91 = .ok (.ireturn, 1) := by decide +kernel
theorem dX11_about_92 : decode cX11_about 92 = .ok (.aload_n 0, 1) := by decide +kernel
theorem dX11_about_93 : decode cX11_about 93 = .ok (.getfield 90, 3) := by decide +kernel
theorem dX11_about_96 : decode cX11_about 96 = .ok (.ireturn, 1) := by decide +kernel
theorem dX11_about_97 : decode cX11_about 97 = .ok (.aload_n 0, 1) := by decide +kernel
theorem dX11_about_98 : decode cX11_about 98 = .ok (.getfield 93, 3) := by decide +kernel
theorem dX11_about_101 : decode cX11_about 101 = .ok (.bipush 37, 2) := by decide +kernel
theorem dX11_about_103 : decode cX11_about 103 = .ok (.iaload, 1) := by decide +kernel
theorem dX11_about_104 : decode cX11_about 104 = .ok (.ireturn, 1) := by decide +kernel
theorem dX11_about_105 : decode cX11_about 105 = .ok (.aload_n 0, 1) := by decide +kernel
theorem dX11_about_106 : decode cX11_about 106 = .ok (.getfield 93, 3) := by decide +kernel
theorem dX11_about_109 : decode cX11_about 109 = .ok (.bipush 38, 2) := by decide +kernel
theorem dX11_about_111 : decode cX11_about 111 = .ok (.iaload, 1) := by decide +kernel
theorem dX11_about_112 : decode cX11_about 112 = .ok (.ireturn, 1) := by decide +kernel
theorem dX11_about_113 : decode cX11_about 113 = .ok (.aload_n 0, 1) := by decide +kernel
theorem dX11_about_114 : decode cX11_about 114 = .ok (.getfield 405, 3) := by decide +kernel
theorem dX11_about_117 : decode cX11_about 117 = .ok (.ireturn, 1) := by decide +kernel
theorem dX11_about_118 : decode cX11_about 118 = .ok (.aload_n 0, 1) := by decide +kernel
theorem dX11_about_119 : decode cX11_about 119 = .ok (.getfield 408, 3) := by decide +kernel
theorem dX11_about_122 : decode cX11_about 122 = .ok (.ireturn, 1) := by decide +kernel
theorem dX11_about_123 : decode cX11_about 123 = .ok (.aload_n 0, 1) := by decide +kernel
theorem dX11_about_124 : decode cX11_about 124 = .ok (.getfield 411, 3) := by decide +kernel
theorem dX11_about_127 : decode cX11_about 127 = .ok (.ireturn, 1) := by decide +kernel
theorem dX11_about_128 : decode cX11_about 128 = .ok (.aload_n 0, 1) := by decide +kernel
theorem dX11_about_129 : decode cX11_about 129 = .ok (.getfield 527, 3) := by decide +kernel
theorem dX11_about_132 : decode cX11_about 132 = .ok (.ireturn, 1) := by decide +kernel
theorem dX11_about_133 : decode cX11_about 133 = .ok (.aload_n 0, 1) := by decide +kernel
theorem dX11_about_134 : decode cX11_about 134 = .ok (.getfield 139, 3) := by decide +kernel
theorem dX11_about_137 : decode cX11_about 137 = .ok (.ireturn, 1) := by decide +kernel
theorem dX11_about_138 : decode cX11_about 138 = .ok (.aload_n 0, 1) := by decide +kernel
theorem dX11_about_139 : decode cX11_about 139 = .ok (.getfield 396, 3) := by decide +kernel
theorem dX11_about_142 : decode cX11_about 142 = .ok (.ireturn, 1) := by decide +kernel
theorem dX11_about_143 : decode cX11_about 143 = .ok (.aload_n 0, 1) := by decide +kernel
theorem dX11_about_144 : decode cX11_about 144 = .ok (.getfield 414, 3) := by decide +kernel
theorem dX11_about_147 : decode cX11_about 147 = .ok (.ireturn, 1) := by decide +kernel
theorem dX11_about_148 : decode cX11_about 148 = .ok (.iconst (-1), 1) := by decide +kernel
theorem dX11_about_149 : decode cX11_about 149 = .ok (.ireturn, 1) := by decide +kernel
theorem dX11_act_0 : decode cX11_act 0 = .ok (.aload_n 0, 1) := by decide +kernel
theorem dX11_act_1 : decode cX11_act 1 = .ok (.getfield 405, 3) := by decide +kernel
theorem dX11_act_4 : decode cX11_act 4 = .ok (.bipush 40, 2) := by decide +kernel
theorem dX11_act_6 : decode cX11_act 6 = .ok (.if_icmp .ne 43, 3) := by decide +kernel
theorem dX11_act_9 : decode cX11_act 9 = .ok (.iconst 0, 1) := by decide +kernel
theorem dX11_act_10 : decode cX11_act 10 = .ok (.istore_n 1, 1) := by decide +kernel
theorem dX11_act_11 : decode cX11_act 11 = .ok (.iload_n 1, 1) := by decide +kernel
theorem dX11_act_12 : decode cX11_act 12 = .ok (.sipush 1521, 3) := by decide +kernel
theorem dX11_act_15 : decode cX11_act 15 = .ok (.if_icmp .ge 24, 3) := by decide +kernel
theorem dX11_act_18 : decode cX11_act 18 = .ok (.aload_n 0, 1) := by decide +kernel
theorem dX11_act_19 : decode cX11_act 19 = .ok (.getfield 99, 3) := by decide +kernel
theorem dX11_act_22 : decode cX11_act 22 = .ok (.iload_n 1, 1) := by decide +kernel
theorem dX11_act_23 : decode cX11_act 23 = .ok (.aload_n 0, 1) := by decide +kernel
theorem dX11_act_24 : decode cX11_act 24 = .ok (.getfield 99, 3) := by decide +kernel
theorem dX11_act_27 : decode cX11_act 27 = .ok (.bipush 39, 2) := by decide +kernel
theorem dX11_act_29 : decode cX11_act 29 = .ok (.iload_n 1, 1) := by decide +kernel
theorem dX11_act_30 : decode cX11_act 30 = .ok (.iadd, 1) := by decide +kernel
theorem dX11_act_31 : decode cX11_act 31 = .ok (.iaload, 1) := by decide +kernel
theorem dX11_act_32 : decode cX11_act 32 = .ok (.iastore, 1) := by decide +kernel
theorem dX11_act_33 : decode cX11_act 33 = .ok (.iinc 1 1, 3) := by decide +kernel
theorem dX11_act_36 : decode cX11_act 36 = .ok (.goto (-25), 3) := by decide +kernel
theorem dX11_act_39 : decode cX11_act 39 = .ok (.aload_n 0, 1) := by decide +kernel
theorem dX11_act_40 : decode cX11_act 40 = .ok (.dup, 1) := by decide +kernel
theorem dX11_act_41 : decode cX11_act 41 = .ok (.getfield 405, 3) := by decide +kernel
theorem dX11_act_44 : decode cX11_act 44 = .ok (.iconst 1, 1) := by decide +kernel
theorem dX11_act_45 : decode cX11_act 45 = .ok (.isub, 1) := by decide +kernel
theorem dX11_act_46 : decode cX11_act 46 = .ok (.putfield 405, 3) := by decide +kernel
theorem dX11_act_49 : decode cX11_act 49 = .ok (.iconst 0, 1) := by decide +kernel
theorem dX11_act_50 : decode cX11_act 50 = .ok (.istore_n 1, 1) := by decide +kernel
theorem dX11_act_51 : decode cX11_act 51 = .ok (.iload_n 1, 1) := by decide +kernel
theorem dX11_act_52 : decode cX11_act 52 = .ok (.bipush 39, 2) := by decide +kernel
theorem dX11_act_54 : decode cX11_act 54 = .ok (.if_icmp .ge 29, 3) := by decide +kernel
theorem dX11_act_57 : decode cX11_act 57 = .ok (.aload_n 0, 1) := by decide +kernel
theorem dX11_act_58 : decode cX11_act 58 = .ok (.getfield 99, 3) := by decide +kernel
theorem dX11_act_61 : decode cX11_act 61 = .ok (.bipush 39, 2) := by decide +kernel
theorem dX11_act_63 : decode cX11_act 63 = .ok (.aload_n 0, 1) := by decide +kernel
theorem dX11_act_64 : decode cX11_act 64 = .ok (.getfield 405, 3) := by decide +kernel
theorem dX11_act_67 : decode cX11_act 67 = .ok (.imul, 1) := by decide +kernel
theorem dX11_act_68 : decode cX11_act 68 = .ok (.iload_n 1, 1) := by decide +kernel
theorem dX11_act_69 : decode cX11_act 69 = .ok (.iadd, 1) := by decide +kernel
theorem dX11_act_70 : decode cX11_act 70 = .ok (.aload_n 0, 1) := by decide +kernel
theorem dX11_act_71 : decode cX11_act 71 = .ok (.getfield 93, 3) := by decide +kernel
theorem dX11_act_74 : decode cX11_act 74 = .ok (.iload_n 1, 1) := by decide +kernel
theorem dX11_act_75 : decode cX11_act 75 = .ok (.iaload, 1) := by decide +kernel
theorem dX11_act_76 : decode cX11_act 76 = .ok (.iastore, 1) := by decide +kernel
theorem dX11_act_77 : decode cX11_act 77 = .ok (.iinc 1 1, 3) := by decide +kernel
theorem dX11_act_80 : decode cX11_act 80 = .ok (.goto (-29), 3) := by decide +kernel
theorem dX11_act_83 : decode cX11_act 83 = .ok (.aload_n 0, 1) := by decide +kernel
theorem dX11_act_84 : decode cX11_act 84 = .ok (.dup, 1) := by decide +kernel
theorem dX11_act_85 : decode cX11_act 85 = .ok (.getfield 405, 3) := by decide +kernel
theorem dX11_act_88 : decode cX11_act 88 = .ok (.iconst 1, 1) := by decide +kernel
theorem dX11_act_89 : decode cX11_act 89 = .ok (.iadd, 1) := by decide +kernel
theorem dX11_act_90 : decode cX11_act 90 = .ok (.putfield 405, 3) := by decide +kernel
theorem dX11_act_93 : decode cX11_act 93 = .ok (.aload_n 0, 1) := by decide +kernel
theorem dX11_act_94 : decode cX11_act 94 = .ok (.iconst 0, 1) := by decide +kernel
theorem dX11_act_95 : decode cX11_act 95 = .ok (.putfield 408, 3) := by decide +kernel
theorem dX11_act_98 : decode cX11_act 98 = .ok (.aload_n 0, 1) := by decide +kernel
theorem dX11_act_99 : decode cX11_act 99 = .ok (.invokevirtual 449, 3) := by decide +kernel
theorem dX11_act_102 : decode cX11_act 102 = .ok (.return_, 1) := by decide +kernel
theorem dX11_add_0 : decode cX11_add 0 = .ok (.aload_n 0, 1) := by decide +kernel
theorem dX11_add_1 : decode cX11_add 1 = .ok (.getfield 21, 3) := by decide +kernel
theorem dX11_add_4 : decode cX11_add 4 = .ok (.aload_n 0, 1) := by decide +kernel
theorem dX11_add_5 : decode cX11_add 5 = .ok (.getfield 253, 3) := by decide +kernel
theorem dX11_add_8 : decode cX11_add 8 = .ok (.iload_n 1, 1) := by decide +kernel
theorem dX11_add_9 : decode cX11_add 9 = .ok (.iastore, 1) := by decide +kernel
theorem dX11_add_10 : decode cX11_add 10 = .ok (.aload_n 0, 1) := by decide +kernel
theorem dX11_add_11 : decode cX11_add 11 = .ok (.getfield 24, 3) := by decide +kernel
theorem dX11_add_14 : decode cX11_add 14 = .ok (.aload_n 0, 1) := by decide +kernel
theorem dX11_add_15 : decode cX11_add 15 = .ok (.getfield 253, 3) := by decide +kernel
theorem dX11_add_18 : decode cX11_add 18 = .ok (.iload_n 2, 1) := by decide +kernel
theorem dX11_add_19 : decode cX11_add 19 = .ok (.iastore, 1) := by decide +kernel
theorem dX11_add_20 : decode cX11_add 20 = .ok (.aload_n 0, 1) := by decide +kernel
theorem dX11_add_21 : decode cX11_add 21 = .ok (.dup, 1) := by decide +kernel
theorem dX11_add_22 : decode cX11_add 22 = .ok (.getfield 253, 3) := by decide +kernel
theorem dX11_add_25 : decode cX11_add 25 = .ok (.iconst 1, 1) := by decide +kernel
theorem dX11_add_26 : decode cX11_add 26 = .ok (.iadd, 1) := by decide +kernel
theorem dX11_add_27 : decode cX11_add 27 = .ok (.putfield 253, 3) := by decide +kernel
theorem dX11_add_30 : decode cX11_add 30 = .ok (.return_, 1) := by decide +kernel
theorem dX11_areTaken_0 : decode cX11_areTaken 0 = .ok (.aload_n 0, 1) := by decide +kernel
theorem dX11_areTaken_1 : decode cX11_areTaken 1 = .ok (.getfield 63, 3) := by decide +kernel
theorem dX11_areTaken_4 : decode cX11_areTaken 4 = .ok (.iload_n 1, 1) := by decide +kernel
theorem dX11_areTaken_5 : decode cX11_areTaken 5 = .ok (.iaload, 1) := by decide +kernel
theorem dX11_areTaken_6 : decode cX11_areTaken 6 = .ok (.aload_n 0, 1) := by decide +kernel
theorem dX11_areTaken_7 : decode cX11_areTaken 7 = .ok (.getfield 63, 3) := by decide +kernel
theorem dX11_areTaken_10 : decode cX11_areTaken 10 = .ok (.iload_n 2, 1) := by decide +kernel
theorem dX11_areTaken_11 : decode cX11_areTaken 11 = .ok (.iaload, 1) := by decide +kernel
theorem dX11_areTaken_12 : decode cX11_areTaken 12 = .ok (.isub, 1) := by decide +kernel
theorem dX11_areTaken_13 : decode cX11_areTaken 13 = .ok (.invokestatic 495, 3) := by decide +kernel
theorem dX11_areTaken_16 : decode cX11_areTaken 16 = .ok (.aload_n 0, 1) := by decide +kernel
theorem dX11_areTaken_17 : decode cX11_areTaken 17 = .ok (.getfield 90, 3) := by decide +kernel
theorem dX11_areTaken_20 : decode cX11_areTaken 20 = .ok (.if_icmp .gt 7, 3) := by decide +kernel
theorem dX11_areTaken_23 : decode cX11_areTaken 23 = .ok (.iconst 1, 1) := by decide +kernel
theorem dX11_areTaken_24 : decode cX11_areTaken 24 = .ok (.goto 4, 3) := by decide +kernel
theorem dX11_areTaken_27 : decode cX11_areTaken 27 = .ok (.iconst 0, 1) := by decide +kernel
theorem dX11_areTaken_28 : decode cX11_areTaken 28 = .ok (.ireturn, 1) := by decide +kernel
theorem dX11_ask_0 : decode cX11_ask 0 = .ok (.iload_n 1, 1) := by decide +kernel
theorem dX11_ask_1 : decode cX11_ask 1 = .ok (.iconst 0, 1) := by decide +kernel
theorem dX11_ask_2 : decode cX11_ask 2 = .ok (.iconst 1, 1) := by decide +kernel
theorem dX11_ask_3 : decode cX11_ask 3 = .ok (.invokestatic 417, 3) := by decide +kernel
theorem dX11_ask_6 : decode cX11_ask 6 = .ok (.ifCond .ne 5, 3) := by decide +kernel
theorem dX11_ask_9 : decode cX11_ask 9 = .ok (.iconst (-1), 1) := by decide +kernel
theorem dX11_ask_10 : decode cX11_ask 10 = .ok (.ireturn, 1) := by decide +kernel
theorem dX11_ask_11 : decode cX11_ask 11 = .ok (.aload_n 0, 1) := by decide +kernel
theorem dX11_ask_12 : decode cX11_ask 12 = .ok (.iload_n 2, 1) := by decide +kernel
theorem dX11_ask_13 : decode cX11_ask 13 = .ok (.invokevirtual 534, 3) := by decide +kernel
theorem dX11_ask_16 : decode cX11_ask 16 = .ok (.istore_n 3, 1) := by decide +kernel
theorem dX11_ask_17 : decode cX11_ask 17 = .ok (.iload_n 3, 1) := by decide +kernel
theorem dX11_ask_18 : decode cX11_ask 18 = .ok (.ifCond .ne 5, 3) := by decide +kernel
theorem dX11_ask_21 : decode cX11_ask 21 = .ok (.iconst (-1), 1) := by decide +kernel
theorem dX11_ask_22 : decode cX11_ask 22 = .ok (.ireturn, 1) := by decide +kernel
theorem dX11_ask_23 : decode cX11_ask 23 = .ok (.iconst 0, 1) := by decide +kernel
theorem dX11_ask_24 : decode cX11_ask 24 = .ok (.istore 4, 2) := by decide +kernel
theorem dX11_ask_26 : decode cX11_ask 26 = .ok (.iconst 1, 1) := by decide +kernel
theorem dX11_ask_27 : decode cX11_ask 27 = .ok (.istore 5, 2) := by decide +kernel
theorem dX11_ask_29 : decode cX11_ask 29 = .ok (.iload 5, 2) := by decide +kernel
theorem dX11_ask_31 : decode cX11_ask 31 = .ok (.bipush 20, 2) := by decide +kernel
theorem dX11_ask_33 : decode cX11_ask 33 = .ok (.if_icmp .gt 35, 3) := by decide +kernel
theorem dX11_ask_36 : decode cX11_ask 36 = .ok (.aload_n 0, 1) := by decide +kernel
theorem dX11_ask_37 : decode cX11_ask 37 = .ok (.iload 5, 2) := by decide +kernel
theorem dX11_ask_39 : decode cX11_ask 39 = .ok (.iload_n 3, 1) := by decide +kernel
theorem dX11_ask_40 : decode cX11_ask 40 = .ok (.invokevirtual 537, 3) := by decide +kernel
theorem dX11_ask_43 : decode cX11_ask 43 = .ok (.aload_n 0, 1) := by decide +kernel
theorem dX11_ask_44 : decode cX11_ask 44 = .ok (.iload 4, 2) := by decide +kernel
theorem dX11_ask_46 : decode cX11_ask 46 = .ok (.iload_n 3, 1) := by decide +kernel
theorem dX11_ask_47 : decode cX11_ask 47 = .ok (.invokevirtual 537, 3) := by decide +kernel
theorem dX11_ask_50 : decode cX11_ask 50 = .ok (.if_icmp .ge 8, 3) := by decide +kernel
theorem dX11_ask_53 : decode cX11_ask 53 = .ok (.iload 5, 2) := by decide +kernel
theorem dX11_ask_55 : decode cX11_ask 55 = .ok (.goto 5, 3) := by decide +kernel
theorem dX11_ask_58 : decode cX11_ask 58 = .ok (.iload 4, 2) := by decide +kernel
theorem dX11_ask_60 : decode cX11_ask 60 = .ok (.istore 4, 2) := by decide +kernel
theorem dX11_ask_62 : decode cX11_ask 62 = .ok (.iinc 5 1, 3) := by decide +kernel
theorem dX11_ask_65 : decode cX11_ask 65 = .ok (.goto (-36), 3) := by decide +kernel
theorem dX11_ask_68 : decode cX11_ask 68 = .ok (.iload_n 1, 1) := by decide +kernel
theorem dX11_ask_69 : decode cX11_ask 69 = .ok (.ifCond .ne 8, 3) := by decide +kernel
theorem dX11_ask_72 : decode cX11_ask 72 = .ok (.iload 4, 2) := by decide +kernel
theorem dX11_ask_74 : decode cX11_ask 74 = .ok (.goto 10, 3) := by decide +kernel
theorem dX11_ask_77 : decode cX11_ask 77 = .ok (.aload_n 0, 1) := by decide +kernel
theorem dX11_ask_78 : decode cX11_ask 78 = .ok (.iload 4, 2) := by decide +kernel
theorem dX11_ask_80 : decode cX11_ask 80 = .ok (.iload_n 3, 1) := by decide +kernel
theorem dX11_ask_81 : decode cX11_ask 81 = .ok (.invokevirtual 537, 3) := by decide +kernel
theorem dX11_ask_84 : decode cX11_ask 84 = .ok (.ireturn, 1) := by decide +kernel
theorem dX11_asked_0 : decode cX11_asked 0 = .ok (.aload_n 0, 1) := by decide +kernel
theorem dX11_asked_1 : decode cX11_asked 1 = .ok (.getfield 166, 3) := by decide +kernel
theorem dX11_asked_4 : decode cX11_asked 4 = .ok (.iconst 1, 1) := by decide +kernel
theorem dX11_asked_5 : decode cX11_asked 5 = .ok (.if_icmp .eq 5, 3) := by decide +kernel
theorem dX11_asked_8 : decode cX11_asked 8 = .ok (.iconst (-1), 1) := by decide +kernel
theorem dX11_asked_9 : decode cX11_asked 9 = .ok (.ireturn, 1) := by decide +kernel
theorem dX11_asked_10 : decode cX11_asked 10 = .ok (.aload_n 0, 1) := by decide +kernel
theorem dX11_asked_11 : decode cX11_asked 11 = .ok (.getfield 159, 3) := by decide +kernel
theorem dX11_asked_14 : decode cX11_asked 14 = .ok (.ldc2_w 208, 3) := by decide +kernel
theorem dX11_asked_17 : decode cX11_asked 17 = .ok (.lcmp, 1) := by decide +kernel
theorem dX11_asked_18 : decode cX11_asked 18 = .ok (.ifCond .ne 5, 3) := by decide +kernel
theorem dX11_asked_21 : decode cX11_asked 21 = .ok (.iconst 0, 1) := by decide +kernel
theorem dX11_asked_22 : decode cX11_asked 22 = .ok (.ireturn, 1) := by decide +kernel
theorem dX11_asked_23 : decode cX11_asked 23 = .ok (.aload_n 0, 1) := by decide +kernel
theorem dX11_asked_24 : decode cX11_asked 24 = .ok (.getfield 159, 3) := by decide +kernel
theorem dX11_asked_27 : decode cX11_asked 27 = .ok (.ldc2_w 210, 3) := by decide +kernel
theorem dX11_asked_30 : decode cX11_asked 30 = .ok (.lcmp, 1) := by decide +kernel
theorem dX11_asked_31 : decode cX11_asked 31 = .ok (.ifCond .ne 5, 3) := by decide +kernel
theorem dX11_asked_34 : decode cX11_asked 34 = .ok (.iconst 1, 1) := by decide +kernel
theorem dX11_asked_35 : decode cX11_asked 35 = .ok (.ireturn, 1) := by decide +kernel
theorem dX11_asked_36 : decode cX11_asked 36 = .ok (.aload_n 0, 1) := by decide +kernel
theorem dX11_asked_37 : decode cX11_asked 37 = .ok (.getfield 159, 3) := by decide +kernel
theorem dX11_asked_40 : decode cX11_asked 40 = .ok (.ldc2_w 212, 3) := by decide +kernel
theorem dX11_asked_43 : decode cX11_asked 43 = .ok (.lcmp, 1) := by decide +kernel
theorem dX11_asked_44 : decode cX11_asked 44 = .ok (.ifCond .ne 5, 3) := by decide +kernel
theorem dX11_asked_47 : decode cX11_asked 47 = .ok (.iconst 2, 1) := by decide +kernel
theorem dX11_asked_48 : decode cX11_asked 48 = .ok (.ireturn, 1) := by decide +kernel
theorem dX11_asked_49 : decode cX11_asked 49 = .ok (.aload_n 0, 1) := by decide +kernel
theorem dX11_asked_50 : decode cX11_asked 50 = .ok (.getfield 159, 3) := by decide +kernel
theorem dX11_asked_53 : decode cX11_asked 53 = .ok (.ldc2_w 214, 3) := by decide +kernel
theorem dX11_asked_56 : decode cX11_asked 56 = .ok (.lcmp, 1) := by decide +kernel
theorem dX11_asked_57 : decode cX11_asked 57 = .ok (.ifCond .ne 5, 3) := by decide +kernel
theorem dX11_asked_60 : decode cX11_asked 60 = .ok (.iconst 3, 1) := by decide +kernel
theorem dX11_asked_61 : decode cX11_asked 61 = .ok (.ireturn, 1) := by decide +kernel
theorem dX11_asked_62 : decode cX11_asked 62 = .ok (.aload_n 0, 1) := by decide +kernel
theorem dX11_asked_63 : decode cX11_asked 63 = .ok (.getfield 159, 3) := by decide +kernel
theorem dX11_asked_66 : decode cX11_asked 66 = .ok (.ldc2_w 194, 3) := by decide +kernel
theorem dX11_asked_69 : decode cX11_asked 69 = .ok (.lcmp, 1) := by decide +kernel
theorem dX11_asked_70 : decode cX11_asked 70 = .ok (.ifCond .ne 5, 3) := by decide +kernel
theorem dX11_asked_73 : decode cX11_asked 73 = .ok (.iconst 4, 1) := by decide +kernel
theorem dX11_asked_74 : decode cX11_asked 74 = .ok (.ireturn, 1) := by decide +kernel
theorem dX11_asked_75 : decode cX11_asked 75 = .ok (.aload_n 0, 1) := by decide +kernel
theorem dX11_asked_76 : decode cX11_asked 76 = .ok (.getfield 159, 3) := by decide +kernel
theorem dX11_asked_79 : decode cX11_asked 79 = .ok (.ldc2_w 216, 3) := by decide +kernel
theorem dX11_asked_82 : decode cX11_asked 82 = .ok (.lcmp, 1) := by decide +kernel
theorem dX11_asked_83 : decode cX11_asked 83 = .ok (.ifCond .ne 7, 3) := by decide +kernel
theorem dX11_asked_86 : decode cX11_asked 86 = .ok (.iconst 5, 1) := by decide +kernel
theorem dX11_asked_87 : decode cX11_asked 87 = .ok (.goto 4, 3) := by decide +kernel
theorem dX11_asked_90 : decode cX11_asked 90 = .ok (.iconst (-1), 1) := by decide +kernel
theorem dX11_asked_91 : decode cX11_asked 91 = .ok (.ireturn, 1) := by decide +kernel
theorem dX11_back_0 : decode cX11_back 0 = .ok (.iload_n 1, 1) := by decide +kernel
theorem dX11_back_1 : decode cX11_back 1 = .ok (.invokestatic 540, 3) := by decide +kernel
theorem dX11_back_4 : decode cX11_back 4 = .ok (.ifCond .eq 12, 3) := by decide +kernel
theorem dX11_back_7 : decode cX11_back 7 = .ok (.aload_n 0, 1) := by decide +kernel
theorem dX11_back_8 : decode cX11_back 8 = .ok (.getfield 133, 3) := by decide +kernel
theorem dX11_back_11 : decode cX11_back 11 = .ok (.iload_n 1, 1) := by decide +kernel
theorem dX11_back_12 : decode cX11_back 12 = .ok (.baload, 1) := by decide +kernel
theorem dX11_back_13 : decode cX11_back 13 = .ok (.ifCond .ne 5, 3) := by decide +kernel
theorem dX11_back_16 : decode cX11_back 16 = .ok (.iconst (-1), 1) := by decide +kernel
theorem dX11_back_17 : decode cX11_back 17 = .ok (.ireturn, 1) := by decide +kernel
theorem dX11_back_18 : decode cX11_back 18 = .ok (.iconst 0, 1) := by decide +kernel
theorem dX11_back_19 : decode cX11_back 19 = .ok (.istore_n 2, 1) := by decide +kernel
theorem dX11_back_20 : decode cX11_back 20 = .ok (.iload_n 2, 1) := by decide +kernel
theorem dX11_back_21 : decode cX11_back 21 = .ok (.bipush 39, 2) := by decide +kernel
theorem dX11_back_23 : decode cX11_back 23 = .ok (.if_icmp .ge 26, 3) := by decide +kernel
theorem dX11_back_26 : decode cX11_back 26 = .ok (.aload_n 0, 1) := by decide +kernel
theorem dX11_back_27 : decode cX11_back 27 = .ok (.getfield 93, 3) := by decide +kernel
theorem dX11_back_30 : decode cX11_back 30 = .ok (.iload_n 2, 1) := by decide +kernel
theorem dX11_back_31 : decode cX11_back 31 = .ok (.aload_n 0, 1) := by decide +kernel
theorem dX11_back_32 : decode cX11_back 32 = .ok (.getfield 136, 3) := by decide +kernel
theorem dX11_back_35 : decode cX11_back 35 = .ok (.bipush 39, 2) := by decide +kernel
theorem dX11_back_37 : decode cX11_back 37 = .ok (.iload_n 1, 1) := by decide +kernel
theorem dX11_back_38 : decode cX11_back 38 = .ok (.imul, 1) := by decide +kernel
theorem dX11_back_39 : decode cX11_back 39 = .ok (.iload_n 2, 1) := by decide +kernel
theorem dX11_back_40 : decode cX11_back 40 = .ok (.iadd, 1) := by decide +kernel
theorem dX11_back_41 : decode cX11_back 41 = .ok (.iaload, 1) := by decide +kernel
theorem dX11_back_42 : decode cX11_back 42 = .ok (.iastore, 1) := by decide +kernel
theorem dX11_back_43 : decode cX11_back 43 = .ok (.iinc 2 1, 3) := by decide +kernel
theorem dX11_back_46 : decode cX11_back 46 = .ok (.goto (-26), 3) := by decide +kernel
theorem dX11_back_49 : decode cX11_back 49 = .ok (.aload_n 0, 1) := by decide +kernel
theorem dX11_back_50 : decode cX11_back 50 = .ok (.iconst 0, 1) := by decide +kernel
theorem dX11_back_51 : decode cX11_back 51 = .ok (.putfield 405, 3) := by decide +kernel
theorem dX11_back_54 : decode cX11_back 54 = .ok (.aload_n 0, 1) := by decide +kernel
theorem dX11_back_55 : decode cX11_back 55 = .ok (.iconst 0, 1) := by decide +kernel
theorem dX11_back_56 : decode cX11_back 56 = .ok (.putfield 408, 3) := by decide +kernel
theorem dX11_back_59 : decode cX11_back 59 = .ok (.aload_n 0, 1) := by decide +kernel
theorem dX11_back_60 : decode cX11_back 60 = .ok (.getfield 93, 3) := by decide +kernel
theorem dX11_back_63 : decode cX11_back 63 = .ok (.bipush 37, 2) := by decide +kernel
theorem dX11_back_65 : decode cX11_back 65 = .ok (.iaload, 1) := by decide +kernel
theorem dX11_back_66 : decode cX11_back 66 = .ok (.ireturn, 1) := by decide +kernel
theorem dX11_begin_0 : decode cX11_begin 0 = .ok (.iconst 0, 1) := by decide +kernel
theorem dX11_begin_1 : decode cX11_begin 1 = .ok (.istore_n 1, 1) := by decide +kernel
theorem dX11_begin_2 : decode cX11_begin 2 = .ok (.iload_n 1, 1) := by decide +kernel
theorem dX11_begin_3 : decode cX11_begin 3 = .ok (.bipush 39, 2) := by decide +kernel
theorem dX11_begin_5 : decode cX11_begin 5 = .ok (.if_icmp .ge 16, 3) := by decide +kernel
theorem dX11_begin_8 : decode cX11_begin 8 = .ok (.aload_n 0, 1) := by decide +kernel
theorem dX11_begin_9 : decode cX11_begin 9 = .ok (.getfield 96, 3) := by decide +kernel
theorem dX11_begin_12 : decode cX11_begin 12 = .ok (.iload_n 1, 1) := by decide +kernel
theorem dX11_begin_13 : decode cX11_begin 13 = .ok (.iconst 0, 1) := by decide +kernel
theorem dX11_begin_14 : decode cX11_begin 14 = .ok (.iastore, 1) := by decide +kernel
theorem dX11_begin_15 : decode cX11_begin 15 = .ok (.iinc 1 1, 3) := by decide +kernel
theorem dX11_begin_18 : decode cX11_begin 18 = .ok (.goto (-16), 3) := by decide +kernel
theorem dX11_begin_21 : decode cX11_begin 21 = .ok (.iconst 0, 1) := by decide +kernel
theorem dX11_begin_22 : decode cX11_begin 22 = .ok (.istore_n 1, 1) := by decide +kernel
theorem dX11_begin_23 : decode cX11_begin 23 = .ok (.iload_n 1, 1) := by decide +kernel
theorem dX11_begin_24 : decode cX11_begin 24 = .ok (.aload_n 0, 1) := by decide +kernel
theorem dX11_begin_25 : decode cX11_begin 25 = .ok (.getfield 387, 3) := by decide +kernel
theorem dX11_begin_28 : decode cX11_begin 28 = .ok (.if_icmp .ge 31, 3) := by decide +kernel
theorem dX11_begin_31 : decode cX11_begin 31 = .ok (.aload_n 0, 1) := by decide +kernel
theorem dX11_begin_32 : decode cX11_begin 32 = .ok (.getfield 96, 3) := by decide +kernel
theorem dX11_begin_35 : decode cX11_begin 35 = .ok (.iload_n 1, 1) := by decide +kernel
theorem dX11_begin_36 : decode cX11_begin 36 = .ok (.aload_n 0, 1) := by decide +kernel
theorem dX11_begin_37 : decode cX11_begin 37 = .ok (.getfield 66, 3) := by decide +kernel
theorem dX11_begin_40 : decode cX11_begin 40 = .ok (.iload_n 1, 1) := by decide +kernel
theorem dX11_begin_41 : decode cX11_begin 41 = .ok (.iaload, 1) := by decide +kernel
theorem dX11_begin_42 : decode cX11_begin 42 = .ok (.iastore, 1) := by decide +kernel
theorem dX11_begin_43 : decode cX11_begin 43 = .ok (.aload_n 0, 1) := by decide +kernel
theorem dX11_begin_44 : decode cX11_begin 44 = .ok (.getfield 96, 3) := by decide +kernel
theorem dX11_begin_47 : decode cX11_begin 47 = .ok (.bipush 6, 2) := by decide +kernel
theorem dX11_begin_49 : decode cX11_begin 49 = .ok (.iload_n 1, 1) := by decide +kernel
theorem dX11_begin_50 : decode cX11_begin 50 = .ok (.iadd, 1) := by decide +kernel
theorem dX11_begin_51 : decode cX11_begin 51 = .ok (.iconst (-1), 1) := by decide +kernel
theorem dX11_begin_52 : decode cX11_begin 52 = .ok (.iastore, 1) := by decide +kernel
theorem dX11_begin_53 : decode cX11_begin 53 = .ok (.iinc 1 1, 3) := by decide +kernel
theorem dX11_begin_56 : decode cX11_begin 56 = .ok (.goto (-33), 3) := by decide +kernel
theorem dX11_begin_59 : decode cX11_begin 59 = .ok (.iconst 0, 1) := by decide +kernel
theorem dX11_begin_60 : decode cX11_begin 60 = .ok (.istore_n 1, 1) := by decide +kernel
theorem dX11_begin_61 : decode cX11_begin 61 = .ok (.iload_n 1, 1) := by decide +kernel
theorem dX11_begin_62 : decode cX11_begin 62 = .ok (.aload_n 0, 1) := by decide +kernel
theorem dX11_begin_63 : decode cX11_begin 63 = .ok (.getfield 390, 3) := by decide +kernel
theorem dX11_begin_66 : decode cX11_begin 66 = .ok (.if_icmp .ge 69, 3) := by decide +kernel
theorem dX11_begin_69 : decode cX11_begin 69 = .ok (.aload_n 0, 1) := by decide +kernel
theorem dX11_begin_70 : decode cX11_begin 70 = .ok (.getfield 96, 3) := by decide +kernel
theorem dX11_begin_73 : decode cX11_begin 73 = .ok (.bipush 12, 2) := by decide +kernel
theorem dX11_begin_75 : decode cX11_begin 75 = .ok (.iload_n 1, 1) := by decide +kernel
theorem dX11_begin_76 : decode cX11_begin 76 = .ok (.iadd, 1) := by decide +kernel
theorem dX11_begin_77 : decode cX11_begin 77 = .ok (.aload_n 0, 1) := by decide +kernel
theorem dX11_begin_78 : decode cX11_begin 78 = .ok (.getfield 72, 3) := by decide +kernel
theorem dX11_begin_81 : decode cX11_begin 81 = .ok (.iload_n 1, 1) := by decide +kernel
theorem dX11_begin_82 : decode cX11_begin 82 = .ok (.iaload, 1) := by decide +kernel
theorem dX11_begin_83 : decode cX11_begin 83 = .ok (.iastore, 1) := by decide +kernel
theorem dX11_begin_84 : decode cX11_begin 84 = .ok (.aload_n 0, 1) := by decide +kernel
theorem dX11_begin_85 : decode cX11_begin 85 = .ok (.getfield 96, 3) := by decide +kernel
theorem dX11_begin_88 : decode cX11_begin 88 = .ok (.bipush 18, 2) := by decide +kernel
theorem dX11_begin_90 : decode cX11_begin 90 = .ok (.iload_n 1, 1) := by decide +kernel
theorem dX11_begin_91 : decode cX11_begin 91 = .ok (.iadd, 1) := by decide +kernel
theorem dX11_begin_92 : decode cX11_begin 92 = .ok (.aload_n 0, 1) := by decide +kernel
theorem dX11_begin_93 : decode cX11_begin 93 = .ok (.getfield 75, 3) := by decide +kernel
theorem dX11_begin_96 : decode cX11_begin 96 = .ok (.iload_n 1, 1) := by decide +kernel
theorem dX11_begin_97 : decode cX11_begin 97 = .ok (.iaload, 1) := by decide +kernel
theorem dX11_begin_98 : decode cX11_begin 98 = .ok (.iastore, 1) := by decide +kernel
theorem dX11_begin_99 : decode cX11_begin 99 = .ok (.aload_n 0, 1) := by decide +kernel
theorem dX11_begin_100 : decode cX11_begin 100 = .ok (.getfield 96, 3) := by decide +kernel
theorem dX11_begin_103 : decode cX11_begin 103 = .ok (.bipush 24, 2) := by decide +kernel
theorem dX11_begin_105 : decode cX11_begin 105 = .ok (.iload_n 1, 1) := by decide +kernel
theorem dX11_begin_106 : decode cX11_begin 106 = .ok (.iadd, 1) := by decide +kernel
