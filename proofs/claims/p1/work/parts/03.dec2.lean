theorem dX11_buttons_10 : decode cX11_buttons 10 = .ok (.iload_n 1, 1) := by decide +kernel
theorem dX11_buttons_11 : decode cX11_buttons 11 = .ok (.aload_n 0, 1) := by decide +kernel
theorem dX11_buttons_12 : decode cX11_buttons 12 = .ok (.getfield 387, 3) := by decide +kernel
theorem dX11_buttons_15 : decode cX11_buttons 15 = .ok (.if_icmp .gt 71, 3) := by decide +kernel
theorem dX11_buttons_86 : decode cX11_buttons 86 = .ok (.iconst 0, 1) := by decide +kernel
theorem dX11_buttons_87 : decode cX11_buttons 87 = .ok (.ireturn, 1) := by decide +kernel
theorem dX11_change_0 : decode cX11_change 0 = .ok (.iload_n 1, 1) := by decide +kernel
theorem dX11_change_1 : decode cX11_change 1 = .ok (.iconst 0, 1) := by decide +kernel
theorem dX11_change_2 : decode cX11_change 2 = .ok (.iconst 2, 1) := by decide +kernel
theorem dX11_change_3 : decode cX11_change 3 = .ok (.invokestatic 417, 3) := by decide +kernel
theorem dX11_change_6 : decode cX11_change 6 = .ok (.ifCond .ne 5, 3) := by decide +kernel
theorem dX11_change_9 : decode cX11_change 9 = .ok (.iconst (-1), 1) := by decide +kernel
theorem dX11_change_10 : decode cX11_change 10 = .ok (.ireturn, 1) := by decide +kernel
theorem dX11_change_11 : decode cX11_change 11 = .ok (.aload_n 0, 1) := by decide +kernel
theorem dX11_change_12 : decode cX11_change 12 = .ok (.invokevirtual 489, 3) := by decide +kernel
theorem dX11_change_15 : decode cX11_change 15 = .ok (.invokestatic 486, 3) := by decide +kernel
theorem dX11_change_18 : decode cX11_change 18 = .ok (.istore_n 2, 1) := by decide +kernel
theorem dX11_change_19 : decode cX11_change 19 = .ok (.iconst (-1), 1) := by decide +kernel
theorem dX11_change_20 : decode cX11_change 20 = .ok (.istore_n 3, 1) := by decide +kernel
theorem dX11_change_21 : decode cX11_change 21 = .ok (.iconst 0, 1) := by decide +kernel
theorem dX11_change_22 : decode cX11_change 22 = .ok (.istore 4, 2) := by decide +kernel
theorem dX11_change_24 : decode cX11_change 24 = .ok (.iload 4, 2) := by decide +kernel
theorem dX11_change_26 : decode cX11_change 26 = .ok (.aload_n 0, 1) := by decide +kernel
theorem dX11_change_27 : decode cX11_change 27 = .ok (.getfield 387, 3) := by decide +kernel
theorem dX11_change_30 : decode cX11_change 30 = .ok (.if_icmp .ge 104, 3) := by decide +kernel
theorem dX11_change_134 : decode cX11_change 134 = .ok (.iload_n 3, 1) := by decide +kernel
theorem dX11_change_135 : decode cX11_change 135 = .ok (.ifCond .ge 7, 3) := by decide +kernel
theorem dX11_change_138 : decode cX11_change 138 = .ok (.iconst (-1), 1) := by decide +kernel
theorem dX11_change_139 : decode cX11_change 139 = .ok (.goto 27, 3) := by decide +kernel
theorem dX11_change_166 : decode cX11_change 166 = .ok (.ireturn, 1) := by decide +kernel
theorem dX11_cloth_0 : decode cX11_cloth 0 = .ok (.aload_n 0, 1) := by decide +kernel
theorem dX11_cloth_1 : decode cX11_cloth 1 = .ok (.getfield 111, 3) := by decide +kernel
theorem dX11_cloth_4 : decode cX11_cloth 4 = .ok (.iconst 0, 1) := by decide +kernel
theorem dX11_cloth_5 : decode cX11_cloth 5 = .ok (.iconst 0, 1) := by decide +kernel
theorem dX11_cloth_6 : decode cX11_cloth 6 = .ok (.iastore, 1) := by decide +kernel
theorem dX11_cloth_7 : decode cX11_cloth 7 = .ok (.iconst 1, 1) := by decide +kernel
theorem dX11_cloth_8 : decode cX11_cloth 8 = .ok (.istore_n 1, 1) := by decide +kernel
theorem dX11_cloth_9 : decode cX11_cloth 9 = .ok (.iload_n 1, 1) := by decide +kernel
theorem dX11_cloth_10 : decode cX11_cloth 10 = .ok (.iconst 1, 1) := by decide +kernel
theorem dX11_cloth_11 : decode cX11_cloth 11 = .ok (.aload_n 0, 1) := by decide +kernel
theorem dX11_cloth_12 : decode cX11_cloth 12 = .ok (.getfield 390, 3) := by decide +kernel
theorem dX11_cloth_15 : decode cX11_cloth 15 = .ok (.ishl, 1) := by decide +kernel
theorem dX11_cloth_16 : decode cX11_cloth 16 = .ok (.if_icmp .ge 70, 3) := by decide +kernel
theorem dX11_cloth_86 : decode cX11_cloth 86 = .ok (.aload_n 0, 1) := by decide +kernel
theorem dX11_cloth_87 : decode cX11_cloth 87 = .ok (.getfield 111, 3) := by decide +kernel
theorem dX11_cloth_90 : decode cX11_cloth 90 = .ok (.iconst 1, 1) := by decide +kernel
theorem dX11_cloth_91 : decode cX11_cloth 91 = .ok (.aload_n 0, 1) := by decide +kernel
theorem dX11_cloth_92 : decode cX11_cloth 92 = .ok (.getfield 390, 3) := by decide +kernel
theorem dX11_cloth_95 : decode cX11_cloth 95 = .ok (.ishl, 1) := by decide +kernel
theorem dX11_cloth_96 : decode cX11_cloth 96 = .ok (.iconst 1, 1) := by decide +kernel
theorem dX11_cloth_97 : decode cX11_cloth 97 = .ok (.isub, 1) := by decide +kernel
theorem dX11_cloth_98 : decode cX11_cloth 98 = .ok (.iaload, 1) := by decide +kernel
theorem dX11_cloth_99 : decode cX11_cloth 99 = .ok (.istore_n 1, 1) := by decide +kernel
theorem dX11_cloth_100 : decode cX11_cloth 100 = .ok (.iload_n 1, 1) := by decide +kernel
theorem dX11_cloth_101 : decode cX11_cloth 101 = .ok (.ldc_w 498, 3) := by decide +kernel
theorem dX11_cloth_104 : decode cX11_cloth 104 = .ok (.if_icmp .lt 7, 3) := by decide +kernel
theorem dX11_cloth_111 : decode cX11_cloth 111 = .ok (.iload_n 1, 1) := by decide +kernel
theorem dX11_cloth_112 : decode cX11_cloth 112 = .ok (.ireturn, 1) := by decide +kernel
theorem dX11_coat_0 : decode cX11_coat 0 = .ok (.aload_n 0, 1) := by decide +kernel
theorem dX11_coat_1 : decode cX11_coat 1 = .ok (.iload_n 1, 1) := by decide +kernel
theorem dX11_coat_2 : decode cX11_coat 2 = .ok (.invokevirtual 455, 3) := by decide +kernel
theorem dX11_coat_5 : decode cX11_coat 5 = .ok (.ifCond .ne 6, 3) := by decide +kernel
theorem dX11_coat_8 : decode cX11_coat 8 = .ok (.bipush (-2), 2) := by decide +kernel
theorem dX11_coat_10 : decode cX11_coat 10 = .ok (.ireturn, 1) := by decide +kernel
theorem dX11_day_0 : decode cX11_day 0 = .ok (.aload_n 0, 1) := by decide +kernel
theorem dX11_day_1 : decode cX11_day 1 = .ok (.getfield 93, 3) := by decide +kernel
theorem dX11_day_4 : decode cX11_day 4 = .ok (.bipush 37, 2) := by decide +kernel
theorem dX11_day_6 : decode cX11_day 6 = .ok (.iaload, 1) := by decide +kernel
theorem dX11_day_7 : decode cX11_day 7 = .ok (.sipush 999, 3) := by decide +kernel
theorem dX11_day_10 : decode cX11_day 10 = .ok (.if_icmp .ne 5, 3) := by decide +kernel
theorem dX11_day_15 : decode cX11_day 15 = .ok (.aload_n 0, 1) := by decide +kernel
theorem dX11_day_16 : decode cX11_day 16 = .ok (.invokevirtual 458, 3) := by decide +kernel
theorem dX11_day_19 : decode cX11_day 19 = .ok (.aload_n 0, 1) := by decide +kernel
theorem dX11_day_20 : decode cX11_day 20 = .ok (.invokevirtual 461, 3) := by decide +kernel
theorem dX11_day_23 : decode cX11_day 23 = .ok (.istore_n 1, 1) := by decide +kernel
theorem dX11_day_24 : decode cX11_day 24 = .ok (.aload_n 0, 1) := by decide +kernel
theorem dX11_day_25 : decode cX11_day 25 = .ok (.iload_n 1, 1) := by decide +kernel
theorem dX11_day_26 : decode cX11_day 26 = .ok (.invokevirtual 464, 3) := by decide +kernel
theorem dX11_day_29 : decode cX11_day 29 = .ok (.istore_n 2, 1) := by decide +kernel
theorem dX11_day_30 : decode cX11_day 30 = .ok (.aload_n 0, 1) := by decide +kernel
theorem dX11_day_31 : decode cX11_day 31 = .ok (.invokevirtual 402, 3) := by decide +kernel
theorem dX11_day_34 : decode cX11_day 34 = .ok (.iload_n 2, 1) := by decide +kernel
theorem dX11_day_35 : decode cX11_day 35 = .ok (.ireturn, 1) := by decide +kernel
theorem dX11_divisor_0 : decode cX11_divisor 0 = .ok (.iload_n 0, 1) := by decide +kernel
theorem dX11_divisor_1 : decode cX11_divisor 1 = .ok (.istore_n 2, 1) := by decide +kernel
theorem dX11_divisor_2 : decode cX11_divisor 2 = .ok (.iload_n 1, 1) := by decide +kernel
theorem dX11_divisor_3 : decode cX11_divisor 3 = .ok (.istore_n 3, 1) := by decide +kernel
theorem dX11_divisor_4 : decode cX11_divisor 4 = .ok (.iload_n 3, 1) := by decide +kernel
theorem dX11_divisor_5 : decode cX11_divisor 5 = .ok (.ifCond .le 16, 3) := by decide +kernel
theorem dX11_divisor_8 : decode cX11_divisor 8 = .ok (.iload_n 2, 1) := by decide +kernel
theorem dX11_divisor_9 : decode cX11_divisor 9 = .ok (.iload_n 3, 1) := by decide +kernel
theorem dX11_divisor_10 : decode cX11_divisor 10 = .ok (.irem, 1) := by decide +kernel
theorem dX11_divisor_11 : decode cX11_divisor 11 = .ok (.istore 4, 2) := by decide +kernel
theorem dX11_divisor_13 : decode cX11_divisor 13 = .ok (.iload_n 3, 1) := by decide +kernel
theorem dX11_divisor_14 : decode cX11_divisor 14 = .ok (.istore_n 2, 1) := by decide +kernel
theorem dX11_divisor_15 : decode cX11_divisor 15 = .ok (.iload 4, 2) := by decide +kernel
theorem dX11_divisor_17 : decode cX11_divisor 17 = .ok (.istore_n 3, 1) := by decide +kernel
theorem dX11_divisor_18 : decode cX11_divisor 18 = .ok (.goto (-14), 3) := by decide +kernel
theorem dX11_divisor_21 : decode cX11_divisor 21 = .ok (.iload_n 2, 1) := by decide +kernel
theorem dX11_divisor_22 : decode cX11_divisor 22 = .ok (.ireturn, 1) := by decide +kernel
theorem dX11_doff_0 : decode cX11_doff 0 = .ok (.aload_n 0, 1) := by decide +kernel
theorem dX11_doff_1 : decode cX11_doff 1 = .ok (.iload_n 1, 1) := by decide +kernel
theorem dX11_doff_2 : decode cX11_doff 2 = .ok (.invokevirtual 446, 3) := by decide +kernel
theorem dX11_doff_5 : decode cX11_doff 5 = .ok (.ifCond .eq 15, 3) := by decide +kernel
theorem dX11_doff_20 : decode cX11_doff 20 = .ok (.iconst (-1), 1) := by decide +kernel
theorem dX11_doff_21 : decode cX11_doff 21 = .ok (.ireturn, 1) := by decide +kernel
theorem dX11_don_0 : decode cX11_don 0 = .ok (.aload_n 0, 1) := by decide +kernel
theorem dX11_don_1 : decode cX11_don 1 = .ok (.invokevirtual 449, 3) := by decide +kernel
theorem dX11_don_4 : decode cX11_don 4 = .ok (.aload_n 0, 1) := by decide +kernel
theorem dX11_don_5 : decode cX11_don 5 = .ok (.iload_n 1, 1) := by decide +kernel
theorem dX11_don_6 : decode cX11_don 6 = .ok (.invokevirtual 446, 3) := by decide +kernel
theorem dX11_don_9 : decode cX11_don 9 = .ok (.ifCond .eq 19, 3) := by decide +kernel
theorem dX11_don_28 : decode cX11_don 28 = .ok (.bipush (-2), 2) := by decide +kernel
theorem dX11_don_30 : decode cX11_don 30 = .ok (.ireturn, 1) := by decide +kernel
theorem dX11_drawRain_0 : decode cX11_drawRain 0 = .ok (.aload_n 0, 1) := by decide +kernel
theorem dX11_drawRain_1 : decode cX11_drawRain 1 = .ok (.getfield 96, 3) := by decide +kernel
theorem dX11_drawRain_4 : decode cX11_drawRain 4 = .ok (.bipush 38, 2) := by decide +kernel
theorem dX11_drawRain_6 : decode cX11_drawRain 6 = .ok (.aload_n 0, 1) := by decide +kernel
theorem dX11_drawRain_7 : decode cX11_drawRain 7 = .ok (.getfield 96, 3) := by decide +kernel
theorem dX11_drawRain_10 : decode cX11_drawRain 10 = .ok (.bipush 38, 2) := by decide +kernel
theorem dX11_drawRain_12 : decode cX11_drawRain 12 = .ok (.iaload, 1) := by decide +kernel
theorem dX11_drawRain_13 : decode cX11_drawRain 13 = .ok (.sipush 137, 3) := by decide +kernel
theorem dX11_drawRain_16 : decode cX11_drawRain 16 = .ok (.imul, 1) := by decide +kernel
theorem dX11_drawRain_17 : decode cX11_drawRain 17 = .ok (.bipush 71, 2) := by decide +kernel
theorem dX11_drawRain_19 : decode cX11_drawRain 19 = .ok (.iadd, 1) := by decide +kernel
theorem dX11_drawRain_20 : decode cX11_drawRain 20 = .ok (.sipush 1000, 3) := by decide +kernel
theorem dX11_drawRain_23 : decode cX11_drawRain 23 = .ok (.irem, 1) := by decide +kernel
theorem dX11_drawRain_24 : decode cX11_drawRain 24 = .ok (.iastore, 1) := by decide +kernel
theorem dX11_drawRain_25 : decode cX11_drawRain 25 = .ok (.aload_n 0, 1) := by decide +kernel
theorem dX11_drawRain_26 : decode cX11_drawRain 26 = .ok (.getfield 96, 3) := by decide +kernel
theorem dX11_drawRain_29 : decode cX11_drawRain 29 = .ok (.bipush 38, 2) := by decide +kernel
theorem dX11_drawRain_31 : decode cX11_drawRain 31 = .ok (.iaload, 1) := by decide +kernel
theorem dX11_drawRain_32 : decode cX11_drawRain 32 = .ok (.bipush 100, 2) := by decide +kernel
theorem dX11_drawRain_34 : decode cX11_drawRain 34 = .ok (.irem, 1) := by decide +kernel
theorem dX11_drawRain_35 : decode cX11_drawRain 35 = .ok (.aload_n 0, 1) := by decide +kernel
theorem dX11_drawRain_36 : decode cX11_drawRain 36 = .ok (.getfield 393, 3) := by decide +kernel
theorem dX11_drawRain_39 : decode cX11_drawRain 39 = .ok (.if_icmp .ge 7, 3) := by decide +kernel
theorem dX11_drawRain_46 : decode cX11_drawRain 46 = .ok (.iconst 0, 1) := by decide +kernel
theorem dX11_drawRain_47 : decode cX11_drawRain 47 = .ok (.ireturn, 1) := by decide +kernel
theorem dX11_dress_0 : decode cX11_dress 0 = .ok (.iload_n 1, 1) := by decide +kernel
theorem dX11_dress_1 : decode cX11_dress 1 = .ok (.iconst 0, 1) := by decide +kernel
theorem dX11_dress_2 : decode cX11_dress 2 = .ok (.iconst 1, 1) := by decide +kernel
theorem dX11_dress_3 : decode cX11_dress 3 = .ok (.invokestatic 417, 3) := by decide +kernel
theorem dX11_dress_6 : decode cX11_dress 6 = .ok (.ifCond .ne 5, 3) := by decide +kernel
theorem dX11_dress_9 : decode cX11_dress 9 = .ok (.iconst (-1), 1) := by decide +kernel
theorem dX11_dress_10 : decode cX11_dress 10 = .ok (.ireturn, 1) := by decide +kernel
theorem dX11_dress_11 : decode cX11_dress 11 = .ok (.aload_n 0, 1) := by decide +kernel
theorem dX11_dress_12 : decode cX11_dress 12 = .ok (.invokevirtual 470, 3) := by decide +kernel
theorem dX11_dress_15 : decode cX11_dress 15 = .ok (.iconst (-1), 1) := by decide +kernel
theorem dX11_dress_16 : decode cX11_dress 16 = .ok (.istore_n 2, 1) := by decide +kernel
theorem dX11_dress_17 : decode cX11_dress 17 = .ok (.iconst 0, 1) := by decide +kernel
theorem dX11_dress_18 : decode cX11_dress 18 = .ok (.istore_n 3, 1) := by decide +kernel
theorem dX11_dress_19 : decode cX11_dress 19 = .ok (.iconst 0, 1) := by decide +kernel
theorem dX11_dress_20 : decode cX11_dress 20 = .ok (.istore 4, 2) := by decide +kernel
theorem dX11_dress_22 : decode cX11_dress 22 = .ok (.iload 4, 2) := by decide +kernel
theorem dX11_dress_24 : decode cX11_dress 24 = .ok (.aload_n 0, 1) := by decide +kernel
theorem dX11_dress_25 : decode cX11_dress 25 = .ok (.getfield 390, 3) := by decide +kernel
theorem dX11_dress_28 : decode cX11_dress 28 = .ok (.iconst 1, 1) := by decide +kernel
theorem dX11_dress_29 : decode cX11_dress 29 = .ok (.iadd, 1) := by decide +kernel
theorem dX11_dress_30 : decode cX11_dress 30 = .ok (.aload_n 0, 1) := by decide +kernel
theorem dX11_dress_31 : decode cX11_dress 31 = .ok (.getfield 387, 3) := by decide +kernel
theorem dX11_dress_34 : decode cX11_dress 34 = .ok (.invokestatic 473, 3) := by decide +kernel
theorem dX11_dress_37 : decode cX11_dress 37 = .ok (.if_icmp .ge 85, 3) := by decide +kernel
theorem dX11_dress_40 : decode cX11_dress 40 = .ok (.aload_n 0, 1) := by decide +kernel
theorem dX11_dress_41 : decode cX11_dress 41 = .ok (.iload 4, 2) := by decide +kernel
theorem dX11_dress_43 : decode cX11_dress 43 = .ok (.invokevirtual 476, 3) := by decide +kernel
theorem dX11_dress_46 : decode cX11_dress 46 = .ok (.istore 5, 2) := by decide +kernel
theorem dX11_dress_48 : decode cX11_dress 48 = .ok (.iload 5, 2) := by decide +kernel
theorem dX11_dress_50 : decode cX11_dress 50 = .ok (.ifCond .lt 66, 3) := by decide +kernel
theorem dX11_dress_53 : decode cX11_dress 53 = .ok (.iload 5, 2) := by decide +kernel
theorem dX11_dress_55 : decode cX11_dress 55 = .ok (.iload_n 2, 1) := by decide +kernel
theorem dX11_dress_56 : decode cX11_dress 56 = .ok (.if_icmp .lt 60, 3) := by decide +kernel
theorem dX11_dress_59 : decode cX11_dress 59 = .ok (.iload 5, 2) := by decide +kernel
theorem dX11_dress_61 : decode cX11_dress 61 = .ok (.iload_n 2, 1) := by decide +kernel
theorem dX11_dress_62 : decode cX11_dress 62 = .ok (.if_icmp .ne 14, 3) := by decide +kernel
theorem dX11_dress_76 : decode cX11_dress 76 = .ok (.iload 5, 2) := by decide +kernel
theorem dX11_dress_78 : decode cX11_dress 78 = .ok (.istore_n 2, 1) := by decide +kernel
theorem dX11_dress_79 : decode cX11_dress 79 = .ok (.aload_n 0, 1) := by decide +kernel
theorem dX11_dress_80 : decode cX11_dress 80 = .ok (.invokevirtual 479, 3) := by decide +kernel
theorem dX11_dress_83 : decode cX11_dress 83 = .ok (.istore_n 3, 1) := by decide +kernel
theorem dX11_dress_84 : decode cX11_dress 84 = .ok (.iconst 0, 1) := by decide +kernel
theorem dX11_dress_85 : decode cX11_dress 85 = .ok (.istore 6, 2) := by decide +kernel
theorem dX11_dress_87 : decode cX11_dress 87 = .ok (.iload 6, 2) := by decide +kernel
theorem dX11_dress_89 : decode cX11_dress 89 = .ok (.aload_n 0, 1) := by decide +kernel
theorem dX11_dress_90 : decode cX11_dress 90 = .ok (.getfield 387, 3) := by decide +kernel
theorem dX11_dress_93 : decode cX11_dress 93 = .ok (.if_icmp .ge 23, 3) := by decide +kernel
theorem dX11_dress_116 : decode cX11_dress 116 = .ok (.iinc 4 1, 3) := by decide +kernel
theorem dX11_dress_119 : decode cX11_dress 119 = .ok (.goto (-97), 3) := by decide +kernel
theorem dX11_dress_122 : decode cX11_dress 122 = .ok (.aload_n 0, 1) := by decide +kernel
theorem dX11_dress_123 : decode cX11_dress 123 = .ok (.aload_n 0, 1) := by decide +kernel
theorem dX11_dress_124 : decode cX11_dress 124 = .ok (.getfield 387, 3) := by decide +kernel
theorem dX11_dress_127 : decode cX11_dress 127 = .ok (.putfield 414, 3) := by decide +kernel
theorem dX11_dress_130 : decode cX11_dress 130 = .ok (.iload_n 1, 1) := by decide +kernel
theorem dX11_dress_131 : decode cX11_dress 131 = .ok (.ifCond .ne 7, 3) := by decide +kernel
theorem dX11_dress_134 : decode cX11_dress 134 = .ok (.iload_n 2, 1) := by decide +kernel
theorem dX11_dress_135 : decode cX11_dress 135 = .ok (.goto 4, 3) := by decide +kernel
theorem dX11_dress_138 : decode cX11_dress 138 = .ok (.iload_n 3, 1) := by decide +kernel
theorem dX11_dress_139 : decode cX11_dress 139 = .ok (.ireturn, 1) := by decide +kernel
theorem dX11_ease_0 : decode cX11_ease 0 = .ok (.aload_n 0, 1) := by decide +kernel
theorem dX11_ease_1 : decode cX11_ease 1 = .ok (.invokevirtual 449, 3) := by decide +kernel
theorem dX11_ease_4 : decode cX11_ease 4 = .ok (.iconst 0, 1) := by decide +kernel
theorem dX11_ease_5 : decode cX11_ease 5 = .ok (.istore_n 1, 1) := by decide +kernel
theorem dX11_ease_6 : decode cX11_ease 6 = .ok (.iconst 0, 1) := by decide +kernel
theorem dX11_ease_7 : decode cX11_ease 7 = .ok (.istore_n 2, 1) := by decide +kernel
theorem dX11_ease_8 : decode cX11_ease 8 = .ok (.iload_n 2, 1) := by decide +kernel
theorem dX11_ease_9 : decode cX11_ease 9 = .ok (.aload_n 0, 1) := by decide +kernel
theorem dX11_ease_10 : decode cX11_ease 10 = .ok (.getfield 387, 3) := by decide +kernel
theorem dX11_ease_13 : decode cX11_ease 13 = .ok (.if_icmp .ge 19, 3) := by decide +kernel
theorem dX11_ease_32 : decode cX11_ease 32 = .ok (.iload_n 1, 1) := by decide +kernel
theorem dX11_ease_33 : decode cX11_ease 33 = .ok (.ireturn, 1) := by decide +kernel
theorem dX11_end_0 : decode cX11_end 0 = .ok (.iload_n 1, 1) := by decide +kernel
theorem dX11_end_1 : decode cX11_end 1 = .ok (.ifCond .lt 11, 3) := by decide +kernel
theorem dX11_end_4 : decode cX11_end 4 = .ok (.iload_n 1, 1) := by decide +kernel
theorem dX11_end_5 : decode cX11_end 5 = .ok (.aload_n 0, 1) := by decide +kernel
theorem dX11_end_6 : decode cX11_end 6 = .ok (.getfield 139, 3) := by decide +kernel
theorem dX11_end_9 : decode cX11_end 9 = .ok (.if_icmp .le 5, 3) := by decide +kernel
theorem dX11_end_12 : decode cX11_end 12 = .ok (.iconst (-1), 1) := by decide +kernel
theorem dX11_end_13 : decode cX11_end 13 = .ok (.ireturn, 1) := by decide +kernel
theorem dX11_end_14 : decode cX11_end 14 = .ok (.aload_n 0, 1) := by decide +kernel
theorem dX11_end_15 : decode cX11_end 15 = .ok (.iload_n 1, 1) := by decide +kernel
theorem dX11_end_16 : decode cX11_end 16 = .ok (.putfield 139, 3) := by decide +kernel
theorem dX11_end_19 : decode cX11_end 19 = .ok (.iload_n 1, 1) := by decide +kernel
theorem dX11_end_20 : decode cX11_end 20 = .ok (.ireturn, 1) := by decide +kernel
theorem dX11_fault_0 : decode cX11_fault 0 = .ok (.iload_n 1, 1) := by decide +kernel
theorem dX11_fault_1 : decode cX11_fault 1 = .ok (.ifCond .ne 10, 3) := by decide +kernel
theorem dX11_fault_4 : decode cX11_fault 4 = .ok (.aload_n 0, 1) := by decide +kernel
theorem dX11_fault_5 : decode cX11_fault 5 = .ok (.getfield 179, 3) := by decide +kernel
theorem dX11_fault_8 : decode cX11_fault 8 = .ok (.goto 16, 3) := by decide +kernel
theorem dX11_fault_11 : decode cX11_fault 11 = .ok (.iload_n 1, 1) := by decide +kernel
theorem dX11_fault_12 : decode cX11_fault 12 = .ok (.iconst 1, 1) := by decide +kernel
theorem dX11_fault_13 : decode cX11_fault 13 = .ok (.if_icmp .ne 10, 3) := by decide +kernel
theorem dX11_fault_16 : decode cX11_fault 16 = .ok (.aload_n 0, 1) := by decide +kernel
theorem dX11_fault_17 : decode cX11_fault 17 = .ok (.getfield 13, 3) := by decide +kernel
theorem dX11_fault_20 : decode cX11_fault 20 = .ok (.goto 4, 3) := by decide +kernel
theorem dX11_fault_23 : decode cX11_fault 23 = .ok (.iconst (-1), 1) := by decide +kernel
theorem dX11_fault_24 : decode cX11_fault 24 = .ok (.ireturn, 1) := by decide +kernel
theorem dX11_feed_0 : decode cX11_feed 0 = .ok (.aload_n 0, 1) := by decide +kernel
theorem dX11_feed_1 : decode cX11_feed 1 = .ok (.getfield 139, 3) := by decide +kernel
theorem dX11_feed_4 : decode cX11_feed 4 = .ok (.bipush 20, 2) := by decide +kernel
theorem dX11_feed_6 : decode cX11_feed 6 = .ok (.iadd, 1) := by decide +kernel
theorem dX11_feed_7 : decode cX11_feed 7 = .ok (.sipush 1600, 3) := by decide +kernel
theorem dX11_feed_10 : decode cX11_feed 10 = .ok (.if_icmp .le 5, 3) := by decide +kernel
theorem dX11_feed_15 : decode cX11_feed 15 = .ok (.aload_n 0, 1) := by decide +kernel
theorem dX11_feed_16 : decode cX11_feed 16 = .ok (.iload_n 1, 1) := by decide +kernel
theorem dX11_feed_17 : decode cX11_feed 17 = .ok (.invokevirtual 142, 3) := by decide +kernel
theorem dX11_feed_20 : decode cX11_feed 20 = .ok (.aload_n 0, 1) := by decide +kernel
theorem dX11_feed_21 : decode cX11_feed 21 = .ok (.iload_n 2, 1) := by decide +kernel
theorem dX11_feed_22 : decode cX11_feed 22 = .ok (.invokevirtual 142, 3) := by decide +kernel
theorem dX11_feed_25 : decode cX11_feed 25 = .ok (.aload_n 0, 1) := by decide +kernel
theorem dX11_feed_26 : decode cX11_feed 26 = .ok (.iload_n 3, 1) := by decide +kernel
theorem dX11_feed_27 : decode cX11_feed 27 = .ok (.invokevirtual 142, 3) := by decide +kernel
theorem dX11_feed_30 : decode cX11_feed 30 = .ok (.aload_n 0, 1) := by decide +kernel
theorem dX11_feed_31 : decode cX11_feed 31 = .ok (.iload 4, 2) := by decide +kernel
theorem dX11_feed_33 : decode cX11_feed 33 = .ok (.invokevirtual 142, 3) := by decide +kernel
theorem dX11_feed_36 : decode cX11_feed 36 = .ok (.aload_n 0, 1) := by decide +kernel
theorem dX11_feed_37 : decode cX11_feed 37 = .ok (.iload 5, 2) := by decide +kernel
theorem dX11_feed_39 : decode cX11_feed 39 = .ok (.invokevirtual 142, 3) := by decide +kernel
theorem dX11_feed_42 : decode cX11_feed 42 = .ok (.aload_n 0, 1) := by decide +kernel
theorem dX11_feed_43 : decode cX11_feed 43 = .ok (.getfield 139, 3) := by decide +kernel
theorem dX11_feed_46 : decode cX11_feed 46 = .ok (.ireturn, 1) := by decide +kernel
theorem dX11_fill_0 : decode cX11_fill 0 = .ok (.iconst 0, 1) := by decide +kernel
theorem dX11_fill_1 : decode cX11_fill 1 = .ok (.istore_n 1, 1) := by decide +kernel
theorem dX11_fill_2 : decode cX11_fill 2 = .ok (.iload_n 1, 1) := by decide +kernel
theorem dX11_fill_3 : decode cX11_fill 3 = .ok (.bipush 39, 2) := by decide +kernel
theorem dX11_fill_5 : decode cX11_fill 5 = .ok (.if_icmp .ge 21, 3) := by decide +kernel
theorem dX11_fill_8 : decode cX11_fill 8 = .ok (.aload_n 0, 1) := by decide +kernel
theorem dX11_fill_9 : decode cX11_fill 9 = .ok (.getfield 96, 3) := by decide +kernel
theorem dX11_fill_12 : decode cX11_fill 12 = .ok (.iload_n 1, 1) := by decide +kernel
theorem dX11_fill_13 : decode cX11_fill 13 = .ok (.aload_n 0, 1) := by decide +kernel
theorem dX11_fill_14 : decode cX11_fill 14 = .ok (.getfield 93, 3) := by decide +kernel
theorem dX11_fill_17 : decode cX11_fill 17 = .ok (.iload_n 1, 1) := by decide +kernel
theorem dX11_fill_18 : decode cX11_fill 18 = .ok (.iaload, 1) := by decide +kernel
theorem dX11_fill_19 : decode cX11_fill 19 = .ok (.iastore, 1) := by decide +kernel
theorem dX11_fill_20 : decode cX11_fill 20 = .ok (.iinc 1 1, 3) := by decide +kernel
theorem dX11_fill_23 : decode cX11_fill 23 = .ok (.goto (-21), 3) := by decide +kernel
theorem dX11_fill_26 : decode cX11_fill 26 = .ok (.return_, 1) := by decide +kernel
theorem dX11_fitted_0 : decode cX11_fitted 0 = .ok (.aload_n 0, 1) := by decide +kernel
theorem dX11_fitted_1 : decode cX11_fitted 1 = .ok (.invokevirtual 449, 3) := by decide +kernel
theorem dX11_fitted_4 : decode cX11_fitted 4 = .ok (.aload_n 0, 1) := by decide +kernel
theorem dX11_fitted_5 : decode cX11_fitted 5 = .ok (.invokevirtual 443, 3) := by decide +kernel
theorem dX11_fitted_8 : decode cX11_fitted 8 = .ok (.ireturn, 1) := by decide +kernel
theorem dX11_fittedOnes_0 : decode cX11_fittedOnes 0 = .ok (.iconst 0, 1) := by decide +kernel
theorem dX11_fittedOnes_1 : decode cX11_fittedOnes 1 = .ok (.istore_n 1, 1) := by decide +kernel
theorem dX11_fittedOnes_2 : decode cX11_fittedOnes 2 = .ok (.iconst 0, 1) := by decide +kernel
theorem dX11_fittedOnes_3 : decode cX11_fittedOnes 3 = .ok (.istore_n 2, 1) := by decide +kernel
theorem dX11_fittedOnes_4 : decode cX11_fittedOnes 4 = .ok (.iload_n 2, 1) := by decide +kernel
theorem dX11_fittedOnes_5 : decode cX11_fittedOnes 5 = .ok (.aload_n 0, 1) := by decide +kernel
theorem dX11_fittedOnes_6 : decode cX11_fittedOnes 6 = .ok (.getfield 387, 3) := by decide +kernel
theorem dX11_fittedOnes_9 : decode cX11_fittedOnes 9 = .ok (.if_icmp .ge 22, 3) := by decide +kernel
theorem dX11_fittedOnes_31 : decode cX11_fittedOnes 31 = .ok (.iload_n 1, 1) := by decide +kernel
theorem dX11_fittedOnes_32 : decode cX11_fittedOnes 32 = .ok (.ireturn, 1) := by decide +kernel
theorem dX11_four_0 : decode cX11_four 0 = .ok (.bipush 24, 2) := by decide +kernel
theorem dX11_four_2 : decode cX11_four 2 = .ok (.istore_n 2, 1) := by decide +kernel
theorem dX11_four_3 : decode cX11_four 3 = .ok (.iload_n 2, 1) := by decide +kernel
theorem dX11_four_4 : decode cX11_four 4 = .ok (.ifCond .lt 35, 3) := by decide +kernel
theorem dX11_four_7 : decode cX11_four 7 = .ok (.aload_n 0, 1) := by decide +kernel
theorem dX11_four_8 : decode cX11_four 8 = .ok (.getfield 7, 3) := by decide +kernel
theorem dX11_four_11 : decode cX11_four 11 = .ok (.aload_n 0, 1) := by decide +kernel
theorem dX11_four_12 : decode cX11_four 12 = .ok (.getfield 139, 3) := by decide +kernel
theorem dX11_four_15 : decode cX11_four 15 = .ok (.iload_n 1, 1) := by decide +kernel
theorem dX11_four_16 : decode cX11_four 16 = .ok (.iload_n 2, 1) := by decide +kernel
theorem dX11_four_17 : decode cX11_four 17 = .ok (.ishr, 1) := by decide +kernel
theorem dX11_four_18 : decode cX11_four 18 = .ok (.sipush 255, 3) := by decide +kernel
theorem dX11_four_21 : decode cX11_four 21 = .ok (.iand, 1) := by decide +kernel
theorem dX11_four_22 : decode cX11_four 22 = .ok (.iastore, 1) := by decide +kernel
theorem dX11_four_23 : decode cX11_four 23 = .ok (.aload_n 0, 1) := by decide +kernel
theorem dX11_four_24 : decode cX11_four 24 = .ok (.dup, 1) := by decide +kernel
theorem dX11_four_25 : decode cX11_four 25 = .ok (.getfield 139, 3) := by decide +kernel
theorem dX11_four_28 : decode cX11_four 28 = .ok (.iconst 1, 1) := by decide +kernel
theorem dX11_four_29 : decode cX11_four 29 = .ok (.iadd, 1) := by decide +kernel
theorem dX11_four_30 : decode cX11_four 30 = .ok (.putfield 139, 3) := by decide +kernel
theorem dX11_four_33 : decode cX11_four 33 = .ok (.iinc 2 (-8), 3) := by decide +kernel
theorem dX11_four_36 : decode cX11_four 36 = .ok (.goto (-33), 3) := by decide +kernel
theorem dX11_four_39 : decode cX11_four 39 = .ok (.return_, 1) := by decide +kernel
theorem dX11_freeCoats_0 : decode cX11_freeCoats 0 = .ok (.iconst 0, 1) := by decide +kernel
theorem dX11_freeCoats_1 : decode cX11_freeCoats 1 = .ok (.istore_n 1, 1) := by decide +kernel
theorem dX11_freeCoats_2 : decode cX11_freeCoats 2 = .ok (.iconst 0, 1) := by decide +kernel
theorem dX11_freeCoats_3 : decode cX11_freeCoats 3 = .ok (.istore_n 2, 1) := by decide +kernel
theorem dX11_freeCoats_4 : decode cX11_freeCoats 4 = .ok (.iload_n 2, 1) := by decide +kernel
theorem dX11_freeCoats_5 : decode cX11_freeCoats 5 = .ok (.aload_n 0, 1) := by decide +kernel
theorem dX11_freeCoats_6 : decode cX11_freeCoats 6 = .ok (.getfield 390, 3) := by decide +kernel
theorem dX11_freeCoats_9 : decode cX11_freeCoats 9 = .ok (.if_icmp .ge 30, 3) := by decide +kernel
theorem dX11_freeCoats_39 : decode cX11_freeCoats 39 = .ok (.iload_n 1, 1) := by decide +kernel
theorem dX11_freeCoats_40 : decode cX11_freeCoats 40 = .ok (.ireturn, 1) := by decide +kernel
theorem dX11_front_0 : decode cX11_front 0 = .ok (.iload_n 1, 1) := by decide +kernel
theorem dX11_front_1 : decode cX11_front 1 = .ok (.iconst 0, 1) := by decide +kernel
theorem dX11_front_2 : decode cX11_front 2 = .ok (.sipush 999, 3) := by decide +kernel
theorem dX11_front_5 : decode cX11_front 5 = .ok (.invokestatic 417, 3) := by decide +kernel
theorem dX11_front_8 : decode cX11_front 8 = .ok (.ifCond .eq 12, 3) := by decide +kernel
theorem dX11_front_11 : decode cX11_front 11 = .ok (.iload_n 2, 1) := by decide +kernel
theorem dX11_front_12 : decode cX11_front 12 = .ok (.iconst 0, 1) := by decide +kernel
theorem dX11_front_13 : decode cX11_front 13 = .ok (.iconst 1, 1) := by decide +kernel
theorem dX11_front_14 : decode cX11_front 14 = .ok (.invokestatic 417, 3) := by decide +kernel
theorem dX11_front_17 : decode cX11_front 17 = .ok (.ifCond .ne 5, 3) := by decide +kernel
theorem dX11_front_20 : decode cX11_front 20 = .ok (.iconst (-1), 1) := by decide +kernel
theorem dX11_front_21 : decode cX11_front 21 = .ok (.ireturn, 1) := by decide +kernel
theorem dX11_front_22 : decode cX11_front 22 = .ok (.aload_n 0, 1) := by decide +kernel
theorem dX11_front_23 : decode cX11_front 23 = .ok (.invokevirtual 449, 3) := by decide +kernel
theorem dX11_front_26 : decode cX11_front 26 = .ok (.aload_n 0, 1) := by decide +kernel
theorem dX11_front_27 : decode cX11_front 27 = .ok (.invokevirtual 440, 3) := by decide +kernel
theorem dX11_front_30 : decode cX11_front 30 = .ok (.istore_n 3, 1) := by decide +kernel
theorem dX11_front_31 : decode cX11_front 31 = .ok (.iconst (-1), 1) := by decide +kernel
theorem dX11_front_32 : decode cX11_front 32 = .ok (.istore 4, 2) := by decide +kernel
theorem dX11_front_34 : decode cX11_front 34 = .ok (.iconst 0, 1) := by decide +kernel
theorem dX11_front_35 : decode cX11_front 35 = .ok (.istore 5, 2) := by decide +kernel
theorem dX11_front_37 : decode cX11_front 37 = .ok (.iload 5, 2) := by decide +kernel
theorem dX11_front_39 : decode cX11_front 39 = .ok (.iload_n 3, 1) := by decide +kernel
theorem dX11_front_40 : decode cX11_front 40 = .ok (.if_icmp .gt 50, 3) := by decide +kernel
theorem dX11_front_43 : decode cX11_front 43 = .ok (.iload 5, 2) := by decide +kernel
theorem dX11_front_45 : decode cX11_front 45 = .ok (.iload_n 3, 1) := by decide +kernel
theorem dX11_front_46 : decode cX11_front 46 = .ok (.iconst (-1), 1) := by decide +kernel
theorem dX11_front_47 : decode cX11_front 47 = .ok (.ixor, 1) := by decide +kernel
theorem dX11_front_48 : decode cX11_front 48 = .ok (.iand, 1) := by decide +kernel
theorem dX11_front_49 : decode cX11_front 49 = .ok (.ifCond .ne 35, 3) := by decide +kernel
theorem dX11_front_52 : decode cX11_front 52 = .ok (.aload_n 0, 1) := by decide +kernel
theorem dX11_front_53 : decode cX11_front 53 = .ok (.iload 5, 2) := by decide +kernel
theorem dX11_front_55 : decode cX11_front 55 = .ok (.invokevirtual 492, 3) := by decide +kernel
theorem dX11_front_58 : decode cX11_front 58 = .ok (.iload_n 1, 1) := by decide +kernel
theorem dX11_front_59 : decode cX11_front 59 = .ok (.if_icmp .lt 25, 3) := by decide +kernel
theorem dX11_front_62 : decode cX11_front 62 = .ok (.iload 4, 2) := by decide +kernel
theorem dX11_front_64 : decode cX11_front 64 = .ok (.ifCond .lt 16, 3) := by decide +kernel
theorem dX11_front_80 : decode cX11_front 80 = .ok (.iload 5, 2) := by decide +kernel
theorem dX11_front_82 : decode cX11_front 82 = .ok (.istore 4, 2) := by decide +kernel
theorem dX11_front_84 : decode cX11_front 84 = .ok (.iinc 5 1, 3) := by decide +kernel
theorem dX11_front_87 : decode cX11_front 87 = .ok (.goto (-50), 3) := by decide +kernel
theorem dX11_front_90 : decode cX11_front 90 = .ok (.iload 4, 2) := by decide +kernel
theorem dX11_front_92 : decode cX11_front 92 = .ok (.ifCond .ge 7, 3) := by decide +kernel
theorem dX11_front_95 : decode cX11_front 95 = .ok (.iconst (-1), 1) := by decide +kernel
theorem dX11_front_96 : decode cX11_front 96 = .ok (.goto 17, 3) := by decide +kernel
theorem dX11_front_99 : decode cX11_front 99 = .ok (.iload_n 2, 1) := by decide +kernel
theorem dX11_front_100 : decode cX11_front 100 = .ok (.ifCond .ne 11, 3) := by decide +kernel
theorem dX11_front_103 : decode cX11_front 103 = .ok (.iload 4, 2) := by decide +kernel
theorem dX11_front_105 : decode cX11_front 105 = .ok (.invokestatic 486, 3) := by decide +kernel
theorem dX11_front_108 : decode cX11_front 108 = .ok (.goto 5, 3) := by decide +kernel
theorem dX11_front_111 : decode cX11_front 111 = .ok (.iload 4, 2) := by decide +kernel
theorem dX11_front_113 : decode cX11_front 113 = .ok (.ireturn, 1) := by decide +kernel
theorem dX11_goDay_0 : decode cX11_goDay 0 = .ok (.iconst 0, 1) := by decide +kernel
theorem dX11_goDay_1 : decode cX11_goDay 1 = .ok (.istore_n 2, 1) := by decide +kernel
theorem dX11_goDay_2 : decode cX11_goDay 2 = .ok (.iload_n 2, 1) := by decide +kernel
theorem dX11_goDay_3 : decode cX11_goDay 3 = .ok (.aload_n 0, 1) := by decide +kernel
theorem dX11_goDay_4 : decode cX11_goDay 4 = .ok (.getfield 387, 3) := by decide +kernel
theorem dX11_goDay_7 : decode cX11_goDay 7 = .ok (.if_icmp .ge 33, 3) := by decide +kernel
theorem dX11_goDay_40 : decode cX11_goDay 40 = .ok (.iconst 0, 1) := by decide +kernel
theorem dX11_goDay_41 : decode cX11_goDay 41 = .ok (.istore_n 2, 1) := by decide +kernel
theorem dX11_goDay_42 : decode cX11_goDay 42 = .ok (.iload_n 2, 1) := by decide +kernel
theorem dX11_goDay_43 : decode cX11_goDay 43 = .ok (.aload_n 0, 1) := by decide +kernel
theorem dX11_goDay_44 : decode cX11_goDay 44 = .ok (.getfield 390, 3) := by decide +kernel
theorem dX11_goDay_47 : decode cX11_goDay 47 = .ok (.if_icmp .ge 99, 3) := by decide +kernel
theorem dX11_goDay_146 : decode cX11_goDay 146 = .ok (.aload_n 0, 1) := by decide +kernel
theorem dX11_goDay_147 : decode cX11_goDay 147 = .ok (.getfield 96, 3) := by decide +kernel
theorem dX11_goDay_150 : decode cX11_goDay 150 = .ok (.bipush 37, 2) := by decide +kernel
theorem dX11_goDay_152 : decode cX11_goDay 152 = .ok (.dup2, 1) := by decide +kernel
theorem dX11_goDay_153 : decode cX11_goDay 153 = .ok (.iaload, 1) := by decide +kernel
theorem dX11_goDay_154 : decode cX11_goDay 154 = .ok (.iconst 1, 1) := by decide +kernel
theorem dX11_goDay_155 : decode cX11_goDay 155 = .ok (.iadd, 1) := by decide +kernel
theorem dX11_goDay_156 : decode cX11_goDay 156 = .ok (.iastore, 1) := by decide +kernel
theorem dX11_goDay_157 : decode cX11_goDay 157 = .ok (.aload_n 0, 1) := by decide +kernel
theorem dX11_goDay_158 : decode cX11_goDay 158 = .ok (.invokevirtual 440, 3) := by decide +kernel
theorem dX11_goDay_161 : decode cX11_goDay 161 = .ok (.aload_n 0, 1) := by decide +kernel
theorem dX11_goDay_162 : decode cX11_goDay 162 = .ok (.invokevirtual 443, 3) := by decide +kernel
theorem dX11_goDay_165 : decode cX11_goDay 165 = .ok (.iconst (-1), 1) := by decide +kernel
theorem dX11_goDay_166 : decode cX11_goDay 166 = .ok (.ixor, 1) := by decide +kernel
theorem dX11_goDay_167 : decode cX11_goDay 167 = .ok (.iand, 1) := by decide +kernel
theorem dX11_goDay_168 : decode cX11_goDay 168 = .ok (.istore_n 2, 1) := by decide +kernel
theorem dX11_goDay_169 : decode cX11_goDay 169 = .ok (.iconst 0, 1) := by decide +kernel
theorem dX11_goDay_170 : decode cX11_goDay 170 = .ok (.istore_n 3, 1) := by decide +kernel
theorem dX11_goDay_171 : decode cX11_goDay 171 = .ok (.iload_n 3, 1) := by decide +kernel
theorem dX11_goDay_172 : decode cX11_goDay 172 = .ok (.aload_n 0, 1) := by decide +kernel
theorem dX11_goDay_173 : decode cX11_goDay 173 = .ok (.getfield 387, 3) := by decide +kernel
theorem dX11_goDay_176 : decode cX11_goDay 176 = .ok (.if_icmp .ge 28, 3) := by decide +kernel
theorem dX11_goDay_204 : decode cX11_goDay 204 = .ok (.iload_n 2, 1) := by decide +kernel
theorem dX11_goDay_205 : decode cX11_goDay 205 = .ok (.ireturn, 1) := by decide +kernel
theorem dX11_growths_0 : decode cX11_growths 0 = .ok (.aload_n 0, 1) := by decide +kernel
theorem dX11_growths_1 : decode cX11_growths 1 = .ok (.iload_n 1, 1) := by decide +kernel
theorem dX11_growths_2 : decode cX11_growths 2 = .ok (.invokevirtual 534, 3) := by decide +kernel
theorem dX11_growths_5 : decode cX11_growths 5 = .ok (.ireturn, 1) := by decide +kernel
theorem dX11_hem_0 : decode cX11_hem 0 = .ok (.aload_n 0, 1) := by decide +kernel
theorem dX11_hem_1 : decode cX11_hem 1 = .ok (.iload_n 1, 1) := by decide +kernel
theorem dX11_hem_2 : decode cX11_hem 2 = .ok (.invokevirtual 455, 3) := by decide +kernel
theorem dX11_hem_5 : decode cX11_hem 5 = .ok (.ifCond .eq 20, 3) := by decide +kernel
theorem dX11_hem_25 : decode cX11_hem 25 = .ok (.iconst (-1), 1) := by decide +kernel
theorem dX11_hem_26 : decode cX11_hem 26 = .ok (.ireturn, 1) := by decide +kernel
theorem dX11_here_0 : decode cX11_here 0 = .ok (.aload_n 0, 1) := by decide +kernel
theorem dX11_here_1 : decode cX11_here 1 = .ok (.getfield 146, 3) := by decide +kernel
theorem dX11_here_4 : decode cX11_here 4 = .ok (.iload_n 1, 1) := by decide +kernel
theorem dX11_here_5 : decode cX11_here 5 = .ok (.iadd, 1) := by decide +kernel
theorem dX11_here_6 : decode cX11_here 6 = .ok (.aload_n 0, 1) := by decide +kernel
theorem dX11_here_7 : decode cX11_here 7 = .ok (.getfield 149, 3) := by decide +kernel
theorem dX11_here_10 : decode cX11_here 10 = .ok (.if_icmp .ge 17, 3) := by decide +kernel
theorem dX11_here_27 : decode cX11_here 27 = .ok (.iconst (-1), 1) := by decide +kernel
theorem dX11_here_28 : decode cX11_here 28 = .ok (.ireturn, 1) := by decide +kernel
theorem dX11_illOfRow_0 : decode cX11_illOfRow 0 = .ok (.iconst 0, 1) := by decide +kernel
theorem dX11_illOfRow_1 : decode cX11_illOfRow 1 = .ok (.istore_n 1, 1) := by decide +kernel
theorem dX11_illOfRow_2 : decode cX11_illOfRow 2 = .ok (.iconst 0, 1) := by decide +kernel
theorem dX11_illOfRow_3 : decode cX11_illOfRow 3 = .ok (.istore_n 2, 1) := by decide +kernel
theorem dX11_illOfRow_4 : decode cX11_illOfRow 4 = .ok (.iload_n 2, 1) := by decide +kernel
theorem dX11_illOfRow_5 : decode cX11_illOfRow 5 = .ok (.aload_n 0, 1) := by decide +kernel
theorem dX11_illOfRow_6 : decode cX11_illOfRow 6 = .ok (.getfield 387, 3) := by decide +kernel
theorem dX11_illOfRow_9 : decode cX11_illOfRow 9 = .ok (.if_icmp .ge 41, 3) := by decide +kernel
theorem dX11_illOfRow_50 : decode cX11_illOfRow 50 = .ok (.iload_n 1, 1) := by decide +kernel
theorem dX11_illOfRow_51 : decode cX11_illOfRow 51 = .ok (.ireturn, 1) := by decide +kernel
theorem dX11_image_0 : decode cX11_image 0 = .ok (.iload_n 1, 1) := by decide +kernel
theorem dX11_image_1 : decode cX11_image 1 = .ok (.invokestatic 540, 3) := by decide +kernel
theorem dX11_image_4 : decode cX11_image 4 = .ok (.ifCond .ne 5, 3) := by decide +kernel
theorem dX11_image_7 : decode cX11_image 7 = .ok (.iconst (-1), 1) := by decide +kernel
theorem dX11_image_8 : decode cX11_image 8 = .ok (.ireturn, 1) := by decide +kernel
theorem dX11_image_9 : decode cX11_image 9 = .ok (.aload_n 0, 1) := by decide +kernel
theorem dX11_image_10 : decode cX11_image 10 = .ok (.getfield 133, 3) := by decide +kernel
theorem dX11_image_13 : decode cX11_image 13 = .ok (.iload_n 1, 1) := by decide +kernel
theorem dX11_image_14 : decode cX11_image 14 = .ok (.iconst 1, 1) := by decide +kernel
theorem dX11_image_15 : decode cX11_image 15 = .ok (.bastore, 1) := by decide +kernel
theorem dX11_image_16 : decode cX11_image 16 = .ok (.iconst 0, 1) := by decide +kernel
theorem dX11_image_17 : decode cX11_image 17 = .ok (.istore_n 2, 1) := by decide +kernel
theorem dX11_image_18 : decode cX11_image 18 = .ok (.iload_n 2, 1) := by decide +kernel
theorem dX11_image_19 : decode cX11_image 19 = .ok (.bipush 39, 2) := by decide +kernel
theorem dX11_image_21 : decode cX11_image 21 = .ok (.if_icmp .ge 26, 3) := by decide +kernel
theorem dX11_image_24 : decode cX11_image 24 = .ok (.aload_n 0, 1) := by decide +kernel
theorem dX11_image_25 : decode cX11_image 25 = .ok (.getfield 136, 3) := by decide +kernel
theorem dX11_image_28 : decode cX11_image 28 = .ok (.bipush 39, 2) := by decide +kernel
theorem dX11_image_30 : decode cX11_image 30 = .ok (.iload_n 1, 1) := by decide +kernel
theorem dX11_image_31 : decode cX11_image 31 = .ok (.imul, 1) := by decide +kernel
theorem dX11_image_32 : decode cX11_image 32 = .ok (.iload_n 2, 1) := by decide +kernel
theorem dX11_image_33 : decode cX11_image 33 = .ok (.iadd, 1) := by decide +kernel
theorem dX11_image_34 : decode cX11_image 34 = .ok (.aload_n 0, 1) := by decide +kernel
theorem dX11_image_35 : decode cX11_image 35 = .ok (.getfield 93, 3) := by decide +kernel
theorem dX11_image_38 : decode cX11_image 38 = .ok (.iload_n 2, 1) := by decide +kernel
theorem dX11_image_39 : decode cX11_image 39 = .ok (.iaload, 1) := by decide +kernel
theorem dX11_image_40 : decode cX11_image 40 = .ok (.iastore, 1) := by decide +kernel
theorem dX11_image_41 : decode cX11_image 41 = .ok (.iinc 2 1, 3) := by decide +kernel
theorem dX11_image_44 : decode cX11_image 44 = .ok (.goto (-26), 3) := by decide +kernel
theorem dX11_image_47 : decode cX11_image 47 = .ok (.aload_n 0, 1) := by decide +kernel
theorem dX11_image_48 : decode cX11_image 48 = .ok (.getfield 93, 3) := by decide +kernel
theorem dX11_image_51 : decode cX11_image 51 = .ok (.bipush 37, 2) := by decide +kernel
theorem dX11_image_53 : decode cX11_image 53 = .ok (.iaload, 1) := by decide +kernel
theorem dX11_image_54 : decode cX11_image 54 = .ok (.ireturn, 1) := by decide +kernel
theorem dX11_init_0 : decode cX11_init 0 = .ok (.aload_n 0, 1) := by decide +kernel
theorem dX11_init_1 : decode cX11_init 1 = .ok (.invokespecial 1, 3) := by decide +kernel
theorem dX11_init_4 : decode cX11_init 4 = .ok (.aload_n 0, 1) := by decide +kernel
theorem dX11_init_5 : decode cX11_init 5 = .ok (.sipush 1600, 3) := by decide +kernel
theorem dX11_init_8 : decode cX11_init 8 = .ok (.newarray .int, 2) := by decide +kernel
theorem dX11_init_10 : decode cX11_init 10 = .ok (.putfield 7, 3) := by decide +kernel
theorem dX11_init_13 : decode cX11_init 13 = .ok (.aload_n 0, 1) := by decide +kernel
theorem dX11_init_14 : decode cX11_init 14 = .ok (.iconst (-1), 1) := by decide +kernel
theorem dX11_init_15 : decode cX11_init 15 = .ok (.putfield 13, 3) := by decide +kernel
theorem dX11_init_18 : decode cX11_init 18 = .ok (.aload_n 0, 1) := by decide +kernel
theorem dX11_init_19 : decode cX11_init 19 = .ok (.bipush 12, 2) := by decide +kernel
theorem dX11_init_21 : decode cX11_init 21 = .ok (.newarray .long, 2) := by decide +kernel
theorem dX11_init_23 : decode cX11_init 23 = .ok (.putfield 17, 3) := by decide +kernel
theorem dX11_init_26 : decode cX11_init 26 = .ok (.aload_n 0, 1) := by decide +kernel
theorem dX11_init_27 : decode cX11_init 27 = .ok (.sipush 320, 3) := by decide +kernel
theorem dX11_init_30 : decode cX11_init 30 = .ok (.newarray .int, 2) := by decide +kernel
theorem dX11_init_32 : decode cX11_init 32 = .ok (.putfield 21, 3) := by decide +kernel
theorem dX11_init_35 : decode cX11_init 35 = .ok (.aload_n 0, 1) := by decide +kernel
theorem dX11_init_36 : decode cX11_init 36 = .ok (.sipush 320, 3) := by decide +kernel
theorem dX11_init_39 : decode cX11_init 39 = .ok (.newarray .int, 2) := by decide +kernel
theorem dX11_init_41 : decode cX11_init 41 = .ok (.putfield 24, 3) := by decide +kernel
theorem dX11_init_44 : decode cX11_init 44 = .ok (.aload_n 0, 1) := by decide +kernel
theorem dX11_init_45 : decode cX11_init 45 = .ok (.sipush 320, 3) := by decide +kernel
theorem dX11_init_48 : decode cX11_init 48 = .ok (.newarray .int, 2) := by decide +kernel
theorem dX11_init_50 : decode cX11_init 50 = .ok (.putfield 27, 3) := by decide +kernel
theorem dX11_init_53 : decode cX11_init 53 = .ok (.aload_n 0, 1) := by decide +kernel
theorem dX11_init_54 : decode cX11_init 54 = .ok (.sipush 320, 3) := by decide +kernel
theorem dX11_init_57 : decode cX11_init 57 = .ok (.newarray .int, 2) := by decide +kernel
theorem dX11_init_59 : decode cX11_init 59 = .ok (.putfield 30, 3) := by decide +kernel
theorem dX11_init_62 : decode cX11_init 62 = .ok (.aload_n 0, 1) := by decide +kernel
theorem dX11_init_63 : decode cX11_init 63 = .ok (.sipush 160, 3) := by decide +kernel
theorem dX11_init_66 : decode cX11_init 66 = .ok (.newarray .int, 2) := by decide +kernel
theorem dX11_init_68 : decode cX11_init 68 = .ok (.putfield 33, 3) := by decide +kernel
theorem dX11_init_71 : decode cX11_init 71 = .ok (.aload_n 0, 1) := by decide +kernel
theorem dX11_init_72 : decode cX11_init 72 = .ok (.bipush 64, 2) := by decide +kernel
theorem dX11_init_74 : decode cX11_init 74 = .ok (.newarray .int, 2) := by decide +kernel
theorem dX11_init_76 : decode cX11_init 76 = .ok (.putfield 36, 3) := by decide +kernel
theorem dX11_init_79 : decode cX11_init 79 = .ok (.aload_n 0, 1) := by decide +kernel
theorem dX11_init_80 : decode cX11_init 80 = .ok (.bipush 6, 2) := by decide +kernel
theorem dX11_init_82 : decode cX11_init 82 = .ok (.newarray .int, 2) := by decide +kernel
theorem dX11_init_84 : decode cX11_init 84 = .ok (.putfield 39, 3) := by decide +kernel
theorem dX11_init_87 : decode cX11_init 87 = .ok (.aload_n 0, 1) := by decide +kernel
theorem dX11_init_88 : decode cX11_init 88 = .ok (.bipush 6, 2) := by decide +kernel
theorem dX11_init_90 : decode cX11_init 90 = .ok (.newarray .int, 2) := by decide +kernel
theorem dX11_init_92 : decode cX11_init 92 = .ok (.putfield 42, 3) := by decide +kernel
theorem dX11_init_95 : decode cX11_init 95 = .ok (.aload_n 0, 1) := by decide +kernel
theorem dX11_init_96 : decode cX11_init 96 = .ok (.bipush 6, 2) := by decide +kernel
theorem dX11_init_98 : decode cX11_init 98 = .ok (.newarray .int, 2) := by decide +kernel
theorem dX11_init_100 : decode cX11_init 100 = .ok (.putfield 45, 3) := by decide +kernel
theorem dX11_init_103 : decode cX11_init 103 = .ok (.aload_n 0, 1) := by decide +kernel
theorem dX11_init_104 : decode cX11_init 104 = .ok (.bipush 6, 2) := by decide +kernel
theorem dX11_init_106 : decode cX11_init 106 = .ok (.newarray .int, 2) := by decide +kernel
theorem dX11_init_108 : decode cX11_init 108 = .ok (.putfield 48, 3) := by decide +kernel
theorem dX11_init_111 : decode cX11_init 111 = .ok (.aload_n 0, 1) := by decide +kernel
theorem dX11_init_112 : decode cX11_init 112 = .ok (.bipush 6, 2) := by decide +kernel
theorem dX11_init_114 : decode cX11_init 114 = .ok (.newarray .int, 2) := by decide +kernel
theorem dX11_init_116 : decode cX11_init 116 = .ok (.putfield 51, 3) := by decide +kernel
theorem dX11_init_119 : decode cX11_init 119 = .ok (.aload_n 0, 1) := by decide +kernel
theorem dX11_init_120 : decode cX11_init 120 = .ok (.bipush 6, 2) := by decide +kernel
theorem dX11_init_122 : decode cX11_init 122 = .ok (.newarray .int, 2) := by decide +kernel
theorem dX11_init_124 : decode cX11_init 124 = .ok (.putfield 54, 3) := by decide +kernel
theorem dX11_init_127 : decode cX11_init 127 = .ok (.aload_n 0, 1) := by decide +kernel
theorem dX11_init_128 : decode cX11_init 128 = .ok (.bipush 6, 2) := by decide +kernel
theorem dX11_init_130 : decode cX11_init 130 = .ok (.newarray .int, 2) := by decide +kernel
theorem dX11_init_132 : decode cX11_init 132 = .ok (.putfield 57, 3) := by decide +kernel
theorem dX11_init_135 : decode cX11_init 135 = .ok (.aload_n 0, 1) := by decide +kernel
theorem dX11_init_136 : decode cX11_init 136 = .ok (.bipush 6, 2) := by decide +kernel
theorem dX11_init_138 : decode cX11_init 138 = .ok (.newarray .int, 2) := by decide +kernel
theorem dX11_init_140 : decode cX11_init 140 = .ok (.putfield 60, 3) := by decide +kernel
theorem dX11_init_143 : decode cX11_init 143 = .ok (.aload_n 0, 1) := by decide +kernel
theorem dX11_init_144 : decode cX11_init 144 = .ok (.bipush 6, 2) := by decide +kernel
theorem dX11_init_146 : decode cX11_init 146 = .ok (.newarray .int, 2) := by decide +kernel
theorem dX11_init_148 : decode cX11_init 148 = .ok (.putfield 63, 3) := by decide +kernel
theorem dX11_init_151 : decode cX11_init 151 = .ok (.aload_n 0, 1) := by decide +kernel
theorem dX11_init_152 : decode cX11_init 152 = .ok (.bipush 6, 2) := by decide +kernel
theorem dX11_init_154 : decode cX11_init 154 = .ok (.newarray .int, 2) := by decide +kernel
theorem dX11_init_156 : decode cX11_init 156 = .ok (.putfield 66, 3) := by decide +kernel
theorem dX11_init_159 : decode cX11_init 159 = .ok (.aload_n 0, 1) := by decide +kernel
theorem dX11_init_160 : decode cX11_init 160 = .ok (.bipush 6, 2) := by decide +kernel
theorem dX11_init_162 : decode cX11_init 162 = .ok (.newarray .int, 2) := by decide +kernel
theorem dX11_init_164 : decode cX11_init 164 = .ok (.putfield 69, 3) := by decide +kernel
theorem dX11_init_167 : decode cX11_init 167 = .ok (.aload_n 0, 1) := by decide +kernel
theorem dX11_init_168 : decode cX11_init 168 = .ok (.bipush 6, 2) := by decide +kernel
theorem dX11_init_170 : decode cX11_init 170 = .ok (.newarray .int, 2) := by decide +kernel
theorem dX11_init_172 : decode cX11_init 172 = .ok (.putfield 72, 3) := by decide +kernel
theorem dX11_init_175 : decode cX11_init 175 = .ok (.aload_n 0, 1) := by decide +kernel
theorem dX11_init_176 : decode cX11_init 176 = .ok (.bipush 6, 2) := by decide +kernel
theorem dX11_init_178 : decode cX11_init 178 = .ok (.newarray .int, 2) := by decide +kernel
theorem dX11_init_180 : decode cX11_init 180 = .ok (.putfield 75, 3) := by decide +kernel
theorem dX11_init_183 : decode cX11_init 183 = .ok (.aload_n 0, 1) := by decide +kernel
theorem dX11_init_184 : decode cX11_init 184 = .ok (.bipush 6, 2) := by decide +kernel
theorem dX11_init_186 : decode cX11_init 186 = .ok (.newarray .int, 2) := by decide +kernel
theorem dX11_init_188 : decode cX11_init 188 = .ok (.putfield 78, 3) := by decide +kernel
theorem dX11_init_191 : decode cX11_init 191 = .ok (.aload_n 0, 1) := by decide +kernel
theorem dX11_init_192 : decode cX11_init 192 = .ok (.bipush 6, 2) := by decide +kernel
theorem dX11_init_194 : decode cX11_init 194 = .ok (.newarray .int, 2) := by decide +kernel
theorem dX11_init_196 : decode cX11_init 196 = .ok (.putfield 81, 3) := by decide +kernel
theorem dX11_init_199 : decode cX11_init 199 = .ok (.aload_n 0, 1) := by decide +kernel
theorem dX11_init_200 : decode cX11_init 200 = .ok (.bipush 10, 2) := by decide +kernel
theorem dX11_init_202 : decode cX11_init 202 = .ok (.putfield 84, 3) := by decide +kernel
theorem dX11_init_205 : decode cX11_init 205 = .ok (.aload_n 0, 1) := by decide +kernel
theorem dX11_init_206 : decode cX11_init 206 = .ok (.sipush 150, 3) := by decide +kernel
theorem dX11_init_209 : decode cX11_init 209 = .ok (.putfield 87, 3) := by decide +kernel
theorem dX11_init_212 : decode cX11_init 212 = .ok (.aload_n 0, 1) := by decide +kernel
theorem dX11_init_213 : decode cX11_init 213 = .ok (.iconst 2, 1) := by decide +kernel
theorem dX11_init_214 : decode cX11_init 214 = .ok (.putfield 90, 3) := by decide +kernel
theorem dX11_init_217 : decode cX11_init 217 = .ok (.aload_n 0, 1) := by decide +kernel
theorem dX11_init_218 : decode cX11_init 218 = .ok (.bipush 39, 2) := by decide +kernel
theorem dX11_init_220 : decode cX11_init 220 = .ok (.newarray .int, 2) := by decide +kernel
theorem dX11_init_222 : decode cX11_init 222 = .ok (.putfield 93, 3) := by decide +kernel
theorem dX11_init_225 : decode cX11_init 225 = .ok (.aload_n 0, 1) := by decide +kernel
theorem dX11_init_226 : decode cX11_init 226 = .ok (.bipush 39, 2) := by decide +kernel
theorem dX11_init_228 : decode cX11_init 228 = .ok (.newarray .int, 2) := by decide +kernel
theorem dX11_init_230 : decode cX11_init 230 = .ok (.putfield 96, 3) := by decide +kernel
theorem dX11_init_233 : decode cX11_init 233 = .ok (.aload_n 0, 1) := by decide +kernel
theorem dX11_init_234 : decode cX11_init 234 = .ok (.sipush 1560, 3) := by decide +kernel
theorem dX11_init_237 : decode cX11_init 237 = .ok (.newarray .int, 2) := by decide +kernel
theorem dX11_init_239 : decode cX11_init 239 = .ok (.putfield 99, 3) := by decide +kernel
theorem dX11_init_242 : decode cX11_init 242 = .ok (.aload_n 0, 1) := by decide +kernel
theorem dX11_init_243 : decode cX11_init 243 = .ok (.bipush 6, 2) := by decide +kernel
theorem dX11_init_245 : decode cX11_init 245 = .ok (.newarray .int, 2) := by decide +kernel
theorem dX11_init_247 : decode cX11_init 247 = .ok (.putfield 102, 3) := by decide +kernel
theorem dX11_init_250 : decode cX11_init 250 = .ok (.aload_n 0, 1) := by decide +kernel
theorem dX11_init_251 : decode cX11_init 251 = .ok (.bipush 6, 2) := by decide +kernel
theorem dX11_init_253 : decode cX11_init 253 = .ok (.newarray .int, 2) := by decide +kernel
theorem dX11_init_255 : decode cX11_init 255 = .ok (.putfield 105, 3) := by decide +kernel
theorem dX11_init_258 : decode cX11_init 258 = .ok (.aload_n 0, 1) := by decide +kernel
theorem dX11_init_259 : decode cX11_init 259 = .ok (.bipush 36, 2) := by decide +kernel
theorem dX11_init_261 : decode cX11_init 261 = .ok (.newarray .int, 2) := by decide +kernel
theorem dX11_init_263 : decode cX11_init 263 = .ok (.putfield 108, 3) := by decide +kernel
theorem dX11_init_266 : decode cX11_init 266 = .ok (.aload_n 0, 1) := by decide +kernel
theorem dX11_init_267 : decode cX11_init 267 = .ok (.bipush 64, 2) := by decide +kernel
theorem dX11_init_269 : decode cX11_init 269 = .ok (.newarray .int, 2) := by decide +kernel
theorem dX11_init_271 : decode cX11_init 271 = .ok (.putfield 111, 3) := by decide +kernel
theorem dX11_init_274 : decode cX11_init 274 = .ok (.aload_n 0, 1) := by decide +kernel
theorem dX11_init_275 : decode cX11_init 275 = .ok (.bipush 30, 2) := by decide +kernel
theorem dX11_init_277 : decode cX11_init 277 = .ok (.newarray .int, 2) := by decide +kernel
theorem dX11_init_279 : decode cX11_init 279 = .ok (.putfield 114, 3) := by decide +kernel
theorem dX11_init_282 : decode cX11_init 282 = .ok (.aload_n 0, 1) := by decide +kernel
theorem dX11_init_283 : decode cX11_init 283 = .ok (.bipush 30, 2) := by decide +kernel
theorem dX11_init_285 : decode cX11_init 285 = .ok (.newarray .int, 2) := by decide +kernel
theorem dX11_init_287 : decode cX11_init 287 = .ok (.putfield 117, 3) := by decide +kernel
theorem dX11_init_290 : decode cX11_init 290 = .ok (.aload_n 0, 1) := by decide +kernel
theorem dX11_init_291 : decode cX11_init 291 = .ok (.bipush 30, 2) := by decide +kernel
theorem dX11_init_293 : decode cX11_init 293 = .ok (.newarray .int, 2) := by decide +kernel
theorem dX11_init_295 : decode cX11_init 295 = .ok (.putfield 120, 3) := by decide +kernel
theorem dX11_init_298 : decode cX11_init 298 = .ok (.aload_n 0, 1) := by decide +kernel
theorem dX11_init_299 : decode cX11_init 299 = .ok (.bipush 30, 2) := by decide +kernel
theorem dX11_init_301 : decode cX11_init 301 = .ok (.newarray .boolean, 2) := by decide +kernel
theorem dX11_init_303 : decode cX11_init 303 = .ok (.putfield 123, 3) := by decide +kernel
theorem dX11_init_306 : decode cX11_init 306 = .ok (.aload_n 0, 1) := by decide +kernel
theorem dX11_init_307 : decode cX11_init 307 = .ok (.sipush 651, 3) := by decide +kernel
theorem dX11_init_310 : decode cX11_init 310 = .ok (.newarray .boolean, 2) := by decide +kernel
theorem dX11_init_312 : decode cX11_init 312 = .ok (.putfield 127, 3) := by decide +kernel
theorem dX11_init_315 : decode cX11_init 315 = .ok (.aload_n 0, 1) := by decide +kernel
theorem dX11_init_316 : decode cX11_init 316 = .ok (.bipush 31, 2) := by decide +kernel
theorem dX11_init_318 : decode cX11_init 318 = .ok (.newarray .boolean, 2) := by decide +kernel
theorem dX11_init_320 : decode cX11_init 320 = .ok (.putfield 130, 3) := by decide +kernel
theorem dX11_init_323 : decode cX11_init 323 = .ok (.aload_n 0, 1) := by decide +kernel
theorem dX11_init_324 : decode cX11_init 324 = .ok (.iconst 3, 1) := by decide +kernel
theorem dX11_init_325 : decode cX11_init 325 = .ok (.newarray .boolean, 2) := by decide +kernel
theorem dX11_init_327 : decode cX11_init 327 = .ok (.putfield 133, 3) := by decide +kernel
theorem dX11_init_330 : decode cX11_init 330 = .ok (.aload_n 0, 1) := by decide +kernel
theorem dX11_init_331 : decode cX11_init 331 = .ok (.bipush 117, 2) := by decide +kernel
theorem dX11_init_333 : decode cX11_init 333 = .ok (.newarray .int, 2) := by decide +kernel
theorem dX11_init_335 : decode cX11_init 335 = .ok (.putfield 136, 3) := by decide +kernel
theorem dX11_init_338 : decode cX11_init 338 = .ok (.return_, 1) := by decide +kernel
theorem dX11_isBox_0 : decode cX11_isBox 0 = .ok (.iload_n 0, 1) := by decide +kernel
theorem dX11_isBox_1 : decode cX11_isBox 1 = .ok (.ifCond .lt 12, 3) := by decide +kernel
theorem dX11_isBox_4 : decode cX11_isBox 4 = .ok (.iload_n 0, 1) := by decide +kernel
theorem dX11_isBox_5 : decode cX11_isBox 5 = .ok (.iconst 3, 1) := by decide +kernel
theorem dX11_isBox_6 : decode cX11_isBox 6 = .ok (.if_icmp .ge 7, 3) := by decide +kernel
theorem dX11_isBox_9 : decode cX11_isBox 9 = .ok (.iconst 1, 1) := by decide +kernel
theorem dX11_isBox_10 : decode cX11_isBox 10 = .ok (.goto 4, 3) := by decide +kernel
theorem dX11_isBox_13 : decode cX11_isBox 13 = .ok (.iconst 0, 1) := by decide +kernel
theorem dX11_isBox_14 : decode cX11_isBox 14 = .ok (.ireturn, 1) := by decide +kernel
theorem dX11_isCoat_0 : decode cX11_isCoat 0 = .ok (.iload_n 1, 1) := by decide +kernel
theorem dX11_isCoat_1 : decode cX11_isCoat 1 = .ok (.iconst 0, 1) := by decide +kernel
theorem dX11_isCoat_2 : decode cX11_isCoat 2 = .ok (.aload_n 0, 1) := by decide +kernel
theorem dX11_isCoat_3 : decode cX11_isCoat 3 = .ok (.getfield 390, 3) := by decide +kernel
theorem dX11_isCoat_6 : decode cX11_isCoat 6 = .ok (.iconst 1, 1) := by decide +kernel
theorem dX11_isCoat_7 : decode cX11_isCoat 7 = .ok (.isub, 1) := by decide +kernel
theorem dX11_isCoat_8 : decode cX11_isCoat 8 = .ok (.invokestatic 417, 3) := by decide +kernel
theorem dX11_isCoat_11 : decode cX11_isCoat 11 = .ok (.ireturn, 1) := by decide +kernel
theorem dX11_isIn_0 : decode cX11_isIn 0 = .ok (.iload_n 0, 1) := by decide +kernel
theorem dX11_isIn_1 : decode cX11_isIn 1 = .ok (.iload_n 1, 1) := by decide +kernel
theorem dX11_isIn_2 : decode cX11_isIn 2 = .ok (.if_icmp .lt 12, 3) := by decide +kernel
theorem dX11_isIn_5 : decode cX11_isIn 5 = .ok (.iload_n 0, 1) := by decide +kernel
theorem dX11_isIn_6 : decode cX11_isIn 6 = .ok (.iload_n 2, 1) := by decide +kernel
theorem dX11_isIn_7 : decode cX11_isIn 7 = .ok (.if_icmp .gt 7, 3) := by decide +kernel
theorem dX11_isIn_10 : decode cX11_isIn 10 = .ok (.iconst 1, 1) := by decide +kernel
theorem dX11_isIn_11 : decode cX11_isIn 11 = .ok (.goto 4, 3) := by decide +kernel
theorem dX11_isIn_14 : decode cX11_isIn 14 = .ok (.iconst 0, 1) := by decide +kernel
theorem dX11_isIn_15 : decode cX11_isIn 15 = .ok (.ireturn, 1) := by decide +kernel
theorem dX11_isMan_0 : decode cX11_isMan 0 = .ok (.iload_n 1, 1) := by decide +kernel
theorem dX11_isMan_1 : decode cX11_isMan 1 = .ok (.iconst 0, 1) := by decide +kernel
theorem dX11_isMan_2 : decode cX11_isMan 2 = .ok (.aload_n 0, 1) := by decide +kernel
theorem dX11_isMan_3 : decode cX11_isMan 3 = .ok (.getfield 387, 3) := by decide +kernel
theorem dX11_isMan_6 : decode cX11_isMan 6 = .ok (.iconst 1, 1) := by decide +kernel
theorem dX11_isMan_7 : decode cX11_isMan 7 = .ok (.isub, 1) := by decide +kernel
theorem dX11_isMan_8 : decode cX11_isMan 8 = .ok (.invokestatic 417, 3) := by decide +kernel
theorem dX11_isMan_11 : decode cX11_isMan 11 = .ok (.ireturn, 1) := by decide +kernel
theorem dX11_keepAir_0 : decode cX11_keepAir 0 = .ok (.iconst 0, 1) := by decide +kernel
theorem dX11_keepAir_1 : decode cX11_keepAir 1 = .ok (.istore_n 1, 1) := by decide +kernel
theorem dX11_keepAir_2 : decode cX11_keepAir 2 = .ok (.iload_n 1, 1) := by decide +kernel
theorem dX11_keepAir_3 : decode cX11_keepAir 3 = .ok (.bipush 39, 2) := by decide +kernel
theorem dX11_keepAir_5 : decode cX11_keepAir 5 = .ok (.if_icmp .ge 21, 3) := by decide +kernel
theorem dX11_keepAir_8 : decode cX11_keepAir 8 = .ok (.aload_n 0, 1) := by decide +kernel
theorem dX11_keepAir_9 : decode cX11_keepAir 9 = .ok (.getfield 93, 3) := by decide +kernel
theorem dX11_keepAir_12 : decode cX11_keepAir 12 = .ok (.iload_n 1, 1) := by decide +kernel
theorem dX11_keepAir_13 : decode cX11_keepAir 13 = .ok (.aload_n 0, 1) := by decide +kernel
theorem dX11_keepAir_14 : decode cX11_keepAir 14 = .ok (.getfield 96, 3) := by decide +kernel
theorem dX11_keepAir_17 : decode cX11_keepAir 17 = .ok (.iload_n 1, 1) := by decide +kernel
theorem dX11_keepAir_18 : decode cX11_keepAir 18 = .ok (.iaload, 1) := by decide +kernel
theorem dX11_keepAir_19 : decode cX11_keepAir 19 = .ok (.iastore, 1) := by decide +kernel
theorem dX11_keepAir_20 : decode cX11_keepAir 20 = .ok (.iinc 1 1, 3) := by decide +kernel
theorem dX11_keepAir_23 : decode cX11_keepAir 23 = .ok (.goto (-21), 3) := by decide +kernel
theorem dX11_keepAir_26 : decode cX11_keepAir 26 = .ok (.return_, 1) := by decide +kernel
theorem dX11_later_0 : decode cX11_later 0 = .ok (.iload_n 1, 1) := by decide +kernel
theorem dX11_later_1 : decode cX11_later 1 = .ok (.ifCond .lt 22, 3) := by decide +kernel
theorem dX11_later_4 : decode cX11_later 4 = .ok (.iload_n 1, 1) := by decide +kernel
theorem dX11_later_5 : decode cX11_later 5 = .ok (.sipush 1000, 3) := by decide +kernel
theorem dX11_later_8 : decode cX11_later 8 = .ok (.if_icmp .gt 15, 3) := by decide +kernel
theorem dX11_later_11 : decode cX11_later 11 = .ok (.aload_n 0, 1) := by decide +kernel
theorem dX11_later_12 : decode cX11_later 12 = .ok (.getfield 527, 3) := by decide +kernel
theorem dX11_later_15 : decode cX11_later 15 = .ok (.iload_n 1, 1) := by decide +kernel
theorem dX11_later_16 : decode cX11_later 16 = .ok (.iadd, 1) := by decide +kernel
theorem dX11_later_17 : decode cX11_later 17 = .ok (.ldc_w 530, 3) := by decide +kernel
theorem dX11_later_20 : decode cX11_later 20 = .ok (.if_icmp .le 5, 3) := by decide +kernel
theorem dX11_later_23 : decode cX11_later 23 = .ok (.iconst (-1), 1) := by decide +kernel
theorem dX11_later_24 : decode cX11_later 24 = .ok (.ireturn, 1) := by decide +kernel
theorem dX11_later_25 : decode cX11_later 25 = .ok (.aload_n 0, 1) := by decide +kernel
theorem dX11_later_26 : decode cX11_later 26 = .ok (.dup, 1) := by decide +kernel
theorem dX11_later_27 : decode cX11_later 27 = .ok (.getfield 527, 3) := by decide +kernel
theorem dX11_later_30 : decode cX11_later 30 = .ok (.iload_n 1, 1) := by decide +kernel
theorem dX11_later_31 : decode cX11_later 31 = .ok (.iadd, 1) := by decide +kernel
theorem dX11_later_32 : decode cX11_later 32 = .ok (.putfield 527, 3) := by decide +kernel
theorem dX11_later_35 : decode cX11_later 35 = .ok (.aload_n 0, 1) := by decide +kernel
theorem dX11_later_36 : decode cX11_later 36 = .ok (.getfield 527, 3) := by decide +kernel
theorem dX11_later_39 : decode cX11_later 39 = .ok (.ireturn, 1) := by decide +kernel
theorem dX11_law_0 : decode cX11_law 0 = .ok (.iload_n 1, 1) := by decide +kernel
theorem dX11_law_1 : decode cX11_law 1 = .ok (.iconst 0, 1) := by decide +kernel
theorem dX11_law_2 : decode cX11_law 2 = .ok (.sipush 999, 3) := by decide +kernel
theorem dX11_law_5 : decode cX11_law 5 = .ok (.invokestatic 417, 3) := by decide +kernel
theorem dX11_law_8 : decode cX11_law 8 = .ok (.ifCond .ne 5, 3) := by decide +kernel
theorem dX11_law_11 : decode cX11_law 11 = .ok (.iconst (-1), 1) := by decide +kernel
theorem dX11_law_12 : decode cX11_law 12 = .ok (.ireturn, 1) := by decide +kernel
theorem dX11_law_13 : decode cX11_law 13 = .ok (.aload_n 0, 1) := by decide +kernel
theorem dX11_law_14 : decode cX11_law 14 = .ok (.invokevirtual 449, 3) := by decide +kernel
theorem dX11_law_17 : decode cX11_law 17 = .ok (.iconst 0, 1) := by decide +kernel
theorem dX11_law_18 : decode cX11_law 18 = .ok (.istore_n 2, 1) := by decide +kernel
theorem dX11_law_19 : decode cX11_law 19 = .ok (.iconst 0, 1) := by decide +kernel
theorem dX11_law_20 : decode cX11_law 20 = .ok (.istore_n 3, 1) := by decide +kernel
theorem dX11_law_21 : decode cX11_law 21 = .ok (.iload_n 3, 1) := by decide +kernel
theorem dX11_law_22 : decode cX11_law 22 = .ok (.aload_n 0, 1) := by decide +kernel
theorem dX11_law_23 : decode cX11_law 23 = .ok (.getfield 387, 3) := by decide +kernel
theorem dX11_law_26 : decode cX11_law 26 = .ok (.if_icmp .ge 37, 3) := by decide +kernel
theorem dX11_law_63 : decode cX11_law 63 = .ok (.iload_n 2, 1) := by decide +kernel
theorem dX11_law_64 : decode cX11_law 64 = .ok (.ireturn, 1) := by decide +kernel
theorem dX11_layDress_0 : decode cX11_layDress 0 = .ok (.iload_n 1, 1) := by decide +kernel
theorem dX11_layDress_1 : decode cX11_layDress 1 = .ok (.istore_n 2, 1) := by decide +kernel
theorem dX11_layDress_2 : decode cX11_layDress 2 = .ok (.iconst 0, 1) := by decide +kernel
theorem dX11_layDress_3 : decode cX11_layDress 3 = .ok (.istore_n 3, 1) := by decide +kernel
theorem dX11_layDress_4 : decode cX11_layDress 4 = .ok (.iconst 0, 1) := by decide +kernel
theorem dX11_layDress_5 : decode cX11_layDress 5 = .ok (.istore 4, 2) := by decide +kernel
theorem dX11_layDress_7 : decode cX11_layDress 7 = .ok (.aload_n 0, 1) := by decide +kernel
theorem dX11_layDress_8 : decode cX11_layDress 8 = .ok (.getfield 387, 3) := by decide +kernel
theorem dX11_layDress_11 : decode cX11_layDress 11 = .ok (.iconst 1, 1) := by decide +kernel
theorem dX11_layDress_12 : decode cX11_layDress 12 = .ok (.isub, 1) := by decide +kernel
theorem dX11_layDress_13 : decode cX11_layDress 13 = .ok (.istore 5, 2) := by decide +kernel
theorem dX11_layDress_15 : decode cX11_layDress 15 = .ok (.iload 5, 2) := by decide +kernel
theorem dX11_layDress_17 : decode cX11_layDress 17 = .ok (.ifCond .lt 104, 3) := by decide +kernel
theorem dX11_layDress_121 : decode cX11_layDress 121 = .ok (.iload 4, 2) := by decide +kernel
theorem dX11_layDress_123 : decode cX11_layDress 123 = .ok (.ireturn, 1) := by decide +kernel
theorem dX11_layGrowths_0 : decode cX11_layGrowths 0 = .ok (.iconst 0, 1) := by decide +kernel
theorem dX11_layGrowths_1 : decode cX11_layGrowths 1 = .ok (.istore_n 2, 1) := by decide +kernel
theorem dX11_layGrowths_2 : decode cX11_layGrowths 2 = .ok (.iconst 0, 1) := by decide +kernel
theorem dX11_layGrowths_3 : decode cX11_layGrowths 3 = .ok (.istore_n 3, 1) := by decide +kernel
theorem dX11_layGrowths_4 : decode cX11_layGrowths 4 = .ok (.iload_n 3, 1) := by decide +kernel
theorem dX11_layGrowths_5 : decode cX11_layGrowths 5 = .ok (.bipush 30, 2) := by decide +kernel
theorem dX11_layGrowths_7 : decode cX11_layGrowths 7 = .ok (.if_icmp .gt 136, 3) := by decide +kernel
theorem dX11_layGrowths_10 : decode cX11_layGrowths 10 = .ok (.aload_n 0, 1) := by decide +kernel
theorem dX11_layGrowths_11 : decode cX11_layGrowths 11 = .ok (.getfield 387, 3) := by decide +kernel
theorem dX11_layGrowths_14 : decode cX11_layGrowths 14 = .ok (.ifCond .le 129, 3) := by decide +kernel
theorem dX11_layGrowths_143 : decode cX11_layGrowths 143 = .ok (.iload_n 2, 1) := by decide +kernel
theorem dX11_layGrowths_144 : decode cX11_layGrowths 144 = .ok (.ireturn, 1) := by decide +kernel
theorem dX11_layIlls_0 : decode cX11_layIlls 0 = .ok (.aload_n 0, 1) := by decide +kernel
theorem dX11_layIlls_1 : decode cX11_layIlls 1 = .ok (.invokevirtual 449, 3) := by decide +kernel
theorem dX11_layIlls_4 : decode cX11_layIlls 4 = .ok (.iconst 0, 1) := by decide +kernel
theorem dX11_layIlls_5 : decode cX11_layIlls 5 = .ok (.istore_n 1, 1) := by decide +kernel
theorem dX11_layIlls_6 : decode cX11_layIlls 6 = .ok (.iload_n 1, 1) := by decide +kernel
theorem dX11_layIlls_7 : decode cX11_layIlls 7 = .ok (.aload_n 0, 1) := by decide +kernel
theorem dX11_layIlls_8 : decode cX11_layIlls 8 = .ok (.getfield 387, 3) := by decide +kernel
theorem dX11_layIlls_11 : decode cX11_layIlls 11 = .ok (.if_icmp .ge 42, 3) := by decide +kernel
theorem dX11_layIlls_53 : decode cX11_layIlls 53 = .ok (.return_, 1) := by decide +kernel
theorem dX11_letout_0 : decode cX11_letout 0 = .ok (.aload_n 0, 1) := by decide +kernel
theorem dX11_letout_1 : decode cX11_letout 1 = .ok (.iload_n 1, 1) := by decide +kernel
theorem dX11_letout_2 : decode cX11_letout 2 = .ok (.invokevirtual 455, 3) := by decide +kernel
theorem dX11_letout_5 : decode cX11_letout 5 = .ok (.ifCond .eq 36, 3) := by decide +kernel
theorem dX11_letout_41 : decode cX11_letout 41 = .ok (.iconst (-1), 1) := by decide +kernel
theorem dX11_letout_42 : decode cX11_letout 42 = .ok (.ireturn, 1) := by decide +kernel
theorem dX11_lies_0 : decode cX11_lies 0 = .ok (.iload_n 1, 1) := by decide +kernel
theorem dX11_lies_1 : decode cX11_lies 1 = .ok (.iconst 0, 1) := by decide +kernel
theorem dX11_lies_2 : decode cX11_lies 2 = .ok (.aload_n 0, 1) := by decide +kernel
theorem dX11_lies_3 : decode cX11_lies 3 = .ok (.getfield 414, 3) := by decide +kernel
theorem dX11_lies_6 : decode cX11_lies 6 = .ok (.iconst 1, 1) := by decide +kernel
theorem dX11_lies_7 : decode cX11_lies 7 = .ok (.isub, 1) := by decide +kernel
theorem dX11_lies_8 : decode cX11_lies 8 = .ok (.invokestatic 417, 3) := by decide +kernel
theorem dX11_lies_11 : decode cX11_lies 11 = .ok (.ifCond .eq 12, 3) := by decide +kernel
theorem dX11_lies_23 : decode cX11_lies 23 = .ok (.bipush (-2), 2) := by decide +kernel
theorem dX11_lies_25 : decode cX11_lies 25 = .ok (.ireturn, 1) := by decide +kernel
theorem dX11_man_0 : decode cX11_man 0 = .ok (.aload_n 0, 1) := by decide +kernel
theorem dX11_man_1 : decode cX11_man 1 = .ok (.iload_n 1, 1) := by decide +kernel
theorem dX11_man_2 : decode cX11_man 2 = .ok (.invokevirtual 446, 3) := by decide +kernel
theorem dX11_man_5 : decode cX11_man 5 = .ok (.ifCond .ne 6, 3) := by decide +kernel
theorem dX11_man_8 : decode cX11_man 8 = .ok (.bipush (-2), 2) := by decide +kernel
theorem dX11_man_10 : decode cX11_man 10 = .ok (.ireturn, 1) := by decide +kernel
theorem dX11_members_0 : decode cX11_members 0 = .ok (.iconst 0, 1) := by decide +kernel
theorem dX11_members_1 : decode cX11_members 1 = .ok (.istore_n 1, 1) := by decide +kernel
theorem dX11_members_2 : decode cX11_members 2 = .ok (.iconst 0, 1) := by decide +kernel
theorem dX11_members_3 : decode cX11_members 3 = .ok (.istore_n 2, 1) := by decide +kernel
theorem dX11_members_4 : decode cX11_members 4 = .ok (.iload_n 2, 1) := by decide +kernel
theorem dX11_members_5 : decode cX11_members 5 = .ok (.bipush 6, 2) := by decide +kernel
theorem dX11_members_7 : decode cX11_members 7 = .ok (.if_icmp .ge 17, 3) := by decide +kernel
theorem dX11_members_10 : decode cX11_members 10 = .ok (.iload_n 1, 1) := by decide +kernel
theorem dX11_members_11 : decode cX11_members 11 = .ok (.iload_n 0, 1) := by decide +kernel
theorem dX11_members_12 : decode cX11_members 12 = .ok (.iload_n 2, 1) := by decide +kernel
theorem dX11_members_13 : decode cX11_members 13 = .ok (.ishr, 1) := by decide +kernel
theorem dX11_members_14 : decode cX11_members 14 = .ok (.iconst 1, 1) := by decide +kernel
theorem dX11_members_15 : decode cX11_members 15 = .ok (.iand, 1) := by decide +kernel
theorem dX11_members_16 : decode cX11_members 16 = .ok (.iadd, 1) := by decide +kernel
theorem dX11_members_17 : decode cX11_members 17 = .ok (.istore_n 1, 1) := by decide +kernel
theorem dX11_members_18 : decode cX11_members 18 = .ok (.iinc 2 1, 3) := by decide +kernel
theorem dX11_members_21 : decode cX11_members 21 = .ok (.goto (-17), 3) := by decide +kernel
theorem dX11_members_24 : decode cX11_members 24 = .ok (.iload_n 1, 1) := by decide +kernel
theorem dX11_members_25 : decode cX11_members 25 = .ok (.ireturn, 1) := by decide +kernel
theorem dX11_misfit_0 : decode cX11_misfit 0 = .ok (.aload_n 0, 1) := by decide +kernel
theorem dX11_misfit_1 : decode cX11_misfit 1 = .ok (.invokevirtual 449, 3) := by decide +kernel
theorem dX11_misfit_4 : decode cX11_misfit 4 = .ok (.aload_n 0, 1) := by decide +kernel
theorem dX11_misfit_5 : decode cX11_misfit 5 = .ok (.iload_n 1, 1) := by decide +kernel
theorem dX11_misfit_6 : decode cX11_misfit 6 = .ok (.invokevirtual 446, 3) := by decide +kernel
theorem dX11_misfit_9 : decode cX11_misfit 9 = .ok (.ifCond .eq 20, 3) := by decide +kernel
theorem dX11_misfit_29 : decode cX11_misfit 29 = .ok (.iconst (-1), 1) := by decide +kernel
theorem dX11_misfit_30 : decode cX11_misfit 30 = .ok (.ireturn, 1) := by decide +kernel
theorem dX11_naked_0 : decode cX11_naked 0 = .ok (.aload_n 0, 1) := by decide +kernel
theorem dX11_naked_1 : decode cX11_naked 1 = .ok (.invokevirtual 449, 3) := by decide +kernel
theorem dX11_naked_4 : decode cX11_naked 4 = .ok (.iconst 0, 1) := by decide +kernel
theorem dX11_naked_5 : decode cX11_naked 5 = .ok (.istore_n 1, 1) := by decide +kernel
theorem dX11_naked_6 : decode cX11_naked 6 = .ok (.iconst 0, 1) := by decide +kernel
theorem dX11_naked_7 : decode cX11_naked 7 = .ok (.istore_n 2, 1) := by decide +kernel
theorem dX11_naked_8 : decode cX11_naked 8 = .ok (.iload_n 2, 1) := by decide +kernel
theorem dX11_naked_9 : decode cX11_naked 9 = .ok (.aload_n 0, 1) := by decide +kernel
theorem dX11_naked_10 : decode cX11_naked 10 = .ok (.getfield 387, 3) := by decide +kernel
theorem dX11_naked_13 : decode cX11_naked 13 = .ok (.if_icmp .ge 30, 3) := by decide +kernel
theorem dX11_naked_43 : decode cX11_naked 43 = .ok (.iload_n 1, 1) := by decide +kernel
theorem dX11_naked_44 : decode cX11_naked 44 = .ok (.ireturn, 1) := by decide +kernel
theorem dX11_odds_0 : decode cX11_odds 0 = .ok (.iload_n 1, 1) := by decide +kernel
theorem dX11_odds_1 : decode cX11_odds 1 = .ok (.iconst 0, 1) := by decide +kernel
theorem dX11_odds_2 : decode cX11_odds 2 = .ok (.iconst 4, 1) := by decide +kernel
theorem dX11_odds_3 : decode cX11_odds 3 = .ok (.invokestatic 417, 3) := by decide +kernel
theorem dX11_odds_6 : decode cX11_odds 6 = .ok (.ifCond .eq 12, 3) := by decide +kernel
theorem dX11_odds_9 : decode cX11_odds 9 = .ok (.iload_n 2, 1) := by decide +kernel
theorem dX11_odds_10 : decode cX11_odds 10 = .ok (.iconst 0, 1) := by decide +kernel
theorem dX11_odds_11 : decode cX11_odds 11 = .ok (.iconst 1, 1) := by decide +kernel
theorem dX11_odds_12 : decode cX11_odds 12 = .ok (.invokestatic 417, 3) := by decide +kernel
theorem dX11_odds_15 : decode cX11_odds 15 = .ok (.ifCond .ne 5, 3) := by decide +kernel
theorem dX11_odds_18 : decode cX11_odds 18 = .ok (.iconst (-1), 1) := by decide +kernel
theorem dX11_odds_19 : decode cX11_odds 19 = .ok (.ireturn, 1) := by decide +kernel
theorem dX11_odds_20 : decode cX11_odds 20 = .ok (.bipush 100, 2) := by decide +kernel
theorem dX11_odds_22 : decode cX11_odds 22 = .ok (.aload_n 0, 1) := by decide +kernel
theorem dX11_odds_23 : decode cX11_odds 23 = .ok (.getfield 393, 3) := by decide +kernel
theorem dX11_odds_26 : decode cX11_odds 26 = .ok (.isub, 1) := by decide +kernel
theorem dX11_odds_27 : decode cX11_odds 27 = .ok (.iload_n 1, 1) := by decide +kernel
theorem dX11_odds_28 : decode cX11_odds 28 = .ok (.invokestatic 473, 3) := by decide +kernel
theorem dX11_odds_31 : decode cX11_odds 31 = .ok (.istore_n 3, 1) := by decide +kernel
theorem dX11_odds_32 : decode cX11_odds 32 = .ok (.bipush 100, 2) := by decide +kernel
theorem dX11_odds_34 : decode cX11_odds 34 = .ok (.iload_n 1, 1) := by decide +kernel
theorem dX11_odds_35 : decode cX11_odds 35 = .ok (.invokestatic 473, 3) := by decide +kernel
theorem dX11_odds_38 : decode cX11_odds 38 = .ok (.istore 4, 2) := by decide +kernel
theorem dX11_odds_40 : decode cX11_odds 40 = .ok (.iload 4, 2) := by decide +kernel
theorem dX11_odds_42 : decode cX11_odds 42 = .ok (.iload_n 3, 1) := by decide +kernel
theorem dX11_odds_43 : decode cX11_odds 43 = .ok (.invokestatic 524, 3) := by decide +kernel
theorem dX11_odds_46 : decode cX11_odds 46 = .ok (.istore 5, 2) := by decide +kernel
theorem dX11_odds_48 : decode cX11_odds 48 = .ok (.iload_n 2, 1) := by decide +kernel
theorem dX11_odds_49 : decode cX11_odds 49 = .ok (.ifCond .ne 10, 3) := by decide +kernel
theorem dX11_odds_52 : decode cX11_odds 52 = .ok (.iload_n 3, 1) := by decide +kernel
theorem dX11_odds_53 : decode cX11_odds 53 = .ok (.iload 5, 2) := by decide +kernel
theorem dX11_odds_55 : decode cX11_odds 55 = .ok (.idiv, 1) := by decide +kernel
theorem dX11_odds_56 : decode cX11_odds 56 = .ok (.goto 8, 3) := by decide +kernel
theorem dX11_odds_59 : decode cX11_odds 59 = .ok (.iload 4, 2) := by decide +kernel
theorem dX11_odds_61 : decode cX11_odds 61 = .ok (.iload 5, 2) := by decide +kernel
theorem dX11_odds_63 : decode cX11_odds 63 = .ok (.idiv, 1) := by decide +kernel
theorem dX11_odds_64 : decode cX11_odds 64 = .ok (.ireturn, 1) := by decide +kernel
theorem dX11_out_0 : decode cX11_out 0 = .ok (.aload_n 0, 1) := by decide +kernel
theorem dX11_out_1 : decode cX11_out 1 = .ok (.iload_n 1, 1) := by decide +kernel
theorem dX11_out_2 : decode cX11_out 2 = .ok (.invokevirtual 446, 3) := by decide +kernel
theorem dX11_out_5 : decode cX11_out 5 = .ok (.ifCond .ne 5, 3) := by decide +kernel
theorem dX11_out_8 : decode cX11_out 8 = .ok (.iconst (-1), 1) := by decide +kernel
theorem dX11_out_9 : decode cX11_out 9 = .ok (.ireturn, 1) := by decide +kernel
theorem dX11_plain_0 : decode cX11_plain 0 = .ok (.iload_n 0, 1) := by decide +kernel
theorem dX11_plain_1 : decode cX11_plain 1 = .ok (.ifCond .ge 8, 3) := by decide +kernel
theorem dX11_plain_9 : decode cX11_plain 9 = .ok (.iload_n 0, 1) := by decide +kernel
theorem dX11_plain_10 : decode cX11_plain 10 = .ok (.ireturn, 1) := by decide +kernel
theorem dX11_popular_0 : decode cX11_popular 0 = .ok (.aload_n 0, 1) := by decide +kernel
theorem dX11_popular_1 : decode cX11_popular 1 = .ok (.invokevirtual 449, 3) := by decide +kernel
theorem dX11_popular_4 : decode cX11_popular 4 = .ok (.aload_n 0, 1) := by decide +kernel
theorem dX11_popular_5 : decode cX11_popular 5 = .ok (.iload_n 1, 1) := by decide +kernel
theorem dX11_popular_6 : decode cX11_popular 6 = .ok (.invokevirtual 455, 3) := by decide +kernel
theorem dX11_popular_9 : decode cX11_popular 9 = .ok (.ifCond .eq 11, 3) := by decide +kernel
theorem dX11_popular_20 : decode cX11_popular 20 = .ok (.iconst (-1), 1) := by decide +kernel
theorem dX11_popular_21 : decode cX11_popular 21 = .ok (.ireturn, 1) := by decide +kernel
theorem dX11_power_0 : decode cX11_power 0 = .ok (.iconst 1, 1) := by decide +kernel
theorem dX11_power_1 : decode cX11_power 1 = .ok (.istore_n 2, 1) := by decide +kernel
theorem dX11_power_2 : decode cX11_power 2 = .ok (.iconst 0, 1) := by decide +kernel
theorem dX11_power_3 : decode cX11_power 3 = .ok (.istore_n 3, 1) := by decide +kernel
theorem dX11_power_4 : decode cX11_power 4 = .ok (.iload_n 3, 1) := by decide +kernel
theorem dX11_power_5 : decode cX11_power 5 = .ok (.iload_n 1, 1) := by decide +kernel
theorem dX11_power_6 : decode cX11_power 6 = .ok (.if_icmp .ge 13, 3) := by decide +kernel
theorem dX11_power_9 : decode cX11_power 9 = .ok (.iload_n 2, 1) := by decide +kernel
theorem dX11_power_10 : decode cX11_power 10 = .ok (.iload_n 0, 1) := by decide +kernel
theorem dX11_power_11 : decode cX11_power 11 = .ok (.imul, 1) := by decide +kernel
theorem dX11_power_12 : decode cX11_power 12 = .ok (.istore_n 2, 1) := by decide +kernel
theorem dX11_power_13 : decode cX11_power 13 = .ok (.iinc 3 1, 3) := by decide +kernel
theorem dX11_power_16 : decode cX11_power 16 = .ok (.goto (-12), 3) := by decide +kernel
theorem dX11_power_19 : decode cX11_power 19 = .ok (.iload_n 2, 1) := by decide +kernel
