theorem dX1_passDay_151 : decode cX1_passDay 151 = .ok (.invokevirtual 51, 3) := by decide +kernel
theorem dX1_passDay_154 : decode cX1_passDay 154 = .ok (.iconst (-1), 1) := by decide +kernel
theorem dX1_passDay_155 : decode cX1_passDay 155 = .ok (.if_icmp .eq 32, 3) := by decide +kernel
theorem dX1_passDay_158 : decode cX1_passDay 158 = .ok (.aload_n 0, 1) := by decide +kernel
theorem dX1_passDay_159 : decode cX1_passDay 159 = .ok (.iload 4, 2) := by decide +kernel
theorem dX1_passDay_161 : decode cX1_passDay 161 = .ok (.aload_n 0, 1) := by decide +kernel
theorem dX1_passDay_162 : decode cX1_passDay 162 = .ok (.iload 4, 2) := by decide +kernel
theorem dX1_passDay_164 : decode cX1_passDay 164 = .ok (.invokevirtual 51, 3) := by decide +kernel
theorem dX1_passDay_167 : decode cX1_passDay 167 = .ok (.invokevirtual 84, 3) := by decide +kernel
theorem dX1_passDay_170 : decode cX1_passDay 170 = .ok (.ifCond .ne 17, 3) := by decide +kernel
theorem dX1_passDay_173 : decode cX1_passDay 173 = .ok (.aload_n 0, 1) := by decide +kernel
theorem dX1_passDay_174 : decode cX1_passDay 174 = .ok (.iload 4, 2) := by decide +kernel
theorem dX1_passDay_176 : decode cX1_passDay 176 = .ok (.iconst (-1), 1) := by decide +kernel
theorem dX1_passDay_177 : decode cX1_passDay 177 = .ok (.invokevirtual 97, 3) := by decide +kernel
theorem dX1_passDay_180 : decode cX1_passDay 180 = .ok (.iload_n 3, 1) := by decide +kernel
theorem dX1_passDay_181 : decode cX1_passDay 181 = .ok (.iconst 1, 1) := by decide +kernel
theorem dX1_passDay_182 : decode cX1_passDay 182 = .ok (.iload 4, 2) := by decide +kernel
theorem dX1_passDay_184 : decode cX1_passDay 184 = .ok (.ishl, 1) := by decide +kernel
theorem dX1_passDay_185 : decode cX1_passDay 185 = .ok (.ior, 1) := by decide +kernel
theorem dX1_passDay_186 : decode cX1_passDay 186 = .ok (.istore_n 3, 1) := by decide +kernel
theorem dX1_passDay_187 : decode cX1_passDay 187 = .ok (.iinc 4 1, 3) := by decide +kernel
theorem dX1_passDay_190 : decode cX1_passDay 190 = .ok (.goto (-54), 3) := by decide +kernel
theorem dX1_passDay_193 : decode cX1_passDay 193 = .ok (.iload_n 3, 1) := by decide +kernel
theorem dX1_passDay_194 : decode cX1_passDay 194 = .ok (.ireturn, 1) := by decide +kernel
theorem dX1_saveTo_0 : decode cX1_saveTo 0 = .ok (.iload_n 2, 1) := by decide +kernel
theorem dX1_saveTo_1 : decode cX1_saveTo 1 = .ok (.ifCond .lt 27, 3) := by decide +kernel
theorem dX1_saveTo_4 : decode cX1_saveTo 4 = .ok (.iload_n 2, 1) := by decide +kernel
theorem dX1_saveTo_5 : decode cX1_saveTo 5 = .ok (.aload_n 1, 1) := by decide +kernel
theorem dX1_saveTo_6 : decode cX1_saveTo 6 = .ok (.arraylength, 1) := by decide +kernel
theorem dX1_saveTo_7 : decode cX1_saveTo 7 = .ok (.bipush 44, 2) := by decide +kernel
theorem dX1_saveTo_9 : decode cX1_saveTo 9 = .ok (.idiv, 1) := by decide +kernel
theorem dX1_saveTo_10 : decode cX1_saveTo 10 = .ok (.if_icmp .ge 18, 3) := by decide +kernel
theorem dX1_saveTo_13 : decode cX1_saveTo 13 = .ok (.aload_n 0, 1) := by decide +kernel
theorem dX1_saveTo_14 : decode cX1_saveTo 14 = .ok (.getfield 11, 3) := by decide +kernel
theorem dX1_saveTo_17 : decode cX1_saveTo 17 = .ok (.iconst 0, 1) := by decide +kernel
theorem dX1_saveTo_18 : decode cX1_saveTo 18 = .ok (.aload_n 1, 1) := by decide +kernel
theorem dX1_saveTo_19 : decode cX1_saveTo 19 = .ok (.iload_n 2, 1) := by decide +kernel
theorem dX1_saveTo_20 : decode cX1_saveTo 20 = .ok (.bipush 44, 2) := by decide +kernel
theorem dX1_saveTo_22 : decode cX1_saveTo 22 = .ok (.imul, 1) := by decide +kernel
theorem dX1_saveTo_23 : decode cX1_saveTo 23 = .ok (.bipush 44, 2) := by decide +kernel
theorem dX1_saveTo_25 : decode cX1_saveTo 25 = .ok (.invokestatic 35, 3) := by decide +kernel
theorem dX1_saveTo_28 : decode cX1_saveTo 28 = .ok (.return_, 1) := by decide +kernel
theorem dX1_seed_0 : decode cX1_seed 0 = .ok (.aload_n 0, 1) := by decide +kernel
theorem dX1_seed_1 : decode cX1_seed 1 = .ok (.getfield 11, 3) := by decide +kernel
theorem dX1_seed_4 : decode cX1_seed 4 = .ok (.bipush 43, 2) := by decide +kernel
theorem dX1_seed_6 : decode cX1_seed 6 = .ok (.iaload, 1) := by decide +kernel
theorem dX1_seed_7 : decode cX1_seed 7 = .ok (.ireturn, 1) := by decide +kernel
theorem dX1_setPart_0 : decode cX1_setPart 0 = .ok (.aload_n 0, 1) := by decide +kernel
theorem dX1_setPart_1 : decode cX1_setPart 1 = .ok (.getfield 15, 3) := by decide +kernel
theorem dX1_setPart_4 : decode cX1_setPart 4 = .ok (.iload_n 2, 1) := by decide +kernel
theorem dX1_setPart_5 : decode cX1_setPart 5 = .ok (.invokevirtual 45, 3) := by decide +kernel
theorem dX1_setPart_8 : decode cX1_setPart 8 = .ok (.ifCond .eq 27, 3) := by decide +kernel
theorem dX1_setPart_11 : decode cX1_setPart 11 = .ok (.iload_n 1, 1) := by decide +kernel
theorem dX1_setPart_12 : decode cX1_setPart 12 = .ok (.ifCond .lt 23, 3) := by decide +kernel
theorem dX1_setPart_15 : decode cX1_setPart 15 = .ok (.iload_n 1, 1) := by decide +kernel
theorem dX1_setPart_16 : decode cX1_setPart 16 = .ok (.iconst 5, 1) := by decide +kernel
theorem dX1_setPart_17 : decode cX1_setPart 17 = .ok (.if_icmp .ge 18, 3) := by decide +kernel
theorem dX1_setPart_20 : decode cX1_setPart 20 = .ok (.aload_n 0, 1) := by decide +kernel
theorem dX1_setPart_21 : decode cX1_setPart 21 = .ok (.getfield 11, 3) := by decide +kernel
theorem dX1_setPart_24 : decode cX1_setPart 24 = .ok (.bipush 12, 2) := by decide +kernel
theorem dX1_setPart_26 : decode cX1_setPart 26 = .ok (.iload_n 1, 1) := by decide +kernel
theorem dX1_setPart_27 : decode cX1_setPart 27 = .ok (.bipush 6, 2) := by decide +kernel
theorem dX1_setPart_29 : decode cX1_setPart 29 = .ok (.imul, 1) := by decide +kernel
theorem dX1_setPart_30 : decode cX1_setPart 30 = .ok (.iadd, 1) := by decide +kernel
theorem dX1_setPart_31 : decode cX1_setPart 31 = .ok (.iload_n 2, 1) := by decide +kernel
theorem dX1_setPart_32 : decode cX1_setPart 32 = .ok (.iadd, 1) := by decide +kernel
theorem dX1_setPart_33 : decode cX1_setPart 33 = .ok (.iload_n 3, 1) := by decide +kernel
theorem dX1_setPart_34 : decode cX1_setPart 34 = .ok (.iastore, 1) := by decide +kernel
theorem dX1_setPart_35 : decode cX1_setPart 35 = .ok (.return_, 1) := by decide +kernel
theorem dX1_setWears_0 : decode cX1_setWears 0 = .ok (.aload_n 0, 1) := by decide +kernel
theorem dX1_setWears_1 : decode cX1_setWears 1 = .ok (.getfield 15, 3) := by decide +kernel
theorem dX1_setWears_4 : decode cX1_setWears 4 = .ok (.iload_n 1, 1) := by decide +kernel
theorem dX1_setWears_5 : decode cX1_setWears 5 = .ok (.invokevirtual 41, 3) := by decide +kernel
theorem dX1_setWears_8 : decode cX1_setWears 8 = .ok (.ifCond .eq 13, 3) := by decide +kernel
theorem dX1_setWears_11 : decode cX1_setWears 11 = .ok (.aload_n 0, 1) := by decide +kernel
theorem dX1_setWears_12 : decode cX1_setWears 12 = .ok (.getfield 11, 3) := by decide +kernel
theorem dX1_setWears_15 : decode cX1_setWears 15 = .ok (.bipush 6, 2) := by decide +kernel
theorem dX1_setWears_17 : decode cX1_setWears 17 = .ok (.iload_n 1, 1) := by decide +kernel
theorem dX1_setWears_18 : decode cX1_setWears 18 = .ok (.iadd, 1) := by decide +kernel
theorem dX1_setWears_19 : decode cX1_setWears 19 = .ok (.iload_n 2, 1) := by decide +kernel
theorem dX1_setWears_20 : decode cX1_setWears 20 = .ok (.iastore, 1) := by decide +kernel
theorem dX1_setWears_21 : decode cX1_setWears 21 = .ok (.return_, 1) := by decide +kernel
theorem dX1_today_0 : decode cX1_today 0 = .ok (.aload_n 0, 1) := by decide +kernel
theorem dX1_today_1 : decode cX1_today 1 = .ok (.getfield 11, 3) := by decide +kernel
theorem dX1_today_4 : decode cX1_today 4 = .ok (.bipush 42, 2) := by decide +kernel
theorem dX1_today_6 : decode cX1_today 6 = .ok (.iaload, 1) := by decide +kernel
theorem dX1_today_7 : decode cX1_today 7 = .ok (.ireturn, 1) := by decide +kernel
theorem dX1_wearer_0 : decode cX1_wearer 0 = .ok (.iconst 0, 1) := by decide +kernel
theorem dX1_wearer_1 : decode cX1_wearer 1 = .ok (.istore_n 2, 1) := by decide +kernel
theorem dX1_wearer_2 : decode cX1_wearer 2 = .ok (.iload_n 2, 1) := by decide +kernel
theorem dX1_wearer_3 : decode cX1_wearer 3 = .ok (.aload_n 0, 1) := by decide +kernel
theorem dX1_wearer_4 : decode cX1_wearer 4 = .ok (.getfield 15, 3) := by decide +kernel
theorem dX1_wearer_7 : decode cX1_wearer 7 = .ok (.getfield 48, 3) := by decide +kernel
theorem dX1_wearer_10 : decode cX1_wearer 10 = .ok (.if_icmp .ge 20, 3) := by decide +kernel
theorem dX1_wearer_13 : decode cX1_wearer 13 = .ok (.aload_n 0, 1) := by decide +kernel
theorem dX1_wearer_14 : decode cX1_wearer 14 = .ok (.iload_n 2, 1) := by decide +kernel
theorem dX1_wearer_15 : decode cX1_wearer 15 = .ok (.invokevirtual 51, 3) := by decide +kernel
theorem dX1_wearer_18 : decode cX1_wearer 18 = .ok (.iload_n 1, 1) := by decide +kernel
theorem dX1_wearer_19 : decode cX1_wearer 19 = .ok (.if_icmp .ne 5, 3) := by decide +kernel
theorem dX1_wearer_22 : decode cX1_wearer 22 = .ok (.iload_n 2, 1) := by decide +kernel
theorem dX1_wearer_23 : decode cX1_wearer 23 = .ok (.ireturn, 1) := by decide +kernel
theorem dX1_wearer_24 : decode cX1_wearer 24 = .ok (.iinc 2 1, 3) := by decide +kernel
theorem dX1_wearer_27 : decode cX1_wearer 27 = .ok (.goto (-25), 3) := by decide +kernel
theorem dX1_wearer_30 : decode cX1_wearer 30 = .ok (.iconst (-1), 1) := by decide +kernel
theorem dX1_wearer_31 : decode cX1_wearer 31 = .ok (.ireturn, 1) := by decide +kernel
theorem dX1_wearers_0 : decode cX1_wearers 0 = .ok (.iconst 0, 1) := by decide +kernel
theorem dX1_wearers_1 : decode cX1_wearers 1 = .ok (.istore_n 1, 1) := by decide +kernel
theorem dX1_wearers_2 : decode cX1_wearers 2 = .ok (.iconst 0, 1) := by decide +kernel
theorem dX1_wearers_3 : decode cX1_wearers 3 = .ok (.istore_n 2, 1) := by decide +kernel
theorem dX1_wearers_4 : decode cX1_wearers 4 = .ok (.iload_n 2, 1) := by decide +kernel
theorem dX1_wearers_5 : decode cX1_wearers 5 = .ok (.aload_n 0, 1) := by decide +kernel
theorem dX1_wearers_6 : decode cX1_wearers 6 = .ok (.getfield 15, 3) := by decide +kernel
theorem dX1_wearers_9 : decode cX1_wearers 9 = .ok (.getfield 48, 3) := by decide +kernel
theorem dX1_wearers_12 : decode cX1_wearers 12 = .ok (.if_icmp .ge 24, 3) := by decide +kernel
theorem dX1_wearers_15 : decode cX1_wearers 15 = .ok (.aload_n 0, 1) := by decide +kernel
theorem dX1_wearers_16 : decode cX1_wearers 16 = .ok (.iload_n 2, 1) := by decide +kernel
theorem dX1_wearers_17 : decode cX1_wearers 17 = .ok (.invokevirtual 51, 3) := by decide +kernel
theorem dX1_wearers_20 : decode cX1_wearers 20 = .ok (.iconst (-1), 1) := by decide +kernel
theorem dX1_wearers_21 : decode cX1_wearers 21 = .ok (.if_icmp .eq 9, 3) := by decide +kernel
theorem dX1_wearers_24 : decode cX1_wearers 24 = .ok (.iload_n 1, 1) := by decide +kernel
theorem dX1_wearers_25 : decode cX1_wearers 25 = .ok (.iconst 1, 1) := by decide +kernel
theorem dX1_wearers_26 : decode cX1_wearers 26 = .ok (.iload_n 2, 1) := by decide +kernel
theorem dX1_wearers_27 : decode cX1_wearers 27 = .ok (.ishl, 1) := by decide +kernel
theorem dX1_wearers_28 : decode cX1_wearers 28 = .ok (.ior, 1) := by decide +kernel
theorem dX1_wearers_29 : decode cX1_wearers 29 = .ok (.istore_n 1, 1) := by decide +kernel
theorem dX1_wearers_30 : decode cX1_wearers 30 = .ok (.iinc 2 1, 3) := by decide +kernel
theorem dX1_wearers_33 : decode cX1_wearers 33 = .ok (.goto (-29), 3) := by decide +kernel
theorem dX1_wearers_36 : decode cX1_wearers 36 = .ok (.iload_n 1, 1) := by decide +kernel
theorem dX1_wearers_37 : decode cX1_wearers 37 = .ok (.ireturn, 1) := by decide +kernel
theorem dX1_wears_0 : decode cX1_wears 0 = .ok (.aload_n 0, 1) := by decide +kernel
theorem dX1_wears_1 : decode cX1_wears 1 = .ok (.getfield 15, 3) := by decide +kernel
theorem dX1_wears_4 : decode cX1_wears 4 = .ok (.iload_n 1, 1) := by decide +kernel
theorem dX1_wears_5 : decode cX1_wears 5 = .ok (.invokevirtual 41, 3) := by decide +kernel
theorem dX1_wears_8 : decode cX1_wears 8 = .ok (.ifCond .eq 15, 3) := by decide +kernel
theorem dX1_wears_11 : decode cX1_wears 11 = .ok (.aload_n 0, 1) := by decide +kernel
theorem dX1_wears_12 : decode cX1_wears 12 = .ok (.getfield 11, 3) := by decide +kernel
theorem dX1_wears_15 : decode cX1_wears 15 = .ok (.bipush 6, 2) := by decide +kernel
theorem dX1_wears_17 : decode cX1_wears 17 = .ok (.iload_n 1, 1) := by decide +kernel
theorem dX1_wears_18 : decode cX1_wears 18 = .ok (.iadd, 1) := by decide +kernel
theorem dX1_wears_19 : decode cX1_wears 19 = .ok (.iaload, 1) := by decide +kernel
theorem dX1_wears_20 : decode cX1_wears 20 = .ok (.goto 4, 3) := by decide +kernel
theorem dX1_wears_23 : decode cX1_wears 23 = .ok (.iconst (-1), 1) := by decide +kernel
theorem dX1_wears_24 : decode cX1_wears 24 = .ok (.ireturn, 1) := by decide +kernel
theorem dX1_weather_0 : decode cX1_weather 0 = .ok (.aload_n 0, 1) := by decide +kernel
theorem dX1_weather_1 : decode cX1_weather 1 = .ok (.iconst 3, 1) := by decide +kernel
theorem dX1_weather_2 : decode cX1_weather 2 = .ok (.iload_n 1, 1) := by decide +kernel
theorem dX1_weather_3 : decode cX1_weather 3 = .ok (.bipush 99, 2) := by decide +kernel
theorem dX1_weather_5 : decode cX1_weather 5 = .ok (.aload_n 0, 1) := by decide +kernel
theorem dX1_weather_6 : decode cX1_weather 6 = .ok (.iconst 3, 1) := by decide +kernel
theorem dX1_weather_7 : decode cX1_weather 7 = .ok (.iload_n 1, 1) := by decide +kernel
theorem dX1_weather_8 : decode cX1_weather 8 = .ok (.invokevirtual 62, 3) := by decide +kernel
theorem dX1_weather_11 : decode cX1_weather 11 = .ok (.iconst 1, 1) := by decide +kernel
theorem dX1_weather_12 : decode cX1_weather 12 = .ok (.iadd, 1) := by decide +kernel
theorem dX1_weather_13 : decode cX1_weather 13 = .ok (.invokestatic 88, 3) := by decide +kernel
theorem dX1_weather_16 : decode cX1_weather 16 = .ok (.invokevirtual 100, 3) := by decide +kernel
theorem dX1_weather_19 : decode cX1_weather 19 = .ok (.aload_n 0, 1) := by decide +kernel
theorem dX1_weather_20 : decode cX1_weather 20 = .ok (.iconst 1, 1) := by decide +kernel
theorem dX1_weather_21 : decode cX1_weather 21 = .ok (.iload_n 1, 1) := by decide +kernel
theorem dX1_weather_22 : decode cX1_weather 22 = .ok (.iconst 0, 1) := by decide +kernel
theorem dX1_weather_23 : decode cX1_weather 23 = .ok (.aload_n 0, 1) := by decide +kernel
theorem dX1_weather_24 : decode cX1_weather 24 = .ok (.iconst 1, 1) := by decide +kernel
theorem dX1_weather_25 : decode cX1_weather 25 = .ok (.iload_n 1, 1) := by decide +kernel
theorem dX1_weather_26 : decode cX1_weather 26 = .ok (.invokevirtual 62, 3) := by decide +kernel
theorem dX1_weather_29 : decode cX1_weather 29 = .ok (.iload_n 2, 1) := by decide +kernel
theorem dX1_weather_30 : decode cX1_weather 30 = .ok (.isub, 1) := by decide +kernel
theorem dX1_weather_31 : decode cX1_weather 31 = .ok (.invokestatic 104, 3) := by decide +kernel
theorem dX1_weather_34 : decode cX1_weather 34 = .ok (.invokevirtual 100, 3) := by decide +kernel
theorem dX1_weather_37 : decode cX1_weather 37 = .ok (.aload_n 0, 1) := by decide +kernel
theorem dX1_weather_38 : decode cX1_weather 38 = .ok (.iconst 0, 1) := by decide +kernel
theorem dX1_weather_39 : decode cX1_weather 39 = .ok (.iload_n 1, 1) := by decide +kernel
theorem dX1_weather_40 : decode cX1_weather 40 = .ok (.iconst 0, 1) := by decide +kernel
theorem dX1_weather_41 : decode cX1_weather 41 = .ok (.aload_n 0, 1) := by decide +kernel
theorem dX1_weather_42 : decode cX1_weather 42 = .ok (.iconst 0, 1) := by decide +kernel
theorem dX1_weather_43 : decode cX1_weather 43 = .ok (.iload_n 1, 1) := by decide +kernel
theorem dX1_weather_44 : decode cX1_weather 44 = .ok (.invokevirtual 62, 3) := by decide +kernel
theorem dX1_weather_47 : decode cX1_weather 47 = .ok (.iload_n 2, 1) := by decide +kernel
theorem dX1_weather_48 : decode cX1_weather 48 = .ok (.isub, 1) := by decide +kernel
theorem dX1_weather_49 : decode cX1_weather 49 = .ok (.invokestatic 104, 3) := by decide +kernel
theorem dX1_weather_52 : decode cX1_weather 52 = .ok (.invokevirtual 100, 3) := by decide +kernel
theorem dX1_weather_55 : decode cX1_weather 55 = .ok (.return_, 1) := by decide +kernel
theorem dX2_difference_0 : decode cX2_difference 0 = .ok (.aload_n 0, 1) := by decide +kernel
theorem dX2_difference_1 : decode cX2_difference 1 = .ok (.aload_n 0, 1) := by decide +kernel
theorem dX2_difference_2 : decode cX2_difference 2 = .ok (.getfield 19, 3) := by decide +kernel
theorem dX2_difference_5 : decode cX2_difference 5 = .ok (.invokevirtual 39, 3) := by decide +kernel
theorem dX2_difference_8 : decode cX2_difference 8 = .ok (.invokevirtual 48, 3) := by decide +kernel
theorem dX2_difference_11 : decode cX2_difference 11 = .ok (.iconst 2, 1) := by decide +kernel
theorem dX2_difference_12 : decode cX2_difference 12 = .ok (.aload_n 0, 1) := by decide +kernel
theorem dX2_difference_13 : decode cX2_difference 13 = .ok (.iload_n 1, 1) := by decide +kernel
theorem dX2_difference_14 : decode cX2_difference 14 = .ok (.invokevirtual 48, 3) := by decide +kernel
theorem dX2_difference_17 : decode cX2_difference 17 = .ok (.imul, 1) := by decide +kernel
theorem dX2_difference_18 : decode cX2_difference 18 = .ok (.isub, 1) := by decide +kernel
theorem dX2_difference_19 : decode cX2_difference 19 = .ok (.invokestatic 61, 3) := by decide +kernel
theorem dX2_difference_22 : decode cX2_difference 22 = .ok (.ireturn, 1) := by decide +kernel
theorem dX2_frontOf_0 : decode cX2_frontOf 0 = .ok (.iconst (-1), 1) := by decide +kernel
theorem dX2_frontOf_1 : decode cX2_frontOf 1 = .ok (.istore_n 2, 1) := by decide +kernel
theorem dX2_frontOf_2 : decode cX2_frontOf 2 = .ok (.aload_n 0, 1) := by decide +kernel
theorem dX2_frontOf_3 : decode cX2_frontOf 3 = .ok (.getfield 19, 3) := by decide +kernel
theorem dX2_frontOf_6 : decode cX2_frontOf 6 = .ok (.invokevirtual 39, 3) := by decide +kernel
theorem dX2_frontOf_9 : decode cX2_frontOf 9 = .ok (.iconst (-1), 1) := by decide +kernel
theorem dX2_frontOf_10 : decode cX2_frontOf 10 = .ok (.ixor, 1) := by decide +kernel
theorem dX2_frontOf_11 : decode cX2_frontOf 11 = .ok (.istore_n 3, 1) := by decide +kernel
theorem dX2_frontOf_12 : decode cX2_frontOf 12 = .ok (.iconst 0, 1) := by decide +kernel
theorem dX2_frontOf_13 : decode cX2_frontOf 13 = .ok (.istore 4, 2) := by decide +kernel
theorem dX2_frontOf_15 : decode cX2_frontOf 15 = .ok (.iload 4, 2) := by decide +kernel
theorem dX2_frontOf_17 : decode cX2_frontOf 17 = .ok (.bipush 64, 2) := by decide +kernel
theorem dX2_frontOf_19 : decode cX2_frontOf 19 = .ok (.if_icmp .ge 58, 3) := by decide +kernel
theorem dX2_frontOf_22 : decode cX2_frontOf 22 = .ok (.iload_n 2, 1) := by decide +kernel
theorem dX2_frontOf_23 : decode cX2_frontOf 23 = .ok (.iconst (-1), 1) := by decide +kernel
theorem dX2_frontOf_24 : decode cX2_frontOf 24 = .ok (.if_icmp .eq 15, 3) := by decide +kernel
theorem dX2_frontOf_27 : decode cX2_frontOf 27 = .ok (.iload 4, 2) := by decide +kernel
theorem dX2_frontOf_29 : decode cX2_frontOf 29 = .ok (.invokestatic 43, 3) := by decide +kernel
theorem dX2_frontOf_32 : decode cX2_frontOf 32 = .ok (.iload_n 2, 1) := by decide +kernel
theorem dX2_frontOf_33 : decode cX2_frontOf 33 = .ok (.invokestatic 43, 3) := by decide +kernel
theorem dX2_frontOf_36 : decode cX2_frontOf 36 = .ok (.if_icmp .ge 7, 3) := by decide +kernel
theorem dX2_frontOf_39 : decode cX2_frontOf 39 = .ok (.iconst 1, 1) := by decide +kernel
theorem dX2_frontOf_40 : decode cX2_frontOf 40 = .ok (.goto 4, 3) := by decide +kernel
theorem dX2_frontOf_43 : decode cX2_frontOf 43 = .ok (.iconst 0, 1) := by decide +kernel
theorem dX2_frontOf_44 : decode cX2_frontOf 44 = .ok (.istore 5, 2) := by decide +kernel
theorem dX2_frontOf_46 : decode cX2_frontOf 46 = .ok (.iload 4, 2) := by decide +kernel
theorem dX2_frontOf_48 : decode cX2_frontOf 48 = .ok (.iload_n 3, 1) := by decide +kernel
theorem dX2_frontOf_49 : decode cX2_frontOf 49 = .ok (.iand, 1) := by decide +kernel
theorem dX2_frontOf_50 : decode cX2_frontOf 50 = .ok (.ifCond .ne 21, 3) := by decide +kernel
theorem dX2_frontOf_53 : decode cX2_frontOf 53 = .ok (.iload 5, 2) := by decide +kernel
theorem dX2_frontOf_55 : decode cX2_frontOf 55 = .ok (.ifCond .eq 16, 3) := by decide +kernel
theorem dX2_frontOf_58 : decode cX2_frontOf 58 = .ok (.aload_n 0, 1) := by decide +kernel
theorem dX2_frontOf_59 : decode cX2_frontOf 59 = .ok (.iload 4, 2) := by decide +kernel
theorem dX2_frontOf_61 : decode cX2_frontOf 61 = .ok (.invokevirtual 48, 3) := by decide +kernel
theorem dX2_frontOf_64 : decode cX2_frontOf 64 = .ok (.iload_n 1, 1) := by decide +kernel
theorem dX2_frontOf_65 : decode cX2_frontOf 65 = .ok (.if_icmp .lt 6, 3) := by decide +kernel
theorem dX2_frontOf_68 : decode cX2_frontOf 68 = .ok (.iload 4, 2) := by decide +kernel
theorem dX2_frontOf_70 : decode cX2_frontOf 70 = .ok (.istore_n 2, 1) := by decide +kernel
theorem dX2_frontOf_71 : decode cX2_frontOf 71 = .ok (.iinc 4 1, 3) := by decide +kernel
theorem dX2_frontOf_74 : decode cX2_frontOf 74 = .ok (.goto (-59), 3) := by decide +kernel
theorem dX2_frontOf_77 : decode cX2_frontOf 77 = .ok (.iload_n 2, 1) := by decide +kernel
theorem dX2_frontOf_78 : decode cX2_frontOf 78 = .ok (.ireturn, 1) := by decide +kernel
theorem dX2_init_0 : decode cX2_init 0 = .ok (.aload_n 0, 1) := by decide +kernel
theorem dX2_init_1 : decode cX2_init 1 = .ok (.invokespecial 3, 3) := by decide +kernel
theorem dX2_init_4 : decode cX2_init 4 = .ok (.aload_n 0, 1) := by decide +kernel
theorem dX2_init_5 : decode cX2_init 5 = .ok (.bipush 64, 2) := by decide +kernel
theorem dX2_init_7 : decode cX2_init 7 = .ok (.newarray .int, 2) := by decide +kernel
theorem dX2_init_9 : decode cX2_init 9 = .ok (.putfield 9, 3) := by decide +kernel
theorem dX2_init_12 : decode cX2_init 12 = .ok (.aload_n 0, 1) := by decide +kernel
theorem dX2_init_13 : decode cX2_init 13 = .ok (.aload_n 1, 1) := by decide +kernel
theorem dX2_init_14 : decode cX2_init 14 = .ok (.putfield 15, 3) := by decide +kernel
theorem dX2_init_17 : decode cX2_init 17 = .ok (.aload_n 0, 1) := by decide +kernel
theorem dX2_init_18 : decode cX2_init 18 = .ok (.aload_n 2, 1) := by decide +kernel
theorem dX2_init_19 : decode cX2_init 19 = .ok (.putfield 19, 3) := by decide +kernel
theorem dX2_init_22 : decode cX2_init 22 = .ok (.return_, 1) := by decide +kernel
theorem dX2_isEvener_0 : decode cX2_isEvener 0 = .ok (.aload_n 0, 1) := by decide +kernel
theorem dX2_isEvener_1 : decode cX2_isEvener 1 = .ok (.iload_n 1, 1) := by decide +kernel
theorem dX2_isEvener_2 : decode cX2_isEvener 2 = .ok (.invokevirtual 58, 3) := by decide +kernel
theorem dX2_isEvener_5 : decode cX2_isEvener 5 = .ok (.aload_n 0, 1) := by decide +kernel
theorem dX2_isEvener_6 : decode cX2_isEvener 6 = .ok (.iload_n 2, 1) := by decide +kernel
theorem dX2_isEvener_7 : decode cX2_isEvener 7 = .ok (.invokevirtual 58, 3) := by decide +kernel
theorem dX2_isEvener_10 : decode cX2_isEvener 10 = .ok (.isub, 1) := by decide +kernel
theorem dX2_isEvener_11 : decode cX2_isEvener 11 = .ok (.istore_n 3, 1) := by decide +kernel
theorem dX2_isEvener_12 : decode cX2_isEvener 12 = .ok (.iload_n 3, 1) := by decide +kernel
theorem dX2_isEvener_13 : decode cX2_isEvener 13 = .ok (.ifCond .lt 12, 3) := by decide +kernel
theorem dX2_isEvener_16 : decode cX2_isEvener 16 = .ok (.iload_n 3, 1) := by decide +kernel
theorem dX2_isEvener_17 : decode cX2_isEvener 17 = .ok (.ifCond .ne 12, 3) := by decide +kernel
theorem dX2_isEvener_20 : decode cX2_isEvener 20 = .ok (.iload_n 1, 1) := by decide +kernel
theorem dX2_isEvener_21 : decode cX2_isEvener 21 = .ok (.iload_n 2, 1) := by decide +kernel
theorem dX2_isEvener_22 : decode cX2_isEvener 22 = .ok (.if_icmp .ge 7, 3) := by decide +kernel
theorem dX2_isEvener_25 : decode cX2_isEvener 25 = .ok (.iconst 1, 1) := by decide +kernel
theorem dX2_isEvener_26 : decode cX2_isEvener 26 = .ok (.goto 4, 3) := by decide +kernel
theorem dX2_isEvener_29 : decode cX2_isEvener 29 = .ok (.iconst 0, 1) := by decide +kernel
theorem dX2_isEvener_30 : decode cX2_isEvener 30 = .ok (.ireturn, 1) := by decide +kernel
theorem dX2_leastCloth_0 : decode cX2_leastCloth 0 = .ok (.iconst 1, 1) := by decide +kernel
theorem dX2_leastCloth_1 : decode cX2_leastCloth 1 = .ok (.aload_n 0, 1) := by decide +kernel
theorem dX2_leastCloth_2 : decode cX2_leastCloth 2 = .ok (.getfield 15, 3) := by decide +kernel
theorem dX2_leastCloth_5 : decode cX2_leastCloth 5 = .ok (.getfield 66, 3) := by decide +kernel
theorem dX2_leastCloth_8 : decode cX2_leastCloth 8 = .ok (.ishl, 1) := by decide +kernel
theorem dX2_leastCloth_9 : decode cX2_leastCloth 9 = .ok (.iconst 1, 1) := by decide +kernel
theorem dX2_leastCloth_10 : decode cX2_leastCloth 10 = .ok (.isub, 1) := by decide +kernel
theorem dX2_leastCloth_11 : decode cX2_leastCloth 11 = .ok (.istore_n 1, 1) := by decide +kernel
theorem dX2_leastCloth_12 : decode cX2_leastCloth 12 = .ok (.iconst 0, 1) := by decide +kernel
theorem dX2_leastCloth_13 : decode cX2_leastCloth 13 = .ok (.istore_n 2, 1) := by decide +kernel
theorem dX2_leastCloth_14 : decode cX2_leastCloth 14 = .ok (.iload_n 2, 1) := by decide +kernel
theorem dX2_leastCloth_15 : decode cX2_leastCloth 15 = .ok (.aload_n 0, 1) := by decide +kernel
theorem dX2_leastCloth_16 : decode cX2_leastCloth 16 = .ok (.getfield 15, 3) := by decide +kernel
theorem dX2_leastCloth_19 : decode cX2_leastCloth 19 = .ok (.getfield 66, 3) := by decide +kernel
theorem dX2_leastCloth_22 : decode cX2_leastCloth 22 = .ok (.if_icmp .ge 30, 3) := by decide +kernel
theorem dX2_leastCloth_25 : decode cX2_leastCloth 25 = .ok (.aload_n 0, 1) := by decide +kernel
theorem dX2_leastCloth_26 : decode cX2_leastCloth 26 = .ok (.getfield 19, 3) := by decide +kernel
theorem dX2_leastCloth_29 : decode cX2_leastCloth 29 = .ok (.iconst 1, 1) := by decide +kernel
theorem dX2_leastCloth_30 : decode cX2_leastCloth 30 = .ok (.iload_n 2, 1) := by decide +kernel
theorem dX2_leastCloth_31 : decode cX2_leastCloth 31 = .ok (.invokevirtual 35, 3) := by decide +kernel
theorem dX2_leastCloth_34 : decode cX2_leastCloth 34 = .ok (.aload_n 0, 1) := by decide +kernel
theorem dX2_leastCloth_35 : decode cX2_leastCloth 35 = .ok (.getfield 15, 3) := by decide +kernel
theorem dX2_leastCloth_38 : decode cX2_leastCloth 38 = .ok (.getfield 69, 3) := by decide +kernel
theorem dX2_leastCloth_41 : decode cX2_leastCloth 41 = .ok (.if_icmp .le 5, 3) := by decide +kernel
theorem dX2_leastCloth_44 : decode cX2_leastCloth 44 = .ok (.iconst (-1), 1) := by decide +kernel
theorem dX2_leastCloth_45 : decode cX2_leastCloth 45 = .ok (.ireturn, 1) := by decide +kernel
theorem dX2_leastCloth_46 : decode cX2_leastCloth 46 = .ok (.iinc 2 1, 3) := by decide +kernel
theorem dX2_leastCloth_49 : decode cX2_leastCloth 49 = .ok (.goto (-35), 3) := by decide +kernel
theorem dX2_leastCloth_52 : decode cX2_leastCloth 52 = .ok (.aload_n 0, 1) := by decide +kernel
theorem dX2_leastCloth_53 : decode cX2_leastCloth 53 = .ok (.getfield 9, 3) := by decide +kernel
theorem dX2_leastCloth_56 : decode cX2_leastCloth 56 = .ok (.iconst 0, 1) := by decide +kernel
theorem dX2_leastCloth_57 : decode cX2_leastCloth 57 = .ok (.iconst 0, 1) := by decide +kernel
theorem dX2_leastCloth_58 : decode cX2_leastCloth 58 = .ok (.iastore, 1) := by decide +kernel
theorem dX2_leastCloth_59 : decode cX2_leastCloth 59 = .ok (.iconst 1, 1) := by decide +kernel
theorem dX2_leastCloth_60 : decode cX2_leastCloth 60 = .ok (.istore_n 2, 1) := by decide +kernel
theorem dX2_leastCloth_61 : decode cX2_leastCloth 61 = .ok (.iload_n 2, 1) := by decide +kernel
theorem dX2_leastCloth_62 : decode cX2_leastCloth 62 = .ok (.iload_n 1, 1) := by decide +kernel
theorem dX2_leastCloth_63 : decode cX2_leastCloth 63 = .ok (.if_icmp .gt 26, 3) := by decide +kernel
theorem dX2_leastCloth_66 : decode cX2_leastCloth 66 = .ok (.iload_n 2, 1) := by decide +kernel
theorem dX2_leastCloth_67 : decode cX2_leastCloth 67 = .ok (.bipush 64, 2) := by decide +kernel
theorem dX2_leastCloth_69 : decode cX2_leastCloth 69 = .ok (.if_icmp .ge 20, 3) := by decide +kernel
theorem dX2_leastCloth_72 : decode cX2_leastCloth 72 = .ok (.aload_n 0, 1) := by decide +kernel
theorem dX2_leastCloth_73 : decode cX2_leastCloth 73 = .ok (.getfield 9, 3) := by decide +kernel
theorem dX2_leastCloth_76 : decode cX2_leastCloth 76 = .ok (.iload_n 2, 1) := by decide +kernel
theorem dX2_leastCloth_77 : decode cX2_leastCloth 77 = .ok (.aload_n 0, 1) := by decide +kernel
theorem dX2_leastCloth_78 : decode cX2_leastCloth 78 = .ok (.iload_n 2, 1) := by decide +kernel
theorem dX2_leastCloth_79 : decode cX2_leastCloth 79 = .ok (.invokevirtual 72, 3) := by decide +kernel
theorem dX2_leastCloth_82 : decode cX2_leastCloth 82 = .ok (.iastore, 1) := by decide +kernel
theorem dX2_leastCloth_83 : decode cX2_leastCloth 83 = .ok (.iinc 2 1, 3) := by decide +kernel
theorem dX2_leastCloth_86 : decode cX2_leastCloth 86 = .ok (.goto (-25), 3) := by decide +kernel
theorem dX2_leastCloth_89 : decode cX2_leastCloth 89 = .ok (.iload_n 1, 1) := by decide +kernel
theorem dX2_leastCloth_90 : decode cX2_leastCloth 90 = .ok (.ifCond .lt 18, 3) := by decide +kernel
theorem dX2_leastCloth_93 : decode cX2_leastCloth 93 = .ok (.iload_n 1, 1) := by decide +kernel
theorem dX2_leastCloth_94 : decode cX2_leastCloth 94 = .ok (.bipush 64, 2) := by decide +kernel
theorem dX2_leastCloth_96 : decode cX2_leastCloth 96 = .ok (.if_icmp .ge 12, 3) := by decide +kernel
theorem dX2_leastCloth_99 : decode cX2_leastCloth 99 = .ok (.aload_n 0, 1) := by decide +kernel
theorem dX2_leastCloth_100 : decode cX2_leastCloth 100 = .ok (.getfield 9, 3) := by decide +kernel
theorem dX2_leastCloth_103 : decode cX2_leastCloth 103 = .ok (.iload_n 1, 1) := by decide +kernel
theorem dX2_leastCloth_104 : decode cX2_leastCloth 104 = .ok (.iaload, 1) := by decide +kernel
theorem dX2_leastCloth_105 : decode cX2_leastCloth 105 = .ok (.goto 4, 3) := by decide +kernel
theorem dX2_leastCloth_108 : decode cX2_leastCloth 108 = .ok (.iconst (-1), 1) := by decide +kernel
theorem dX2_leastCloth_109 : decode cX2_leastCloth 109 = .ok (.ireturn, 1) := by decide +kernel
theorem dX2_leastLength_0 : decode cX2_leastLength 0 = .ok (.sipush 1000, 3) := by decide +kernel
theorem dX2_leastLength_3 : decode cX2_leastLength 3 = .ok (.istore_n 2, 1) := by decide +kernel
theorem dX2_leastLength_4 : decode cX2_leastLength 4 = .ok (.iload_n 1, 1) := by decide +kernel
theorem dX2_leastLength_5 : decode cX2_leastLength 5 = .ok (.invokestatic 51, 3) := by decide +kernel
theorem dX2_leastLength_8 : decode cX2_leastLength 8 = .ok (.istore_n 3, 1) := by decide +kernel
theorem dX2_leastLength_9 : decode cX2_leastLength 9 = .ok (.iload_n 3, 1) := by decide +kernel
theorem dX2_leastLength_10 : decode cX2_leastLength 10 = .ok (.istore 4, 2) := by decide +kernel
theorem dX2_leastLength_12 : decode cX2_leastLength 12 = .ok (.iload 4, 2) := by decide +kernel
theorem dX2_leastLength_14 : decode cX2_leastLength 14 = .ok (.iload_n 1, 1) := by decide +kernel
theorem dX2_leastLength_15 : decode cX2_leastLength 15 = .ok (.if_icmp .gt 61, 3) := by decide +kernel
theorem dX2_leastLength_18 : decode cX2_leastLength 18 = .ok (.iload 4, 2) := by decide +kernel
theorem dX2_leastLength_20 : decode cX2_leastLength 20 = .ok (.iload_n 1, 1) := by decide +kernel
theorem dX2_leastLength_21 : decode cX2_leastLength 21 = .ok (.iconst (-1), 1) := by decide +kernel
theorem dX2_leastLength_22 : decode cX2_leastLength 22 = .ok (.ixor, 1) := by decide +kernel
theorem dX2_leastLength_23 : decode cX2_leastLength 23 = .ok (.iand, 1) := by decide +kernel
theorem dX2_leastLength_24 : decode cX2_leastLength 24 = .ok (.ifCond .ne 46, 3) := by decide +kernel
theorem dX2_leastLength_27 : decode cX2_leastLength 27 = .ok (.iload 4, 2) := by decide +kernel
theorem dX2_leastLength_29 : decode cX2_leastLength 29 = .ok (.iload_n 3, 1) := by decide +kernel
theorem dX2_leastLength_30 : decode cX2_leastLength 30 = .ok (.iand, 1) := by decide +kernel
theorem dX2_leastLength_31 : decode cX2_leastLength 31 = .ok (.ifCond .eq 39, 3) := by decide +kernel
theorem dX2_leastLength_34 : decode cX2_leastLength 34 = .ok (.aload_n 0, 1) := by decide +kernel
theorem dX2_leastLength_35 : decode cX2_leastLength 35 = .ok (.iload 4, 2) := by decide +kernel
theorem dX2_leastLength_37 : decode cX2_leastLength 37 = .ok (.invokevirtual 75, 3) := by decide +kernel
theorem dX2_leastLength_40 : decode cX2_leastLength 40 = .ok (.istore 5, 2) := by decide +kernel
theorem dX2_leastLength_42 : decode cX2_leastLength 42 = .ok (.iload 5, 2) := by decide +kernel
theorem dX2_leastLength_44 : decode cX2_leastLength 44 = .ok (.iconst (-1), 1) := by decide +kernel
theorem dX2_leastLength_45 : decode cX2_leastLength 45 = .ok (.if_icmp .eq 25, 3) := by decide +kernel
theorem dX2_leastLength_48 : decode cX2_leastLength 48 = .ok (.iload_n 2, 1) := by decide +kernel
theorem dX2_leastLength_49 : decode cX2_leastLength 49 = .ok (.iload 5, 2) := by decide +kernel
theorem dX2_leastLength_51 : decode cX2_leastLength 51 = .ok (.aload_n 0, 1) := by decide +kernel
theorem dX2_leastLength_52 : decode cX2_leastLength 52 = .ok (.getfield 9, 3) := by decide +kernel
theorem dX2_leastLength_55 : decode cX2_leastLength 55 = .ok (.iload_n 1, 1) := by decide +kernel
theorem dX2_leastLength_56 : decode cX2_leastLength 56 = .ok (.iload 4, 2) := by decide +kernel
theorem dX2_leastLength_58 : decode cX2_leastLength 58 = .ok (.iconst (-1), 1) := by decide +kernel
theorem dX2_leastLength_59 : decode cX2_leastLength 59 = .ok (.ixor, 1) := by decide +kernel
theorem dX2_leastLength_60 : decode cX2_leastLength 60 = .ok (.iand, 1) := by decide +kernel
theorem dX2_leastLength_61 : decode cX2_leastLength 61 = .ok (.bipush 63, 2) := by decide +kernel
theorem dX2_leastLength_63 : decode cX2_leastLength 63 = .ok (.iand, 1) := by decide +kernel
theorem dX2_leastLength_64 : decode cX2_leastLength 64 = .ok (.iaload, 1) := by decide +kernel
theorem dX2_leastLength_65 : decode cX2_leastLength 65 = .ok (.iadd, 1) := by decide +kernel
theorem dX2_leastLength_66 : decode cX2_leastLength 66 = .ok (.invokestatic 78, 3) := by decide +kernel
theorem dX2_leastLength_69 : decode cX2_leastLength 69 = .ok (.istore_n 2, 1) := by decide +kernel
theorem dX2_leastLength_70 : decode cX2_leastLength 70 = .ok (.iinc 4 1, 3) := by decide +kernel
theorem dX2_leastLength_73 : decode cX2_leastLength 73 = .ok (.goto (-61), 3) := by decide +kernel
theorem dX2_leastLength_76 : decode cX2_leastLength 76 = .ok (.iload_n 2, 1) := by decide +kernel
theorem dX2_leastLength_77 : decode cX2_leastLength 77 = .ok (.ireturn, 1) := by decide +kernel
theorem dX2_leftWing_0 : decode cX2_leftWing 0 = .ok (.aload_n 0, 1) := by decide +kernel
theorem dX2_leftWing_1 : decode cX2_leftWing 1 = .ok (.getfield 19, 3) := by decide +kernel
theorem dX2_leftWing_4 : decode cX2_leftWing 4 = .ok (.invokevirtual 39, 3) := by decide +kernel
theorem dX2_leftWing_7 : decode cX2_leftWing 7 = .ok (.istore_n 1, 1) := by decide +kernel
theorem dX2_leftWing_8 : decode cX2_leftWing 8 = .ok (.iload_n 1, 1) := by decide +kernel
theorem dX2_leftWing_9 : decode cX2_leftWing 9 = .ok (.invokestatic 51, 3) := by decide +kernel
theorem dX2_leftWing_12 : decode cX2_leftWing 12 = .ok (.istore_n 2, 1) := by decide +kernel
theorem dX2_leftWing_13 : decode cX2_leftWing 13 = .ok (.iload_n 1, 1) := by decide +kernel
theorem dX2_leftWing_14 : decode cX2_leftWing 14 = .ok (.istore_n 3, 1) := by decide +kernel
theorem dX2_leftWing_15 : decode cX2_leftWing 15 = .ok (.iconst 0, 1) := by decide +kernel
theorem dX2_leftWing_16 : decode cX2_leftWing 16 = .ok (.istore 4, 2) := by decide +kernel
theorem dX2_leftWing_18 : decode cX2_leftWing 18 = .ok (.iload 4, 2) := by decide +kernel
theorem dX2_leftWing_20 : decode cX2_leftWing 20 = .ok (.bipush 64, 2) := by decide +kernel
theorem dX2_leftWing_22 : decode cX2_leftWing 22 = .ok (.if_icmp .ge 51, 3) := by decide +kernel
theorem dX2_leftWing_25 : decode cX2_leftWing 25 = .ok (.iload 4, 2) := by decide +kernel
theorem dX2_leftWing_27 : decode cX2_leftWing 27 = .ok (.iload_n 1, 1) := by decide +kernel
theorem dX2_leftWing_28 : decode cX2_leftWing 28 = .ok (.iconst (-1), 1) := by decide +kernel
theorem dX2_leftWing_29 : decode cX2_leftWing 29 = .ok (.ixor, 1) := by decide +kernel
theorem dX2_leftWing_30 : decode cX2_leftWing 30 = .ok (.iand, 1) := by decide +kernel
theorem dX2_leftWing_31 : decode cX2_leftWing 31 = .ok (.ifCond .ne 15, 3) := by decide +kernel
theorem dX2_leftWing_34 : decode cX2_leftWing 34 = .ok (.iload 4, 2) := by decide +kernel
theorem dX2_leftWing_36 : decode cX2_leftWing 36 = .ok (.iload_n 2, 1) := by decide +kernel
theorem dX2_leftWing_37 : decode cX2_leftWing 37 = .ok (.iand, 1) := by decide +kernel
theorem dX2_leftWing_38 : decode cX2_leftWing 38 = .ok (.iload_n 2, 1) := by decide +kernel
theorem dX2_leftWing_39 : decode cX2_leftWing 39 = .ok (.if_icmp .ne 7, 3) := by decide +kernel
theorem dX2_leftWing_42 : decode cX2_leftWing 42 = .ok (.iconst 1, 1) := by decide +kernel
theorem dX2_leftWing_43 : decode cX2_leftWing 43 = .ok (.goto 4, 3) := by decide +kernel
theorem dX2_leftWing_46 : decode cX2_leftWing 46 = .ok (.iconst 0, 1) := by decide +kernel
theorem dX2_leftWing_47 : decode cX2_leftWing 47 = .ok (.istore 5, 2) := by decide +kernel
theorem dX2_leftWing_49 : decode cX2_leftWing 49 = .ok (.iload 5, 2) := by decide +kernel
theorem dX2_leftWing_51 : decode cX2_leftWing 51 = .ok (.ifCond .eq 16, 3) := by decide +kernel
theorem dX2_leftWing_54 : decode cX2_leftWing 54 = .ok (.aload_n 0, 1) := by decide +kernel
theorem dX2_leftWing_55 : decode cX2_leftWing 55 = .ok (.iload 4, 2) := by decide +kernel
theorem dX2_leftWing_57 : decode cX2_leftWing 57 = .ok (.iload_n 3, 1) := by decide +kernel
theorem dX2_leftWing_58 : decode cX2_leftWing 58 = .ok (.invokevirtual 54, 3) := by decide +kernel
theorem dX2_leftWing_61 : decode cX2_leftWing 61 = .ok (.ifCond .eq 6, 3) := by decide +kernel
theorem dX2_leftWing_64 : decode cX2_leftWing 64 = .ok (.iload 4, 2) := by decide +kernel
theorem dX2_leftWing_66 : decode cX2_leftWing 66 = .ok (.istore_n 3, 1) := by decide +kernel
theorem dX2_leftWing_67 : decode cX2_leftWing 67 = .ok (.iinc 4 1, 3) := by decide +kernel
theorem dX2_leftWing_70 : decode cX2_leftWing 70 = .ok (.goto (-52), 3) := by decide +kernel
theorem dX2_leftWing_73 : decode cX2_leftWing 73 = .ok (.iload_n 3, 1) := by decide +kernel
theorem dX2_leftWing_74 : decode cX2_leftWing 74 = .ok (.ireturn, 1) := by decide +kernel
theorem dX2_rowLength_0 : decode cX2_rowLength 0 = .ok (.iconst 0, 1) := by decide +kernel
theorem dX2_rowLength_1 : decode cX2_rowLength 1 = .ok (.istore_n 2, 1) := by decide +kernel
theorem dX2_rowLength_2 : decode cX2_rowLength 2 = .ok (.iconst 0, 1) := by decide +kernel
theorem dX2_rowLength_3 : decode cX2_rowLength 3 = .ok (.istore_n 3, 1) := by decide +kernel
theorem dX2_rowLength_4 : decode cX2_rowLength 4 = .ok (.iconst 0, 1) := by decide +kernel
theorem dX2_rowLength_5 : decode cX2_rowLength 5 = .ok (.istore 4, 2) := by decide +kernel
theorem dX2_rowLength_7 : decode cX2_rowLength 7 = .ok (.iload 4, 2) := by decide +kernel
theorem dX2_rowLength_9 : decode cX2_rowLength 9 = .ok (.aload_n 0, 1) := by decide +kernel
theorem dX2_rowLength_10 : decode cX2_rowLength 10 = .ok (.getfield 15, 3) := by decide +kernel
theorem dX2_rowLength_13 : decode cX2_rowLength 13 = .ok (.getfield 66, 3) := by decide +kernel
theorem dX2_rowLength_16 : decode cX2_rowLength 16 = .ok (.if_icmp .ge 46, 3) := by decide +kernel
theorem dX2_rowLength_19 : decode cX2_rowLength 19 = .ok (.iload_n 1, 1) := by decide +kernel
theorem dX2_rowLength_20 : decode cX2_rowLength 20 = .ok (.iload 4, 2) := by decide +kernel
theorem dX2_rowLength_22 : decode cX2_rowLength 22 = .ok (.ishr, 1) := by decide +kernel
theorem dX2_rowLength_23 : decode cX2_rowLength 23 = .ok (.iconst 1, 1) := by decide +kernel
theorem dX2_rowLength_24 : decode cX2_rowLength 24 = .ok (.iand, 1) := by decide +kernel
theorem dX2_rowLength_25 : decode cX2_rowLength 25 = .ok (.ifCond .eq 31, 3) := by decide +kernel
theorem dX2_rowLength_28 : decode cX2_rowLength 28 = .ok (.iload_n 2, 1) := by decide +kernel
theorem dX2_rowLength_29 : decode cX2_rowLength 29 = .ok (.aload_n 0, 1) := by decide +kernel
theorem dX2_rowLength_30 : decode cX2_rowLength 30 = .ok (.getfield 19, 3) := by decide +kernel
theorem dX2_rowLength_33 : decode cX2_rowLength 33 = .ok (.iconst 1, 1) := by decide +kernel
theorem dX2_rowLength_34 : decode cX2_rowLength 34 = .ok (.iload 4, 2) := by decide +kernel
theorem dX2_rowLength_36 : decode cX2_rowLength 36 = .ok (.invokevirtual 35, 3) := by decide +kernel
theorem dX2_rowLength_39 : decode cX2_rowLength 39 = .ok (.iadd, 1) := by decide +kernel
theorem dX2_rowLength_40 : decode cX2_rowLength 40 = .ok (.istore_n 2, 1) := by decide +kernel
theorem dX2_rowLength_41 : decode cX2_rowLength 41 = .ok (.iload_n 3, 1) := by decide +kernel
theorem dX2_rowLength_42 : decode cX2_rowLength 42 = .ok (.aload_n 0, 1) := by decide +kernel
theorem dX2_rowLength_43 : decode cX2_rowLength 43 = .ok (.getfield 19, 3) := by decide +kernel
theorem dX2_rowLength_46 : decode cX2_rowLength 46 = .ok (.iconst 0, 1) := by decide +kernel
theorem dX2_rowLength_47 : decode cX2_rowLength 47 = .ok (.iload 4, 2) := by decide +kernel
theorem dX2_rowLength_49 : decode cX2_rowLength 49 = .ok (.invokevirtual 35, 3) := by decide +kernel
theorem dX2_rowLength_52 : decode cX2_rowLength 52 = .ok (.invokestatic 81, 3) := by decide +kernel
theorem dX2_rowLength_55 : decode cX2_rowLength 55 = .ok (.istore_n 3, 1) := by decide +kernel
theorem dX2_rowLength_56 : decode cX2_rowLength 56 = .ok (.iinc 4 1, 3) := by decide +kernel
theorem dX2_rowLength_59 : decode cX2_rowLength 59 = .ok (.goto (-52), 3) := by decide +kernel
theorem dX2_rowLength_62 : decode cX2_rowLength 62 = .ok (.iload_n 2, 1) := by decide +kernel
theorem dX2_rowLength_63 : decode cX2_rowLength 63 = .ok (.aload_n 0, 1) := by decide +kernel
theorem dX2_rowLength_64 : decode cX2_rowLength 64 = .ok (.getfield 15, 3) := by decide +kernel
theorem dX2_rowLength_67 : decode cX2_rowLength 67 = .ok (.getfield 69, 3) := by decide +kernel
theorem dX2_rowLength_70 : decode cX2_rowLength 70 = .ok (.if_icmp .le 7, 3) := by decide +kernel
theorem dX2_rowLength_73 : decode cX2_rowLength 73 = .ok (.iconst (-1), 1) := by decide +kernel
theorem dX2_rowLength_74 : decode cX2_rowLength 74 = .ok (.goto 4, 3) := by decide +kernel
theorem dX2_rowLength_77 : decode cX2_rowLength 77 = .ok (.iload_n 3, 1) := by decide +kernel
theorem dX2_rowLength_78 : decode cX2_rowLength 78 = .ok (.ireturn, 1) := by decide +kernel
theorem dX2_wideTogether_0 : decode cX2_wideTogether 0 = .ok (.iconst 0, 1) := by decide +kernel
theorem dX2_wideTogether_1 : decode cX2_wideTogether 1 = .ok (.istore_n 2, 1) := by decide +kernel
theorem dX2_wideTogether_2 : decode cX2_wideTogether 2 = .ok (.iconst 0, 1) := by decide +kernel
theorem dX2_wideTogether_3 : decode cX2_wideTogether 3 = .ok (.istore_n 3, 1) := by decide +kernel
theorem dX2_wideTogether_4 : decode cX2_wideTogether 4 = .ok (.iload_n 3, 1) := by decide +kernel
theorem dX2_wideTogether_5 : decode cX2_wideTogether 5 = .ok (.aload_n 0, 1) := by decide +kernel
theorem dX2_wideTogether_6 : decode cX2_wideTogether 6 = .ok (.getfield 15, 3) := by decide +kernel
theorem dX2_wideTogether_9 : decode cX2_wideTogether 9 = .ok (.getfield 23, 3) := by decide +kernel
theorem dX2_wideTogether_12 : decode cX2_wideTogether 12 = .ok (.if_icmp .ge 36, 3) := by decide +kernel
theorem dX2_wideTogether_15 : decode cX2_wideTogether 15 = .ok (.iload_n 1, 1) := by decide +kernel
theorem dX2_wideTogether_16 : decode cX2_wideTogether 16 = .ok (.iload_n 3, 1) := by decide +kernel
theorem dX2_wideTogether_17 : decode cX2_wideTogether 17 = .ok (.ishr, 1) := by decide +kernel
theorem dX2_wideTogether_18 : decode cX2_wideTogether 18 = .ok (.iconst 1, 1) := by decide +kernel
theorem dX2_wideTogether_19 : decode cX2_wideTogether 19 = .ok (.iand, 1) := by decide +kernel
theorem dX2_wideTogether_20 : decode cX2_wideTogether 20 = .ok (.ifCond .eq 22, 3) := by decide +kernel
theorem dX2_wideTogether_23 : decode cX2_wideTogether 23 = .ok (.iload_n 2, 1) := by decide +kernel
theorem dX2_wideTogether_24 : decode cX2_wideTogether 24 = .ok (.aload_n 0, 1) := by decide +kernel
theorem dX2_wideTogether_25 : decode cX2_wideTogether 25 = .ok (.getfield 19, 3) := by decide +kernel
theorem dX2_wideTogether_28 : decode cX2_wideTogether 28 = .ok (.iconst 1, 1) := by decide +kernel
theorem dX2_wideTogether_29 : decode cX2_wideTogether 29 = .ok (.aload_n 0, 1) := by decide +kernel
theorem dX2_wideTogether_30 : decode cX2_wideTogether 30 = .ok (.getfield 19, 3) := by decide +kernel
theorem dX2_wideTogether_33 : decode cX2_wideTogether 33 = .ok (.iload_n 3, 1) := by decide +kernel
theorem dX2_wideTogether_34 : decode cX2_wideTogether 34 = .ok (.invokevirtual 29, 3) := by decide +kernel
theorem dX2_wideTogether_37 : decode cX2_wideTogether 37 = .ok (.invokevirtual 35, 3) := by decide +kernel
theorem dX2_wideTogether_40 : decode cX2_wideTogether 40 = .ok (.iadd, 1) := by decide +kernel
theorem dX2_wideTogether_41 : decode cX2_wideTogether 41 = .ok (.istore_n 2, 1) := by decide +kernel
theorem dX2_wideTogether_42 : decode cX2_wideTogether 42 = .ok (.iinc 3 1, 3) := by decide +kernel
theorem dX2_wideTogether_45 : decode cX2_wideTogether 45 = .ok (.goto (-41), 3) := by decide +kernel
theorem dX2_wideTogether_48 : decode cX2_wideTogether 48 = .ok (.iload_n 2, 1) := by decide +kernel
theorem dX2_wideTogether_49 : decode cX2_wideTogether 49 = .ok (.ireturn, 1) := by decide +kernel
theorem dX3_bestTurning_0 : decode cX3_bestTurning 0 = .ok (.iconst (-1), 1) := by decide +kernel
theorem dX3_bestTurning_1 : decode cX3_bestTurning 1 = .ok (.istore_n 1, 1) := by decide +kernel
theorem dX3_bestTurning_2 : decode cX3_bestTurning 2 = .ok (.iconst (-1), 1) := by decide +kernel
theorem dX3_bestTurning_3 : decode cX3_bestTurning 3 = .ok (.istore_n 2, 1) := by decide +kernel
theorem dX3_bestTurning_4 : decode cX3_bestTurning 4 = .ok (.iconst 0, 1) := by decide +kernel
theorem dX3_bestTurning_5 : decode cX3_bestTurning 5 = .ok (.istore_n 3, 1) := by decide +kernel
theorem dX3_bestTurning_6 : decode cX3_bestTurning 6 = .ok (.iload_n 3, 1) := by decide +kernel
theorem dX3_bestTurning_7 : decode cX3_bestTurning 7 = .ok (.aload_n 0, 1) := by decide +kernel
theorem dX3_bestTurning_8 : decode cX3_bestTurning 8 = .ok (.getfield 9, 3) := by decide +kernel
theorem dX3_bestTurning_11 : decode cX3_bestTurning 11 = .ok (.getfield 122, 3) := by decide +kernel
theorem dX3_bestTurning_14 : decode cX3_bestTurning 14 = .ok (.if_icmp .ge 65, 3) := by decide +kernel
theorem dX3_bestTurning_17 : decode cX3_bestTurning 17 = .ok (.aload_n 0, 1) := by decide +kernel
theorem dX3_bestTurning_18 : decode cX3_bestTurning 18 = .ok (.getfield 24, 3) := by decide +kernel
theorem dX3_bestTurning_21 : decode cX3_bestTurning 21 = .ok (.aload_n 0, 1) := by decide +kernel
theorem dX3_bestTurning_22 : decode cX3_bestTurning 22 = .ok (.getfield 15, 3) := by decide +kernel
theorem dX3_bestTurning_25 : decode cX3_bestTurning 25 = .ok (.invokevirtual 27, 3) := by decide +kernel
theorem dX3_bestTurning_28 : decode cX3_bestTurning 28 = .ok (.aload_n 0, 1) := by decide +kernel
theorem dX3_bestTurning_29 : decode cX3_bestTurning 29 = .ok (.getfield 24, 3) := by decide +kernel
theorem dX3_bestTurning_32 : decode cX3_bestTurning 32 = .ok (.iconst 3, 1) := by decide +kernel
theorem dX3_bestTurning_33 : decode cX3_bestTurning 33 = .ok (.iload_n 3, 1) := by decide +kernel
theorem dX3_bestTurning_34 : decode cX3_bestTurning 34 = .ok (.iconst 0, 1) := by decide +kernel
theorem dX3_bestTurning_35 : decode cX3_bestTurning 35 = .ok (.invokevirtual 125, 3) := by decide +kernel
theorem dX3_bestTurning_38 : decode cX3_bestTurning 38 = .ok (.aload_n 0, 1) := by decide +kernel
theorem dX3_bestTurning_39 : decode cX3_bestTurning 39 = .ok (.getfield 24, 3) := by decide +kernel
theorem dX3_bestTurning_42 : decode cX3_bestTurning 42 = .ok (.invokevirtual 102, 3) := by decide +kernel
theorem dX3_bestTurning_45 : decode cX3_bestTurning 45 = .ok (.invokestatic 105, 3) := by decide +kernel
theorem dX3_bestTurning_48 : decode cX3_bestTurning 48 = .ok (.istore 4, 2) := by decide +kernel
theorem dX3_bestTurning_50 : decode cX3_bestTurning 50 = .ok (.aload_n 0, 1) := by decide +kernel
theorem dX3_bestTurning_51 : decode cX3_bestTurning 51 = .ok (.getfield 15, 3) := by decide +kernel
theorem dX3_bestTurning_54 : decode cX3_bestTurning 54 = .ok (.iconst 4, 1) := by decide +kernel
theorem dX3_bestTurning_55 : decode cX3_bestTurning 55 = .ok (.iload_n 3, 1) := by decide +kernel
theorem dX3_bestTurning_56 : decode cX3_bestTurning 56 = .ok (.invokevirtual 52, 3) := by decide +kernel
theorem dX3_bestTurning_59 : decode cX3_bestTurning 59 = .ok (.ifCond .ne 14, 3) := by decide +kernel
theorem dX3_bestTurning_62 : decode cX3_bestTurning 62 = .ok (.iload 4, 2) := by decide +kernel
theorem dX3_bestTurning_64 : decode cX3_bestTurning 64 = .ok (.iload_n 2, 1) := by decide +kernel
theorem dX3_bestTurning_65 : decode cX3_bestTurning 65 = .ok (.if_icmp .le 8, 3) := by decide +kernel
theorem dX3_bestTurning_68 : decode cX3_bestTurning 68 = .ok (.iload_n 3, 1) := by decide +kernel
theorem dX3_bestTurning_69 : decode cX3_bestTurning 69 = .ok (.istore_n 1, 1) := by decide +kernel
theorem dX3_bestTurning_70 : decode cX3_bestTurning 70 = .ok (.iload 4, 2) := by decide +kernel
theorem dX3_bestTurning_72 : decode cX3_bestTurning 72 = .ok (.istore_n 2, 1) := by decide +kernel
theorem dX3_bestTurning_73 : decode cX3_bestTurning 73 = .ok (.iinc 3 1, 3) := by decide +kernel
theorem dX3_bestTurning_76 : decode cX3_bestTurning 76 = .ok (.goto (-70), 3) := by decide +kernel
theorem dX3_bestTurning_79 : decode cX3_bestTurning 79 = .ok (.iload_n 1, 1) := by decide +kernel
theorem dX3_bestTurning_80 : decode cX3_bestTurning 80 = .ok (.ireturn, 1) := by decide +kernel
theorem dX3_changedCount_0 : decode cX3_changedCount 0 = .ok (.iconst 0, 1) := by decide +kernel
theorem dX3_changedCount_1 : decode cX3_changedCount 1 = .ok (.istore_n 3, 1) := by decide +kernel
theorem dX3_changedCount_2 : decode cX3_changedCount 2 = .ok (.iconst 0, 1) := by decide +kernel
theorem dX3_changedCount_3 : decode cX3_changedCount 3 = .ok (.istore 4, 2) := by decide +kernel
theorem dX3_changedCount_5 : decode cX3_changedCount 5 = .ok (.iload 4, 2) := by decide +kernel
theorem dX3_changedCount_7 : decode cX3_changedCount 7 = .ok (.aload_n 0, 1) := by decide +kernel
theorem dX3_changedCount_8 : decode cX3_changedCount 8 = .ok (.getfield 9, 3) := by decide +kernel
theorem dX3_changedCount_11 : decode cX3_changedCount 11 = .ok (.getfield 92, 3) := by decide +kernel
theorem dX3_changedCount_14 : decode cX3_changedCount 14 = .ok (.if_icmp .ge 57, 3) := by decide +kernel
theorem dX3_changedCount_17 : decode cX3_changedCount 17 = .ok (.iload 4, 2) := by decide +kernel
theorem dX3_changedCount_19 : decode cX3_changedCount 19 = .ok (.iload_n 1, 1) := by decide +kernel
theorem dX3_changedCount_20 : decode cX3_changedCount 20 = .ok (.if_icmp .ne 7, 3) := by decide +kernel
theorem dX3_changedCount_23 : decode cX3_changedCount 23 = .ok (.iload_n 2, 1) := by decide +kernel
theorem dX3_changedCount_24 : decode cX3_changedCount 24 = .ok (.goto 15, 3) := by decide +kernel
theorem dX3_changedCount_27 : decode cX3_changedCount 27 = .ok (.iload 4, 2) := by decide +kernel
theorem dX3_changedCount_29 : decode cX3_changedCount 29 = .ok (.iload_n 2, 1) := by decide +kernel
theorem dX3_changedCount_30 : decode cX3_changedCount 30 = .ok (.if_icmp .ne 7, 3) := by decide +kernel
theorem dX3_changedCount_33 : decode cX3_changedCount 33 = .ok (.iload_n 1, 1) := by decide +kernel
theorem dX3_changedCount_34 : decode cX3_changedCount 34 = .ok (.goto 5, 3) := by decide +kernel
theorem dX3_changedCount_37 : decode cX3_changedCount 37 = .ok (.iload 4, 2) := by decide +kernel
theorem dX3_changedCount_39 : decode cX3_changedCount 39 = .ok (.istore 5, 2) := by decide +kernel
theorem dX3_changedCount_41 : decode cX3_changedCount 41 = .ok (.aload_n 0, 1) := by decide +kernel
theorem dX3_changedCount_42 : decode cX3_changedCount 42 = .ok (.getfield 15, 3) := by decide +kernel
theorem dX3_changedCount_45 : decode cX3_changedCount 45 = .ok (.iload 4, 2) := by decide +kernel
theorem dX3_changedCount_47 : decode cX3_changedCount 47 = .ok (.aload_n 0, 1) := by decide +kernel
theorem dX3_changedCount_48 : decode cX3_changedCount 48 = .ok (.getfield 15, 3) := by decide +kernel
theorem dX3_changedCount_51 : decode cX3_changedCount 51 = .ok (.iload 5, 2) := by decide +kernel
theorem dX3_changedCount_53 : decode cX3_changedCount 53 = .ok (.invokevirtual 35, 3) := by decide +kernel
theorem dX3_changedCount_56 : decode cX3_changedCount 56 = .ok (.invokevirtual 98, 3) := by decide +kernel
theorem dX3_changedCount_59 : decode cX3_changedCount 59 = .ok (.ifCond .eq 6, 3) := by decide +kernel
theorem dX3_changedCount_62 : decode cX3_changedCount 62 = .ok (.iinc 3 1, 3) := by decide +kernel
theorem dX3_changedCount_65 : decode cX3_changedCount 65 = .ok (.iinc 4 1, 3) := by decide +kernel
theorem dX3_changedCount_68 : decode cX3_changedCount 68 = .ok (.goto (-63), 3) := by decide +kernel
theorem dX3_changedCount_71 : decode cX3_changedCount 71 = .ok (.iload_n 3, 1) := by decide +kernel
theorem dX3_changedCount_72 : decode cX3_changedCount 72 = .ok (.ireturn, 1) := by decide +kernel
theorem dX3_coatBehind_0 : decode cX3_coatBehind 0 = .ok (.aload_n 0, 1) := by decide +kernel
theorem dX3_coatBehind_1 : decode cX3_coatBehind 1 = .ok (.getfield 24, 3) := by decide +kernel
theorem dX3_coatBehind_4 : decode cX3_coatBehind 4 = .ok (.aload_n 0, 1) := by decide +kernel
theorem dX3_coatBehind_5 : decode cX3_coatBehind 5 = .ok (.getfield 15, 3) := by decide +kernel
theorem dX3_coatBehind_8 : decode cX3_coatBehind 8 = .ok (.invokevirtual 27, 3) := by decide +kernel
theorem dX3_coatBehind_11 : decode cX3_coatBehind 11 = .ok (.iconst 0, 1) := by decide +kernel
theorem dX3_coatBehind_12 : decode cX3_coatBehind 12 = .ok (.istore 4, 2) := by decide +kernel
theorem dX3_coatBehind_14 : decode cX3_coatBehind 14 = .ok (.iload 4, 2) := by decide +kernel
theorem dX3_coatBehind_16 : decode cX3_coatBehind 16 = .ok (.iload_n 2, 1) := by decide +kernel
theorem dX3_coatBehind_17 : decode cX3_coatBehind 17 = .ok (.if_icmp .ge 18, 3) := by decide +kernel
theorem dX3_coatBehind_20 : decode cX3_coatBehind 20 = .ok (.aload_n 0, 1) := by decide +kernel
theorem dX3_coatBehind_21 : decode cX3_coatBehind 21 = .ok (.getfield 24, 3) := by decide +kernel
theorem dX3_coatBehind_24 : decode cX3_coatBehind 24 = .ok (.iload_n 3, 1) := by decide +kernel
theorem dX3_coatBehind_25 : decode cX3_coatBehind 25 = .ok (.invokevirtual 31, 3) := by decide +kernel
theorem dX3_coatBehind_28 : decode cX3_coatBehind 28 = .ok (.pop, 1) := by decide +kernel
theorem dX3_coatBehind_29 : decode cX3_coatBehind 29 = .ok (.iinc 4 1, 3) := by decide +kernel
theorem dX3_coatBehind_32 : decode cX3_coatBehind 32 = .ok (.goto (-18), 3) := by decide +kernel
theorem dX3_coatBehind_35 : decode cX3_coatBehind 35 = .ok (.aload_n 0, 1) := by decide +kernel
theorem dX3_coatBehind_36 : decode cX3_coatBehind 36 = .ok (.getfield 24, 3) := by decide +kernel
theorem dX3_coatBehind_39 : decode cX3_coatBehind 39 = .ok (.iload_n 1, 1) := by decide +kernel
theorem dX3_coatBehind_40 : decode cX3_coatBehind 40 = .ok (.invokevirtual 35, 3) := by decide +kernel
theorem dX3_coatBehind_43 : decode cX3_coatBehind 43 = .ok (.ireturn, 1) := by decide +kernel
theorem dX3_daysTillOut_0 : decode cX3_daysTillOut 0 = .ok (.aload_n 0, 1) := by decide +kernel
theorem dX3_daysTillOut_1 : decode cX3_daysTillOut 1 = .ok (.getfield 24, 3) := by decide +kernel
theorem dX3_daysTillOut_4 : decode cX3_daysTillOut 4 = .ok (.aload_n 0, 1) := by decide +kernel
theorem dX3_daysTillOut_5 : decode cX3_daysTillOut 5 = .ok (.getfield 15, 3) := by decide +kernel
theorem dX3_daysTillOut_8 : decode cX3_daysTillOut 8 = .ok (.invokevirtual 27, 3) := by decide +kernel
theorem dX3_daysTillOut_11 : decode cX3_daysTillOut 11 = .ok (.iconst 0, 1) := by decide +kernel
theorem dX3_daysTillOut_12 : decode cX3_daysTillOut 12 = .ok (.istore_n 2, 1) := by decide +kernel
theorem dX3_daysTillOut_13 : decode cX3_daysTillOut 13 = .ok (.iload_n 2, 1) := by decide +kernel
theorem dX3_daysTillOut_14 : decode cX3_daysTillOut 14 = .ok (.bipush 60, 2) := by decide +kernel
theorem dX3_daysTillOut_16 : decode cX3_daysTillOut 16 = .ok (.if_icmp .gt 32, 3) := by decide +kernel
theorem dX3_daysTillOut_19 : decode cX3_daysTillOut 19 = .ok (.aload_n 0, 1) := by decide +kernel
theorem dX3_daysTillOut_20 : decode cX3_daysTillOut 20 = .ok (.getfield 24, 3) := by decide +kernel
theorem dX3_daysTillOut_23 : decode cX3_daysTillOut 23 = .ok (.iload_n 1, 1) := by decide +kernel
theorem dX3_daysTillOut_24 : decode cX3_daysTillOut 24 = .ok (.invokevirtual 35, 3) := by decide +kernel
theorem dX3_daysTillOut_27 : decode cX3_daysTillOut 27 = .ok (.iconst (-1), 1) := by decide +kernel
theorem dX3_daysTillOut_28 : decode cX3_daysTillOut 28 = .ok (.if_icmp .ne 5, 3) := by decide +kernel
theorem dX3_daysTillOut_31 : decode cX3_daysTillOut 31 = .ok (.iload_n 2, 1) := by decide +kernel
theorem dX3_daysTillOut_32 : decode cX3_daysTillOut 32 = .ok (.ireturn, 1) := by decide +kernel
theorem dX3_daysTillOut_33 : decode cX3_daysTillOut 33 = .ok (.aload_n 0, 1) := by decide +kernel
theorem dX3_daysTillOut_34 : decode cX3_daysTillOut 34 = .ok (.getfield 24, 3) := by decide +kernel
theorem dX3_daysTillOut_37 : decode cX3_daysTillOut 37 = .ok (.iconst 0, 1) := by decide +kernel
theorem dX3_daysTillOut_38 : decode cX3_daysTillOut 38 = .ok (.invokevirtual 31, 3) := by decide +kernel
theorem dX3_daysTillOut_41 : decode cX3_daysTillOut 41 = .ok (.pop, 1) := by decide +kernel
theorem dX3_daysTillOut_42 : decode cX3_daysTillOut 42 = .ok (.iinc 2 1, 3) := by decide +kernel
theorem dX3_daysTillOut_45 : decode cX3_daysTillOut 45 = .ok (.goto (-32), 3) := by decide +kernel
theorem dX3_daysTillOut_48 : decode cX3_daysTillOut 48 = .ok (.iconst (-1), 1) := by decide +kernel
theorem dX3_daysTillOut_49 : decode cX3_daysTillOut 49 = .ok (.ireturn, 1) := by decide +kernel
theorem dX3_daysTillRout_0 : decode cX3_daysTillRout 0 = .ok (.aload_n 0, 1) := by decide +kernel
theorem dX3_daysTillRout_1 : decode cX3_daysTillRout 1 = .ok (.getfield 24, 3) := by decide +kernel
theorem dX3_daysTillRout_4 : decode cX3_daysTillRout 4 = .ok (.aload_n 0, 1) := by decide +kernel
theorem dX3_daysTillRout_5 : decode cX3_daysTillRout 5 = .ok (.getfield 15, 3) := by decide +kernel
theorem dX3_daysTillRout_8 : decode cX3_daysTillRout 8 = .ok (.invokevirtual 27, 3) := by decide +kernel
theorem dX3_daysTillRout_11 : decode cX3_daysTillRout 11 = .ok (.iconst 0, 1) := by decide +kernel
theorem dX3_daysTillRout_12 : decode cX3_daysTillRout 12 = .ok (.istore_n 1, 1) := by decide +kernel
theorem dX3_daysTillRout_13 : decode cX3_daysTillRout 13 = .ok (.iload_n 1, 1) := by decide +kernel
theorem dX3_daysTillRout_14 : decode cX3_daysTillRout 14 = .ok (.bipush 60, 2) := by decide +kernel
theorem dX3_daysTillRout_16 : decode cX3_daysTillRout 16 = .ok (.if_icmp .gt 30, 3) := by decide +kernel
theorem dX3_daysTillRout_19 : decode cX3_daysTillRout 19 = .ok (.aload_n 0, 1) := by decide +kernel
theorem dX3_daysTillRout_20 : decode cX3_daysTillRout 20 = .ok (.getfield 24, 3) := by decide +kernel
theorem dX3_daysTillRout_23 : decode cX3_daysTillRout 23 = .ok (.invokevirtual 38, 3) := by decide +kernel
theorem dX3_daysTillRout_26 : decode cX3_daysTillRout 26 = .ok (.ifCond .ne 5, 3) := by decide +kernel
theorem dX3_daysTillRout_29 : decode cX3_daysTillRout 29 = .ok (.iload_n 1, 1) := by decide +kernel
theorem dX3_daysTillRout_30 : decode cX3_daysTillRout 30 = .ok (.ireturn, 1) := by decide +kernel
theorem dX3_daysTillRout_31 : decode cX3_daysTillRout 31 = .ok (.aload_n 0, 1) := by decide +kernel
theorem dX3_daysTillRout_32 : decode cX3_daysTillRout 32 = .ok (.getfield 24, 3) := by decide +kernel
theorem dX3_daysTillRout_35 : decode cX3_daysTillRout 35 = .ok (.iconst 0, 1) := by decide +kernel
theorem dX3_daysTillRout_36 : decode cX3_daysTillRout 36 = .ok (.invokevirtual 31, 3) := by decide +kernel
theorem dX3_daysTillRout_39 : decode cX3_daysTillRout 39 = .ok (.pop, 1) := by decide +kernel
theorem dX3_daysTillRout_40 : decode cX3_daysTillRout 40 = .ok (.iinc 1 1, 3) := by decide +kernel
theorem dX3_daysTillRout_43 : decode cX3_daysTillRout 43 = .ok (.goto (-30), 3) := by decide +kernel
theorem dX3_daysTillRout_46 : decode cX3_daysTillRout 46 = .ok (.iconst (-1), 1) := by decide +kernel
theorem dX3_daysTillRout_47 : decode cX3_daysTillRout 47 = .ok (.ireturn, 1) := by decide +kernel
theorem dX3_findChange_0 : decode cX3_findChange 0 = .ok (.aload_n 0, 1) := by decide +kernel
theorem dX3_findChange_1 : decode cX3_findChange 1 = .ok (.getfield 15, 3) := by decide +kernel
theorem dX3_findChange_4 : decode cX3_findChange 4 = .ok (.invokevirtual 102, 3) := by decide +kernel
theorem dX3_findChange_7 : decode cX3_findChange 7 = .ok (.invokestatic 105, 3) := by decide +kernel
theorem dX3_findChange_10 : decode cX3_findChange 10 = .ok (.istore_n 1, 1) := by decide +kernel
theorem dX3_findChange_11 : decode cX3_findChange 11 = .ok (.aload_n 0, 1) := by decide +kernel
theorem dX3_findChange_12 : decode cX3_findChange 12 = .ok (.iload_n 1, 1) := by decide +kernel
theorem dX3_findChange_13 : decode cX3_findChange 13 = .ok (.putfield 110, 3) := by decide +kernel
theorem dX3_findChange_16 : decode cX3_findChange 16 = .ok (.iconst 0, 1) := by decide +kernel
theorem dX3_findChange_17 : decode cX3_findChange 17 = .ok (.istore_n 2, 1) := by decide +kernel
theorem dX3_findChange_18 : decode cX3_findChange 18 = .ok (.iload_n 2, 1) := by decide +kernel
theorem dX3_findChange_19 : decode cX3_findChange 19 = .ok (.aload_n 0, 1) := by decide +kernel
theorem dX3_findChange_20 : decode cX3_findChange 20 = .ok (.getfield 9, 3) := by decide +kernel
theorem dX3_findChange_23 : decode cX3_findChange 23 = .ok (.getfield 92, 3) := by decide +kernel
theorem dX3_findChange_26 : decode cX3_findChange 26 = .ok (.if_icmp .ge 63, 3) := by decide +kernel
theorem dX3_findChange_29 : decode cX3_findChange 29 = .ok (.iload_n 2, 1) := by decide +kernel
theorem dX3_findChange_30 : decode cX3_findChange 30 = .ok (.iconst 1, 1) := by decide +kernel
theorem dX3_findChange_31 : decode cX3_findChange 31 = .ok (.iadd, 1) := by decide +kernel
theorem dX3_findChange_32 : decode cX3_findChange 32 = .ok (.istore_n 3, 1) := by decide +kernel
theorem dX3_findChange_33 : decode cX3_findChange 33 = .ok (.iload_n 3, 1) := by decide +kernel
theorem dX3_findChange_34 : decode cX3_findChange 34 = .ok (.aload_n 0, 1) := by decide +kernel
theorem dX3_findChange_35 : decode cX3_findChange 35 = .ok (.getfield 9, 3) := by decide +kernel
theorem dX3_findChange_38 : decode cX3_findChange 38 = .ok (.getfield 92, 3) := by decide +kernel
theorem dX3_findChange_41 : decode cX3_findChange 41 = .ok (.if_icmp .ge 42, 3) := by decide +kernel
theorem dX3_findChange_44 : decode cX3_findChange 44 = .ok (.aload_n 0, 1) := by decide +kernel
theorem dX3_findChange_45 : decode cX3_findChange 45 = .ok (.iload_n 2, 1) := by decide +kernel
theorem dX3_findChange_46 : decode cX3_findChange 46 = .ok (.iload_n 3, 1) := by decide +kernel
theorem dX3_findChange_47 : decode cX3_findChange 47 = .ok (.invokevirtual 113, 3) := by decide +kernel
theorem dX3_findChange_50 : decode cX3_findChange 50 = .ok (.istore 4, 2) := by decide +kernel
theorem dX3_findChange_52 : decode cX3_findChange 52 = .ok (.iload 4, 2) := by decide +kernel
theorem dX3_findChange_54 : decode cX3_findChange 54 = .ok (.aload_n 0, 1) := by decide +kernel
theorem dX3_findChange_55 : decode cX3_findChange 55 = .ok (.getfield 110, 3) := by decide +kernel
theorem dX3_findChange_58 : decode cX3_findChange 58 = .ok (.if_icmp .le 19, 3) := by decide +kernel
theorem dX3_findChange_61 : decode cX3_findChange 61 = .ok (.aload_n 0, 1) := by decide +kernel
theorem dX3_findChange_62 : decode cX3_findChange 62 = .ok (.iload_n 2, 1) := by decide +kernel
theorem dX3_findChange_63 : decode cX3_findChange 63 = .ok (.putfield 116, 3) := by decide +kernel
theorem dX3_findChange_66 : decode cX3_findChange 66 = .ok (.aload_n 0, 1) := by decide +kernel
theorem dX3_findChange_67 : decode cX3_findChange 67 = .ok (.iload_n 3, 1) := by decide +kernel
theorem dX3_findChange_68 : decode cX3_findChange 68 = .ok (.putfield 119, 3) := by decide +kernel
theorem dX3_findChange_71 : decode cX3_findChange 71 = .ok (.aload_n 0, 1) := by decide +kernel
theorem dX3_findChange_72 : decode cX3_findChange 72 = .ok (.iload 4, 2) := by decide +kernel
theorem dX3_findChange_74 : decode cX3_findChange 74 = .ok (.putfield 110, 3) := by decide +kernel
theorem dX3_findChange_77 : decode cX3_findChange 77 = .ok (.iinc 3 1, 3) := by decide +kernel
theorem dX3_findChange_80 : decode cX3_findChange 80 = .ok (.goto (-47), 3) := by decide +kernel
theorem dX3_findChange_83 : decode cX3_findChange 83 = .ok (.iinc 2 1, 3) := by decide +kernel
theorem dX3_findChange_86 : decode cX3_findChange 86 = .ok (.goto (-68), 3) := by decide +kernel
theorem dX3_findChange_89 : decode cX3_findChange 89 = .ok (.aload_n 0, 1) := by decide +kernel
theorem dX3_findChange_90 : decode cX3_findChange 90 = .ok (.getfield 110, 3) := by decide +kernel
theorem dX3_findChange_93 : decode cX3_findChange 93 = .ok (.iload_n 1, 1) := by decide +kernel
theorem dX3_findChange_94 : decode cX3_findChange 94 = .ok (.if_icmp .le 7, 3) := by decide +kernel
theorem dX3_findChange_97 : decode cX3_findChange 97 = .ok (.iconst 1, 1) := by decide +kernel
theorem dX3_findChange_98 : decode cX3_findChange 98 = .ok (.goto 4, 3) := by decide +kernel
theorem dX3_findChange_101 : decode cX3_findChange 101 = .ok (.iconst 0, 1) := by decide +kernel
theorem dX3_findChange_102 : decode cX3_findChange 102 = .ok (.ireturn, 1) := by decide +kernel
theorem dX3_findRota_0 : decode cX3_findRota 0 = .ok (.aload_n 0, 1) := by decide +kernel
theorem dX3_findRota_1 : decode cX3_findRota 1 = .ok (.iconst 0, 1) := by decide +kernel
theorem dX3_findRota_2 : decode cX3_findRota 2 = .ok (.putfield 86, 3) := by decide +kernel
theorem dX3_findRota_5 : decode cX3_findRota 5 = .ok (.aload_n 0, 1) := by decide +kernel
theorem dX3_findRota_6 : decode cX3_findRota 6 = .ok (.iconst (-1), 1) := by decide +kernel
theorem dX3_findRota_7 : decode cX3_findRota 7 = .ok (.putfield 89, 3) := by decide +kernel
theorem dX3_findRota_10 : decode cX3_findRota 10 = .ok (.iconst 0, 1) := by decide +kernel
theorem dX3_findRota_11 : decode cX3_findRota 11 = .ok (.istore_n 1, 1) := by decide +kernel
theorem dX3_findRota_12 : decode cX3_findRota 12 = .ok (.iload_n 1, 1) := by decide +kernel
theorem dX3_findRota_13 : decode cX3_findRota 13 = .ok (.aload_n 0, 1) := by decide +kernel
theorem dX3_findRota_14 : decode cX3_findRota 14 = .ok (.getfield 9, 3) := by decide +kernel
theorem dX3_findRota_17 : decode cX3_findRota 17 = .ok (.getfield 92, 3) := by decide +kernel
theorem dX3_findRota_20 : decode cX3_findRota 20 = .ok (.if_icmp .ge 33, 3) := by decide +kernel
theorem dX3_findRota_23 : decode cX3_findRota 23 = .ok (.aload_n 0, 1) := by decide +kernel
theorem dX3_findRota_24 : decode cX3_findRota 24 = .ok (.iload_n 1, 1) := by decide +kernel
theorem dX3_findRota_25 : decode cX3_findRota 25 = .ok (.invokevirtual 95, 3) := by decide +kernel
theorem dX3_findRota_28 : decode cX3_findRota 28 = .ok (.istore_n 2, 1) := by decide +kernel
theorem dX3_findRota_29 : decode cX3_findRota 29 = .ok (.iload_n 2, 1) := by decide +kernel
theorem dX3_findRota_30 : decode cX3_findRota 30 = .ok (.aload_n 0, 1) := by decide +kernel
theorem dX3_findRota_31 : decode cX3_findRota 31 = .ok (.getfield 89, 3) := by decide +kernel
theorem dX3_findRota_34 : decode cX3_findRota 34 = .ok (.if_icmp .le 13, 3) := by decide +kernel
theorem dX3_findRota_37 : decode cX3_findRota 37 = .ok (.aload_n 0, 1) := by decide +kernel
theorem dX3_findRota_38 : decode cX3_findRota 38 = .ok (.iload_n 1, 1) := by decide +kernel
theorem dX3_findRota_39 : decode cX3_findRota 39 = .ok (.putfield 86, 3) := by decide +kernel
theorem dX3_findRota_42 : decode cX3_findRota 42 = .ok (.aload_n 0, 1) := by decide +kernel
theorem dX3_findRota_43 : decode cX3_findRota 43 = .ok (.iload_n 2, 1) := by decide +kernel
theorem dX3_findRota_44 : decode cX3_findRota 44 = .ok (.putfield 89, 3) := by decide +kernel
theorem dX3_findRota_47 : decode cX3_findRota 47 = .ok (.iinc 1 1, 3) := by decide +kernel
theorem dX3_findRota_50 : decode cX3_findRota 50 = .ok (.goto (-38), 3) := by decide +kernel
theorem dX3_findRota_53 : decode cX3_findRota 53 = .ok (.return_, 1) := by decide +kernel
theorem dX3_findSewing_0 : decode cX3_findSewing 0 = .ok (.iconst 0, 1) := by decide +kernel
theorem dX3_findSewing_1 : decode cX3_findSewing 1 = .ok (.istore_n 3, 1) := by decide +kernel
theorem dX3_findSewing_2 : decode cX3_findSewing 2 = .ok (.iload_n 3, 1) := by decide +kernel
theorem dX3_findSewing_3 : decode cX3_findSewing 3 = .ok (.bipush 40, 2) := by decide +kernel
theorem dX3_findSewing_5 : decode cX3_findSewing 5 = .ok (.if_icmp .gt 73, 3) := by decide +kernel
theorem dX3_findSewing_8 : decode cX3_findSewing 8 = .ok (.iconst 0, 1) := by decide +kernel
theorem dX3_findSewing_9 : decode cX3_findSewing 9 = .ok (.iload_n 3, 1) := by decide +kernel
theorem dX3_findSewing_10 : decode cX3_findSewing 10 = .ok (.bipush 20, 2) := by decide +kernel
theorem dX3_findSewing_12 : decode cX3_findSewing 12 = .ok (.isub, 1) := by decide +kernel
theorem dX3_findSewing_13 : decode cX3_findSewing 13 = .ok (.invokestatic 42, 3) := by decide +kernel
theorem dX3_findSewing_16 : decode cX3_findSewing 16 = .ok (.istore 4, 2) := by decide +kernel
theorem dX3_findSewing_18 : decode cX3_findSewing 18 = .ok (.iload 4, 2) := by decide +kernel
theorem dX3_findSewing_20 : decode cX3_findSewing 20 = .ok (.iload_n 3, 1) := by decide +kernel
theorem dX3_findSewing_21 : decode cX3_findSewing 21 = .ok (.if_icmp .gt 51, 3) := by decide +kernel
theorem dX3_findSewing_24 : decode cX3_findSewing 24 = .ok (.iload 4, 2) := by decide +kernel
theorem dX3_findSewing_26 : decode cX3_findSewing 26 = .ok (.bipush 20, 2) := by decide +kernel
theorem dX3_findSewing_28 : decode cX3_findSewing 28 = .ok (.if_icmp .gt 44, 3) := by decide +kernel
theorem dX3_findSewing_31 : decode cX3_findSewing 31 = .ok (.iload_n 3, 1) := by decide +kernel
theorem dX3_findSewing_32 : decode cX3_findSewing 32 = .ok (.iload 4, 2) := by decide +kernel
theorem dX3_findSewing_34 : decode cX3_findSewing 34 = .ok (.isub, 1) := by decide +kernel
theorem dX3_findSewing_35 : decode cX3_findSewing 35 = .ok (.istore 5, 2) := by decide +kernel
theorem dX3_findSewing_37 : decode cX3_findSewing 37 = .ok (.aload_n 0, 1) := by decide +kernel
theorem dX3_findSewing_38 : decode cX3_findSewing 38 = .ok (.iload_n 1, 1) := by decide +kernel
theorem dX3_findSewing_39 : decode cX3_findSewing 39 = .ok (.iload_n 2, 1) := by decide +kernel
theorem dX3_findSewing_40 : decode cX3_findSewing 40 = .ok (.iload 4, 2) := by decide +kernel
theorem dX3_findSewing_42 : decode cX3_findSewing 42 = .ok (.iload 5, 2) := by decide +kernel
theorem dX3_findSewing_44 : decode cX3_findSewing 44 = .ok (.invokevirtual 48, 3) := by decide +kernel
theorem dX3_findSewing_47 : decode cX3_findSewing 47 = .ok (.ifCond .ne 17, 3) := by decide +kernel
theorem dX3_findSewing_50 : decode cX3_findSewing 50 = .ok (.aload_n 0, 1) := by decide +kernel
theorem dX3_findSewing_51 : decode cX3_findSewing 51 = .ok (.iload_n 1, 1) := by decide +kernel
theorem dX3_findSewing_52 : decode cX3_findSewing 52 = .ok (.iload_n 2, 1) := by decide +kernel
theorem dX3_findSewing_53 : decode cX3_findSewing 53 = .ok (.iload 4, 2) := by decide +kernel
theorem dX3_findSewing_55 : decode cX3_findSewing 55 = .ok (.iload 5, 2) := by decide +kernel
theorem dX3_findSewing_57 : decode cX3_findSewing 57 = .ok (.ineg, 1) := by decide +kernel
theorem dX3_findSewing_58 : decode cX3_findSewing 58 = .ok (.invokevirtual 48, 3) := by decide +kernel
theorem dX3_findSewing_61 : decode cX3_findSewing 61 = .ok (.ifCond .eq 5, 3) := by decide +kernel
theorem dX3_findSewing_64 : decode cX3_findSewing 64 = .ok (.iconst 1, 1) := by decide +kernel
theorem dX3_findSewing_65 : decode cX3_findSewing 65 = .ok (.ireturn, 1) := by decide +kernel
theorem dX3_findSewing_66 : decode cX3_findSewing 66 = .ok (.iinc 4 1, 3) := by decide +kernel
theorem dX3_findSewing_69 : decode cX3_findSewing 69 = .ok (.goto (-51), 3) := by decide +kernel
theorem dX3_findSewing_72 : decode cX3_findSewing 72 = .ok (.iinc 3 1, 3) := by decide +kernel
theorem dX3_findSewing_75 : decode cX3_findSewing 75 = .ok (.goto (-73), 3) := by decide +kernel
theorem dX3_findSewing_78 : decode cX3_findSewing 78 = .ok (.iconst 0, 1) := by decide +kernel
theorem dX3_findSewing_79 : decode cX3_findSewing 79 = .ok (.ireturn, 1) := by decide +kernel
theorem dX3_fittingBy_0 : decode cX3_fittingBy 0 = .ok (.iconst 0, 1) := by decide +kernel
theorem dX3_fittingBy_1 : decode cX3_fittingBy 1 = .ok (.istore_n 2, 1) := by decide +kernel
theorem dX3_fittingBy_2 : decode cX3_fittingBy 2 = .ok (.iconst 0, 1) := by decide +kernel
theorem dX3_fittingBy_3 : decode cX3_fittingBy 3 = .ok (.istore_n 3, 1) := by decide +kernel
theorem dX3_fittingBy_4 : decode cX3_fittingBy 4 = .ok (.iload_n 3, 1) := by decide +kernel
theorem dX3_fittingBy_5 : decode cX3_fittingBy 5 = .ok (.aload_n 0, 1) := by decide +kernel
theorem dX3_fittingBy_6 : decode cX3_fittingBy 6 = .ok (.getfield 9, 3) := by decide +kernel
theorem dX3_fittingBy_9 : decode cX3_fittingBy 9 = .ok (.getfield 92, 3) := by decide +kernel
theorem dX3_fittingBy_12 : decode cX3_fittingBy 12 = .ok (.if_icmp .ge 42, 3) := by decide +kernel
theorem dX3_fittingBy_15 : decode cX3_fittingBy 15 = .ok (.aload_n 0, 1) := by decide +kernel
theorem dX3_fittingBy_16 : decode cX3_fittingBy 16 = .ok (.getfield 15, 3) := by decide +kernel
theorem dX3_fittingBy_19 : decode cX3_fittingBy 19 = .ok (.iload_n 3, 1) := by decide +kernel
theorem dX3_fittingBy_20 : decode cX3_fittingBy 20 = .ok (.invokevirtual 35, 3) := by decide +kernel
theorem dX3_fittingBy_23 : decode cX3_fittingBy 23 = .ok (.istore 4, 2) := by decide +kernel
theorem dX3_fittingBy_25 : decode cX3_fittingBy 25 = .ok (.iload 4, 2) := by decide +kernel
theorem dX3_fittingBy_27 : decode cX3_fittingBy 27 = .ok (.iconst (-1), 1) := by decide +kernel
theorem dX3_fittingBy_28 : decode cX3_fittingBy 28 = .ok (.if_icmp .eq 20, 3) := by decide +kernel
theorem dX3_fittingBy_31 : decode cX3_fittingBy 31 = .ok (.aload_n 0, 1) := by decide +kernel
theorem dX3_fittingBy_32 : decode cX3_fittingBy 32 = .ok (.getfield 15, 3) := by decide +kernel
theorem dX3_fittingBy_35 : decode cX3_fittingBy 35 = .ok (.iload_n 3, 1) := by decide +kernel
theorem dX3_fittingBy_36 : decode cX3_fittingBy 36 = .ok (.iload 4, 2) := by decide +kernel
theorem dX3_fittingBy_38 : decode cX3_fittingBy 38 = .ok (.invokevirtual 129, 3) := by decide +kernel
theorem dX3_fittingBy_41 : decode cX3_fittingBy 41 = .ok (.iload_n 1, 1) := by decide +kernel
theorem dX3_fittingBy_42 : decode cX3_fittingBy 42 = .ok (.if_icmp .gt 6, 3) := by decide +kernel
theorem dX3_fittingBy_45 : decode cX3_fittingBy 45 = .ok (.iinc 2 1, 3) := by decide +kernel
theorem dX3_fittingBy_48 : decode cX3_fittingBy 48 = .ok (.iinc 3 1, 3) := by decide +kernel
theorem dX3_fittingBy_51 : decode cX3_fittingBy 51 = .ok (.goto (-47), 3) := by decide +kernel
theorem dX3_fittingBy_54 : decode cX3_fittingBy 54 = .ok (.iload_n 2, 1) := by decide +kernel
theorem dX3_fittingBy_55 : decode cX3_fittingBy 55 = .ok (.ireturn, 1) := by decide +kernel
theorem dX3_init_0 : decode cX3_init 0 = .ok (.aload_n 0, 1) := by decide +kernel
theorem dX3_init_1 : decode cX3_init 1 = .ok (.invokespecial 3, 3) := by decide +kernel
theorem dX3_init_4 : decode cX3_init 4 = .ok (.aload_n 0, 1) := by decide +kernel
theorem dX3_init_5 : decode cX3_init 5 = .ok (.aload_n 1, 1) := by decide +kernel
theorem dX3_init_6 : decode cX3_init 6 = .ok (.putfield 9, 3) := by decide +kernel
theorem dX3_init_9 : decode cX3_init 9 = .ok (.aload_n 0, 1) := by decide +kernel
theorem dX3_init_10 : decode cX3_init 10 = .ok (.aload_n 2, 1) := by decide +kernel
theorem dX3_init_11 : decode cX3_init 11 = .ok (.putfield 15, 3) := by decide +kernel
theorem dX3_init_14 : decode cX3_init 14 = .ok (.aload_n 0, 1) := by decide +kernel
theorem dX3_init_15 : decode cX3_init 15 = .ok (.new 19, 3) := by decide +kernel
theorem dX3_init_18 : decode cX3_init 18 = .ok (.dup, 1) := by decide +kernel
theorem dX3_init_19 : decode cX3_init 19 = .ok (.aload_n 1, 1) := by decide +kernel
theorem dX3_init_20 : decode cX3_init 20 = .ok (.invokespecial 21, 3) := by decide +kernel
theorem dX3_init_23 : decode cX3_init 23 = .ok (.putfield 24, 3) := by decide +kernel
theorem dX3_init_26 : decode cX3_init 26 = .ok (.return_, 1) := by decide +kernel
theorem dX3_rotaCount_0 : decode cX3_rotaCount 0 = .ok (.iconst 0, 1) := by decide +kernel
theorem dX3_rotaCount_1 : decode cX3_rotaCount 1 = .ok (.istore_n 2, 1) := by decide +kernel
theorem dX3_rotaCount_2 : decode cX3_rotaCount 2 = .ok (.iconst 0, 1) := by decide +kernel
theorem dX3_rotaCount_3 : decode cX3_rotaCount 3 = .ok (.istore_n 3, 1) := by decide +kernel
theorem dX3_rotaCount_4 : decode cX3_rotaCount 4 = .ok (.iload_n 3, 1) := by decide +kernel
theorem dX3_rotaCount_5 : decode cX3_rotaCount 5 = .ok (.aload_n 0, 1) := by decide +kernel
theorem dX3_rotaCount_6 : decode cX3_rotaCount 6 = .ok (.getfield 9, 3) := by decide +kernel
theorem dX3_rotaCount_9 : decode cX3_rotaCount 9 = .ok (.getfield 92, 3) := by decide +kernel
theorem dX3_rotaCount_12 : decode cX3_rotaCount 12 = .ok (.if_icmp .ge 64, 3) := by decide +kernel
theorem dX3_rotaCount_15 : decode cX3_rotaCount 15 = .ok (.iload_n 3, 1) := by decide +kernel
theorem dX3_rotaCount_16 : decode cX3_rotaCount 16 = .ok (.iload_n 1, 1) := by decide +kernel
theorem dX3_rotaCount_17 : decode cX3_rotaCount 17 = .ok (.iadd, 1) := by decide +kernel
theorem dX3_rotaCount_18 : decode cX3_rotaCount 18 = .ok (.aload_n 0, 1) := by decide +kernel
theorem dX3_rotaCount_19 : decode cX3_rotaCount 19 = .ok (.getfield 9, 3) := by decide +kernel
theorem dX3_rotaCount_22 : decode cX3_rotaCount 22 = .ok (.getfield 92, 3) := by decide +kernel
theorem dX3_rotaCount_25 : decode cX3_rotaCount 25 = .ok (.if_icmp .ge 9, 3) := by decide +kernel
theorem dX3_rotaCount_28 : decode cX3_rotaCount 28 = .ok (.iload_n 3, 1) := by decide +kernel
theorem dX3_rotaCount_29 : decode cX3_rotaCount 29 = .ok (.iload_n 1, 1) := by decide +kernel
theorem dX3_rotaCount_30 : decode cX3_rotaCount 30 = .ok (.iadd, 1) := by decide +kernel
theorem dX3_rotaCount_31 : decode cX3_rotaCount 31 = .ok (.goto 14, 3) := by decide +kernel
theorem dX3_rotaCount_34 : decode cX3_rotaCount 34 = .ok (.iload_n 3, 1) := by decide +kernel
theorem dX3_rotaCount_35 : decode cX3_rotaCount 35 = .ok (.iload_n 1, 1) := by decide +kernel
theorem dX3_rotaCount_36 : decode cX3_rotaCount 36 = .ok (.iadd, 1) := by decide +kernel
theorem dX3_rotaCount_37 : decode cX3_rotaCount 37 = .ok (.aload_n 0, 1) := by decide +kernel
theorem dX3_rotaCount_38 : decode cX3_rotaCount 38 = .ok (.getfield 9, 3) := by decide +kernel
theorem dX3_rotaCount_41 : decode cX3_rotaCount 41 = .ok (.getfield 92, 3) := by decide +kernel
theorem dX3_rotaCount_44 : decode cX3_rotaCount 44 = .ok (.isub, 1) := by decide +kernel
theorem dX3_rotaCount_45 : decode cX3_rotaCount 45 = .ok (.istore 4, 2) := by decide +kernel
theorem dX3_rotaCount_47 : decode cX3_rotaCount 47 = .ok (.aload_n 0, 1) := by decide +kernel
theorem dX3_rotaCount_48 : decode cX3_rotaCount 48 = .ok (.getfield 15, 3) := by decide +kernel
theorem dX3_rotaCount_51 : decode cX3_rotaCount 51 = .ok (.iload_n 3, 1) := by decide +kernel
theorem dX3_rotaCount_52 : decode cX3_rotaCount 52 = .ok (.aload_n 0, 1) := by decide +kernel
theorem dX3_rotaCount_53 : decode cX3_rotaCount 53 = .ok (.getfield 15, 3) := by decide +kernel
theorem dX3_rotaCount_56 : decode cX3_rotaCount 56 = .ok (.iload 4, 2) := by decide +kernel
theorem dX3_rotaCount_58 : decode cX3_rotaCount 58 = .ok (.invokevirtual 35, 3) := by decide +kernel
theorem dX3_rotaCount_61 : decode cX3_rotaCount 61 = .ok (.invokevirtual 98, 3) := by decide +kernel
theorem dX3_rotaCount_64 : decode cX3_rotaCount 64 = .ok (.ifCond .eq 6, 3) := by decide +kernel
theorem dX3_rotaCount_67 : decode cX3_rotaCount 67 = .ok (.iinc 2 1, 3) := by decide +kernel
theorem dX3_rotaCount_70 : decode cX3_rotaCount 70 = .ok (.iinc 3 1, 3) := by decide +kernel
theorem dX3_rotaCount_73 : decode cX3_rotaCount 73 = .ok (.goto (-69), 3) := by decide +kernel
theorem dX3_rotaCount_76 : decode cX3_rotaCount 76 = .ok (.iload_n 2, 1) := by decide +kernel
theorem dX3_rotaCount_77 : decode cX3_rotaCount 77 = .ok (.ireturn, 1) := by decide +kernel
theorem dX3_sewnFits_0 : decode cX3_sewnFits 0 = .ok (.aload_n 0, 1) := by decide +kernel
theorem dX3_sewnFits_1 : decode cX3_sewnFits 1 = .ok (.getfield 15, 3) := by decide +kernel
theorem dX3_sewnFits_4 : decode cX3_sewnFits 4 = .ok (.iconst 0, 1) := by decide +kernel
theorem dX3_sewnFits_5 : decode cX3_sewnFits 5 = .ok (.iload_n 1, 1) := by decide +kernel
theorem dX3_sewnFits_6 : decode cX3_sewnFits 6 = .ok (.invokevirtual 52, 3) := by decide +kernel
theorem dX3_sewnFits_9 : decode cX3_sewnFits 9 = .ok (.iload_n 3, 1) := by decide +kernel
theorem dX3_sewnFits_10 : decode cX3_sewnFits 10 = .ok (.isub, 1) := by decide +kernel
theorem dX3_sewnFits_11 : decode cX3_sewnFits 11 = .ok (.istore 5, 2) := by decide +kernel
theorem dX3_sewnFits_13 : decode cX3_sewnFits 13 = .ok (.aload_n 0, 1) := by decide +kernel
theorem dX3_sewnFits_14 : decode cX3_sewnFits 14 = .ok (.getfield 15, 3) := by decide +kernel
theorem dX3_sewnFits_17 : decode cX3_sewnFits 17 = .ok (.iconst 1, 1) := by decide +kernel
theorem dX3_sewnFits_18 : decode cX3_sewnFits 18 = .ok (.iload_n 1, 1) := by decide +kernel
theorem dX3_sewnFits_19 : decode cX3_sewnFits 19 = .ok (.invokevirtual 52, 3) := by decide +kernel
theorem dX3_sewnFits_22 : decode cX3_sewnFits 22 = .ok (.iload 4, 2) := by decide +kernel
theorem dX3_sewnFits_24 : decode cX3_sewnFits 24 = .ok (.isub, 1) := by decide +kernel
theorem dX3_sewnFits_25 : decode cX3_sewnFits 25 = .ok (.istore 6, 2) := by decide +kernel
theorem dX3_sewnFits_27 : decode cX3_sewnFits 27 = .ok (.iload 5, 2) := by decide +kernel
theorem dX3_sewnFits_29 : decode cX3_sewnFits 29 = .ok (.ifCond .lt 30, 3) := by decide +kernel
theorem dX3_sewnFits_32 : decode cX3_sewnFits 32 = .ok (.iload 6, 2) := by decide +kernel
theorem dX3_sewnFits_34 : decode cX3_sewnFits 34 = .ok (.ifCond .lt 25, 3) := by decide +kernel
theorem dX3_sewnFits_37 : decode cX3_sewnFits 37 = .ok (.iload 6, 2) := by decide +kernel
theorem dX3_sewnFits_39 : decode cX3_sewnFits 39 = .ok (.bipush 99, 2) := by decide +kernel
theorem dX3_sewnFits_41 : decode cX3_sewnFits 41 = .ok (.if_icmp .gt 18, 3) := by decide +kernel
theorem dX3_sewnFits_44 : decode cX3_sewnFits 44 = .ok (.iload 4, 2) := by decide +kernel
theorem dX3_sewnFits_46 : decode cX3_sewnFits 46 = .ok (.ineg, 1) := by decide +kernel
theorem dX3_sewnFits_47 : decode cX3_sewnFits 47 = .ok (.aload_n 0, 1) := by decide +kernel
theorem dX3_sewnFits_48 : decode cX3_sewnFits 48 = .ok (.getfield 15, 3) := by decide +kernel
theorem dX3_sewnFits_51 : decode cX3_sewnFits 51 = .ok (.iconst 2, 1) := by decide +kernel
theorem dX3_sewnFits_52 : decode cX3_sewnFits 52 = .ok (.iload_n 1, 1) := by decide +kernel
theorem dX3_sewnFits_53 : decode cX3_sewnFits 53 = .ok (.invokevirtual 52, 3) := by decide +kernel
theorem dX3_sewnFits_56 : decode cX3_sewnFits 56 = .ok (.if_icmp .le 5, 3) := by decide +kernel
theorem dX3_sewnFits_59 : decode cX3_sewnFits 59 = .ok (.iconst 0, 1) := by decide +kernel
theorem dX3_sewnFits_60 : decode cX3_sewnFits 60 = .ok (.ireturn, 1) := by decide +kernel
theorem dX3_sewnFits_61 : decode cX3_sewnFits 61 = .ok (.aload_n 0, 1) := by decide +kernel
theorem dX3_sewnFits_62 : decode cX3_sewnFits 62 = .ok (.iload_n 3, 1) := by decide +kernel
theorem dX3_sewnFits_63 : decode cX3_sewnFits 63 = .ok (.putfield 55, 3) := by decide +kernel
theorem dX3_sewnFits_66 : decode cX3_sewnFits 66 = .ok (.aload_n 0, 1) := by decide +kernel
theorem dX3_sewnFits_67 : decode cX3_sewnFits 67 = .ok (.iload 4, 2) := by decide +kernel
theorem dX3_sewnFits_69 : decode cX3_sewnFits 69 = .ok (.putfield 59, 3) := by decide +kernel
theorem dX3_sewnFits_72 : decode cX3_sewnFits 72 = .ok (.aload_n 0, 1) := by decide +kernel
theorem dX3_sewnFits_73 : decode cX3_sewnFits 73 = .ok (.getfield 9, 3) := by decide +kernel
theorem dX3_sewnFits_76 : decode cX3_sewnFits 76 = .ok (.getfield 62, 3) := by decide +kernel
theorem dX3_sewnFits_79 : decode cX3_sewnFits 79 = .ok (.aload_n 0, 1) := by decide +kernel
theorem dX3_sewnFits_80 : decode cX3_sewnFits 80 = .ok (.getfield 9, 3) := by decide +kernel
theorem dX3_sewnFits_83 : decode cX3_sewnFits 83 = .ok (.iconst 0, 1) := by decide +kernel
theorem dX3_sewnFits_84 : decode cX3_sewnFits 84 = .ok (.iload_n 2, 1) := by decide +kernel
theorem dX3_sewnFits_85 : decode cX3_sewnFits 85 = .ok (.invokevirtual 68, 3) := by decide +kernel
theorem dX3_sewnFits_88 : decode cX3_sewnFits 88 = .ok (.aload_n 0, 1) := by decide +kernel
theorem dX3_sewnFits_89 : decode cX3_sewnFits 89 = .ok (.getfield 15, 3) := by decide +kernel
theorem dX3_sewnFits_92 : decode cX3_sewnFits 92 = .ok (.iload_n 2, 1) := by decide +kernel
theorem dX3_sewnFits_93 : decode cX3_sewnFits 93 = .ok (.invokevirtual 71, 3) := by decide +kernel
theorem dX3_sewnFits_96 : decode cX3_sewnFits 96 = .ok (.iload 5, 2) := by decide +kernel
theorem dX3_sewnFits_98 : decode cX3_sewnFits 98 = .ok (.iload 6, 2) := by decide +kernel
theorem dX3_sewnFits_100 : decode cX3_sewnFits 100 = .ok (.aload_n 0, 1) := by decide +kernel
theorem dX3_sewnFits_101 : decode cX3_sewnFits 101 = .ok (.getfield 15, 3) := by decide +kernel
theorem dX3_sewnFits_104 : decode cX3_sewnFits 104 = .ok (.iconst 3, 1) := by decide +kernel
theorem dX3_sewnFits_105 : decode cX3_sewnFits 105 = .ok (.iload_n 1, 1) := by decide +kernel
theorem dX3_sewnFits_106 : decode cX3_sewnFits 106 = .ok (.invokevirtual 52, 3) := by decide +kernel
theorem dX3_sewnFits_109 : decode cX3_sewnFits 109 = .ok (.aload_n 0, 1) := by decide +kernel
theorem dX3_sewnFits_110 : decode cX3_sewnFits 110 = .ok (.getfield 15, 3) := by decide +kernel
theorem dX3_sewnFits_113 : decode cX3_sewnFits 113 = .ok (.invokevirtual 74, 3) := by decide +kernel
theorem dX3_sewnFits_116 : decode cX3_sewnFits 116 = .ok (.invokevirtual 77, 3) := by decide +kernel
theorem dX3_sewnFits_119 : decode cX3_sewnFits 119 = .ok (.aload_n 0, 1) := by decide +kernel
theorem dX3_sewnFits_120 : decode cX3_sewnFits 120 = .ok (.getfield 9, 3) := by decide +kernel
theorem dX3_sewnFits_123 : decode cX3_sewnFits 123 = .ok (.getfield 83, 3) := by decide +kernel
theorem dX3_sewnFits_126 : decode cX3_sewnFits 126 = .ok (.if_icmp .gt 7, 3) := by decide +kernel
theorem dX3_sewnFits_129 : decode cX3_sewnFits 129 = .ok (.iconst 1, 1) := by decide +kernel
theorem dX3_sewnFits_130 : decode cX3_sewnFits 130 = .ok (.goto 4, 3) := by decide +kernel
theorem dX3_sewnFits_133 : decode cX3_sewnFits 133 = .ok (.iconst 0, 1) := by decide +kernel
theorem dX3_sewnFits_134 : decode cX3_sewnFits 134 = .ok (.ireturn, 1) := by decide +kernel
theorem dX3_worstIllness_0 : decode cX3_worstIllness 0 = .ok (.iconst 0, 1) := by decide +kernel
theorem dX3_worstIllness_1 : decode cX3_worstIllness 1 = .ok (.istore_n 1, 1) := by decide +kernel
theorem dX3_worstIllness_2 : decode cX3_worstIllness 2 = .ok (.iconst 0, 1) := by decide +kernel
theorem dX3_worstIllness_3 : decode cX3_worstIllness 3 = .ok (.istore_n 2, 1) := by decide +kernel
theorem dX3_worstIllness_4 : decode cX3_worstIllness 4 = .ok (.iload_n 2, 1) := by decide +kernel
theorem dX3_worstIllness_5 : decode cX3_worstIllness 5 = .ok (.aload_n 0, 1) := by decide +kernel
theorem dX3_worstIllness_6 : decode cX3_worstIllness 6 = .ok (.getfield 9, 3) := by decide +kernel
theorem dX3_worstIllness_9 : decode cX3_worstIllness 9 = .ok (.getfield 92, 3) := by decide +kernel
theorem dX3_worstIllness_12 : decode cX3_worstIllness 12 = .ok (.if_icmp .ge 37, 3) := by decide +kernel
theorem dX3_worstIllness_15 : decode cX3_worstIllness 15 = .ok (.aload_n 0, 1) := by decide +kernel
theorem dX3_worstIllness_16 : decode cX3_worstIllness 16 = .ok (.getfield 15, 3) := by decide +kernel
theorem dX3_worstIllness_19 : decode cX3_worstIllness 19 = .ok (.iload_n 2, 1) := by decide +kernel
theorem dX3_worstIllness_20 : decode cX3_worstIllness 20 = .ok (.invokevirtual 35, 3) := by decide +kernel
theorem dX3_worstIllness_23 : decode cX3_worstIllness 23 = .ok (.istore_n 3, 1) := by decide +kernel
theorem dX3_worstIllness_24 : decode cX3_worstIllness 24 = .ok (.iload_n 3, 1) := by decide +kernel
theorem dX3_worstIllness_25 : decode cX3_worstIllness 25 = .ok (.iconst (-1), 1) := by decide +kernel
theorem dX3_worstIllness_26 : decode cX3_worstIllness 26 = .ok (.if_icmp .eq 17, 3) := by decide +kernel
theorem dX3_worstIllness_29 : decode cX3_worstIllness 29 = .ok (.iload_n 1, 1) := by decide +kernel
theorem dX3_worstIllness_30 : decode cX3_worstIllness 30 = .ok (.aload_n 0, 1) := by decide +kernel
theorem dX3_worstIllness_31 : decode cX3_worstIllness 31 = .ok (.getfield 15, 3) := by decide +kernel
theorem dX3_worstIllness_34 : decode cX3_worstIllness 34 = .ok (.iload_n 2, 1) := by decide +kernel
theorem dX3_worstIllness_35 : decode cX3_worstIllness 35 = .ok (.iload_n 3, 1) := by decide +kernel
theorem dX3_worstIllness_36 : decode cX3_worstIllness 36 = .ok (.invokevirtual 129, 3) := by decide +kernel
theorem dX3_worstIllness_39 : decode cX3_worstIllness 39 = .ok (.invokestatic 42, 3) := by decide +kernel
theorem dX3_worstIllness_42 : decode cX3_worstIllness 42 = .ok (.istore_n 1, 1) := by decide +kernel
theorem dX3_worstIllness_43 : decode cX3_worstIllness 43 = .ok (.iinc 2 1, 3) := by decide +kernel
theorem dX3_worstIllness_46 : decode cX3_worstIllness 46 = .ok (.goto (-42), 3) := by decide +kernel
theorem dX3_worstIllness_49 : decode cX3_worstIllness 49 = .ok (.iload_n 1, 1) := by decide +kernel
theorem dX3_worstIllness_50 : decode cX3_worstIllness 50 = .ok (.ireturn, 1) := by decide +kernel
theorem dX4_add_0 : decode cX4_add 0 = .ok (.aload_n 0, 1) := by decide +kernel
theorem dX4_add_1 : decode cX4_add 1 = .ok (.getfield 24, 3) := by decide +kernel
theorem dX4_add_4 : decode cX4_add 4 = .ok (.sipush 300, 3) := by decide +kernel
theorem dX4_add_7 : decode cX4_add 7 = .ok (.if_icmp .ge 33, 3) := by decide +kernel
theorem dX4_add_10 : decode cX4_add 10 = .ok (.aload_n 0, 1) := by decide +kernel
theorem dX4_add_11 : decode cX4_add 11 = .ok (.getfield 11, 3) := by decide +kernel
theorem dX4_add_14 : decode cX4_add 14 = .ok (.aload_n 0, 1) := by decide +kernel
theorem dX4_add_15 : decode cX4_add 15 = .ok (.getfield 24, 3) := by decide +kernel
theorem dX4_add_18 : decode cX4_add 18 = .ok (.iload_n 1, 1) := by decide +kernel
theorem dX4_add_19 : decode cX4_add 19 = .ok (.iastore, 1) := by decide +kernel
theorem dX4_add_20 : decode cX4_add 20 = .ok (.aload_n 0, 1) := by decide +kernel
theorem dX4_add_21 : decode cX4_add 21 = .ok (.getfield 15, 3) := by decide +kernel
theorem dX4_add_24 : decode cX4_add 24 = .ok (.aload_n 0, 1) := by decide +kernel
theorem dX4_add_25 : decode cX4_add 25 = .ok (.getfield 24, 3) := by decide +kernel
theorem dX4_add_28 : decode cX4_add 28 = .ok (.iload_n 2, 1) := by decide +kernel
theorem dX4_add_29 : decode cX4_add 29 = .ok (.iastore, 1) := by decide +kernel
theorem dX4_add_30 : decode cX4_add 30 = .ok (.aload_n 0, 1) := by decide +kernel
theorem dX4_add_31 : decode cX4_add 31 = .ok (.dup, 1) := by decide +kernel
theorem dX4_add_32 : decode cX4_add 32 = .ok (.getfield 24, 3) := by decide +kernel
theorem dX4_add_35 : decode cX4_add 35 = .ok (.iconst 1, 1) := by decide +kernel
theorem dX4_add_36 : decode cX4_add 36 = .ok (.iadd, 1) := by decide +kernel
theorem dX4_add_37 : decode cX4_add 37 = .ok (.putfield 24, 3) := by decide +kernel
theorem dX4_add_40 : decode cX4_add 40 = .ok (.return_, 1) := by decide +kernel
theorem dX4_clear_0 : decode cX4_clear 0 = .ok (.aload_n 0, 1) := by decide +kernel
theorem dX4_clear_1 : decode cX4_clear 1 = .ok (.iconst 0, 1) := by decide +kernel
theorem dX4_clear_2 : decode cX4_clear 2 = .ok (.putfield 24, 3) := by decide +kernel
theorem dX4_clear_5 : decode cX4_clear 5 = .ok (.aload_n 0, 1) := by decide +kernel
theorem dX4_clear_6 : decode cX4_clear 6 = .ok (.iconst 0, 1) := by decide +kernel
theorem dX4_clear_7 : decode cX4_clear 7 = .ok (.putfield 28, 3) := by decide +kernel
theorem dX4_clear_10 : decode cX4_clear 10 = .ok (.return_, 1) := by decide +kernel
theorem dX4_copy_0 : decode cX4_copy 0 = .ok (.aload_n 1, 1) := by decide +kernel
theorem dX4_copy_1 : decode cX4_copy 1 = .ok (.getfield 11, 3) := by decide +kernel
theorem dX4_copy_4 : decode cX4_copy 4 = .ok (.iconst 0, 1) := by decide +kernel
theorem dX4_copy_5 : decode cX4_copy 5 = .ok (.aload_n 0, 1) := by decide +kernel
theorem dX4_copy_6 : decode cX4_copy 6 = .ok (.getfield 11, 3) := by decide +kernel
theorem dX4_copy_9 : decode cX4_copy 9 = .ok (.iconst 0, 1) := by decide +kernel
theorem dX4_copy_10 : decode cX4_copy 10 = .ok (.sipush 300, 3) := by decide +kernel
theorem dX4_copy_13 : decode cX4_copy 13 = .ok (.invokestatic 31, 3) := by decide +kernel
theorem dX4_copy_16 : decode cX4_copy 16 = .ok (.aload_n 1, 1) := by decide +kernel
theorem dX4_copy_17 : decode cX4_copy 17 = .ok (.getfield 15, 3) := by decide +kernel
theorem dX4_copy_20 : decode cX4_copy 20 = .ok (.iconst 0, 1) := by decide +kernel
theorem dX4_copy_21 : decode cX4_copy 21 = .ok (.aload_n 0, 1) := by decide +kernel
theorem dX4_copy_22 : decode cX4_copy 22 = .ok (.getfield 15, 3) := by decide +kernel
