theorem dX0_init_30 : decode cX0_init 30 = .ok (.aload_n 1, 1) := by decide +kernel
theorem dX0_init_31 : decode cX0_init 31 = .ok (.putfield 21, 3) := by decide +kernel
theorem dX0_init_34 : decode cX0_init 34 = .ok (.aload_n 0, 1) := by decide +kernel
theorem dX0_init_35 : decode cX0_init 35 = .ok (.aload_n 2, 1) := by decide +kernel
theorem dX0_init_36 : decode cX0_init 36 = .ok (.putfield 25, 3) := by decide +kernel
theorem dX0_init_39 : decode cX0_init 39 = .ok (.return_, 1) := by decide +kernel
theorem dX0_layColours_0 : decode cX0_layColours 0 = .ok (.aload_n 0, 1) := by decide +kernel
theorem dX0_layColours_1 : decode cX0_layColours 1 = .ok (.invokevirtual 39, 3) := by decide +kernel
theorem dX0_layColours_4 : decode cX0_layColours 4 = .ok (.iconst 0, 1) := by decide +kernel
theorem dX0_layColours_5 : decode cX0_layColours 5 = .ok (.istore_n 1, 1) := by decide +kernel
theorem dX0_layColours_6 : decode cX0_layColours 6 = .ok (.iload_n 1, 1) := by decide +kernel
theorem dX0_layColours_7 : decode cX0_layColours 7 = .ok (.aload_n 0, 1) := by decide +kernel
theorem dX0_layColours_8 : decode cX0_layColours 8 = .ok (.getfield 21, 3) := by decide +kernel
theorem dX0_layColours_11 : decode cX0_layColours 11 = .ok (.getfield 48, 3) := by decide +kernel
theorem dX0_layColours_14 : decode cX0_layColours 14 = .ok (.if_icmp .gt 20, 3) := by decide +kernel
theorem dX0_layColours_17 : decode cX0_layColours 17 = .ok (.aload_n 0, 1) := by decide +kernel
theorem dX0_layColours_18 : decode cX0_layColours 18 = .ok (.iconst 0, 1) := by decide +kernel
theorem dX0_layColours_19 : decode cX0_layColours 19 = .ok (.iload_n 1, 1) := by decide +kernel
theorem dX0_layColours_20 : decode cX0_layColours 20 = .ok (.invokevirtual 87, 3) := by decide +kernel
theorem dX0_layColours_23 : decode cX0_layColours 23 = .ok (.ifCond .eq 5, 3) := by decide +kernel
theorem dX0_layColours_26 : decode cX0_layColours 26 = .ok (.iload_n 1, 1) := by decide +kernel
theorem dX0_layColours_27 : decode cX0_layColours 27 = .ok (.ireturn, 1) := by decide +kernel
theorem dX0_layDressing_0 : decode cX0_layDressing 0 = .ok (.aload_n 0, 1) := by decide +kernel
theorem dX0_layDressing_1 : decode cX0_layDressing 1 = .ok (.invokevirtual 33, 3) := by decide +kernel
theorem dX0_layDressing_4 : decode cX0_layDressing 4 = .ok (.aload_n 0, 1) := by decide +kernel
theorem dX0_layDressing_5 : decode cX0_layDressing 5 = .ok (.invokevirtual 36, 3) := by decide +kernel
theorem dX0_layDressing_8 : decode cX0_layDressing 8 = .ok (.aload_n 0, 1) := by decide +kernel
theorem dX0_layDressing_9 : decode cX0_layDressing 9 = .ok (.invokevirtual 39, 3) := by decide +kernel
theorem dX0_layDressing_12 : decode cX0_layDressing 12 = .ok (.aload_n 0, 1) := by decide +kernel
theorem dX0_layDressing_13 : decode cX0_layDressing 13 = .ok (.iconst 0, 1) := by decide +kernel
theorem dX0_layDressing_14 : decode cX0_layDressing 14 = .ok (.putfield 42, 3) := by decide +kernel
theorem dX0_layDressing_17 : decode cX0_layDressing 17 = .ok (.aload_n 0, 1) := by decide +kernel
theorem dX0_layDressing_18 : decode cX0_layDressing 18 = .ok (.iconst 0, 1) := by decide +kernel
theorem dX0_layDressing_19 : decode cX0_layDressing 19 = .ok (.putfield 45, 3) := by decide +kernel
theorem dX0_layDressing_22 : decode cX0_layDressing 22 = .ok (.iconst 0, 1) := by decide +kernel
theorem dX0_layDressing_23 : decode cX0_layDressing 23 = .ok (.istore_n 1, 1) := by decide +kernel
theorem dX0_layDressing_24 : decode cX0_layDressing 24 = .ok (.iconst 0, 1) := by decide +kernel
theorem dX0_layDressing_25 : decode cX0_layDressing 25 = .ok (.istore_n 2, 1) := by decide +kernel
theorem dX0_layDressing_26 : decode cX0_layDressing 26 = .ok (.iload_n 2, 1) := by decide +kernel
theorem dX0_layDressing_27 : decode cX0_layDressing 27 = .ok (.aload_n 0, 1) := by decide +kernel
theorem dX0_layDressing_28 : decode cX0_layDressing 28 = .ok (.getfield 21, 3) := by decide +kernel
theorem dX0_layDressing_31 : decode cX0_layDressing 31 = .ok (.getfield 48, 3) := by decide +kernel
theorem dX0_layDressing_34 : decode cX0_layDressing 34 = .ok (.if_icmp .ge 60, 3) := by decide +kernel
theorem dX0_layDressing_94 : decode cX0_layDressing 94 = .ok (.return_, 1) := by decide +kernel
theorem dX0_lying_0 : decode cX0_lying 0 = .ok (.iload_n 1, 1) := by decide +kernel
theorem dX0_lying_1 : decode cX0_lying 1 = .ok (.ifCond .lt 29, 3) := by decide +kernel
theorem dX0_lying_4 : decode cX0_lying 4 = .ok (.iload_n 1, 1) := by decide +kernel
theorem dX0_lying_5 : decode cX0_lying 5 = .ok (.aload_n 0, 1) := by decide +kernel
theorem dX0_lying_6 : decode cX0_lying 6 = .ok (.getfield 29, 3) := by decide +kernel
theorem dX0_lying_9 : decode cX0_lying 9 = .ok (.if_icmp .ge 21, 3) := by decide +kernel
theorem dX0_lying_30 : decode cX0_lying 30 = .ok (.bipush (-2), 2) := by decide +kernel
theorem dX0_lying_32 : decode cX0_lying 32 = .ok (.ireturn, 1) := by decide +kernel
theorem dX0_painted_0 : decode cX0_painted 0 = .ok (.iload_n 1, 1) := by decide +kernel
theorem dX0_painted_1 : decode cX0_painted 1 = .ok (.aload_n 0, 1) := by decide +kernel
theorem dX0_painted_2 : decode cX0_painted 2 = .ok (.getfield 21, 3) := by decide +kernel
theorem dX0_painted_5 : decode cX0_painted 5 = .ok (.getfield 48, 3) := by decide +kernel
theorem dX0_painted_8 : decode cX0_painted 8 = .ok (.if_icmp .ge 9, 3) := by decide +kernel
theorem dX0_painted_17 : decode cX0_painted 17 = .ok (.iconst 1, 1) := by decide +kernel
theorem dX0_painted_18 : decode cX0_painted 18 = .ok (.ireturn, 1) := by decide +kernel
theorem dX0_reckonBest_0 : decode cX0_reckonBest 0 = .ok (.aload_n 0, 1) := by decide +kernel
theorem dX0_reckonBest_1 : decode cX0_reckonBest 1 = .ok (.getfield 15, 3) := by decide +kernel
theorem dX0_reckonBest_4 : decode cX0_reckonBest 4 = .ok (.iconst 0, 1) := by decide +kernel
theorem dX0_reckonBest_5 : decode cX0_reckonBest 5 = .ok (.invokestatic 72, 3) := by decide +kernel
theorem dX0_reckonBest_8 : decode cX0_reckonBest 8 = .ok (.aload_n 0, 1) := by decide +kernel
theorem dX0_reckonBest_9 : decode cX0_reckonBest 9 = .ok (.getfield 21, 3) := by decide +kernel
theorem dX0_reckonBest_12 : decode cX0_reckonBest 12 = .ok (.getfield 48, 3) := by decide +kernel
theorem dX0_reckonBest_15 : decode cX0_reckonBest 15 = .ok (.iconst 1, 1) := by decide +kernel
theorem dX0_reckonBest_16 : decode cX0_reckonBest 16 = .ok (.isub, 1) := by decide +kernel
theorem dX0_reckonBest_17 : decode cX0_reckonBest 17 = .ok (.istore_n 1, 1) := by decide +kernel
theorem dX0_reckonBest_18 : decode cX0_reckonBest 18 = .ok (.iload_n 1, 1) := by decide +kernel
theorem dX0_reckonBest_19 : decode cX0_reckonBest 19 = .ok (.ifCond .lt 83, 3) := by decide +kernel
theorem dX0_reckonBest_102 : decode cX0_reckonBest 102 = .ok (.return_, 1) := by decide +kernel
theorem dX0_reckonGains_0 : decode cX0_reckonGains 0 = .ok (.iconst 0, 1) := by decide +kernel
theorem dX0_reckonGains_1 : decode cX0_reckonGains 1 = .ok (.istore_n 1, 1) := by decide +kernel
theorem dX0_reckonGains_2 : decode cX0_reckonGains 2 = .ok (.iload_n 1, 1) := by decide +kernel
theorem dX0_reckonGains_3 : decode cX0_reckonGains 3 = .ok (.aload_n 0, 1) := by decide +kernel
theorem dX0_reckonGains_4 : decode cX0_reckonGains 4 = .ok (.getfield 21, 3) := by decide +kernel
theorem dX0_reckonGains_7 : decode cX0_reckonGains 7 = .ok (.getfield 48, 3) := by decide +kernel
theorem dX0_reckonGains_10 : decode cX0_reckonGains 10 = .ok (.if_icmp .ge 69, 3) := by decide +kernel
theorem dX0_reckonGains_79 : decode cX0_reckonGains 79 = .ok (.return_, 1) := by decide +kernel
theorem dX10_about_0 : decode cX10_about 0 = .ok (.iload_n 1, 1) := by decide +kernel
theorem dX10_about_1 : decode cX10_about 1 = .ok (.tableswitch 183 0 13 #[71, 79, 87, 95, 103, 111, 119, 127, 135, 143, 151, 156, 164, 175], 71) := by decide +kernel
theorem dX10_about_72 : decode cX10_about 72 = .ok (.aload_n 0, 1) := by decide +kernel
theorem dX10_about_73 : decode cX10_about 73 = .ok (.getfield 28, 3) := by decide +kernel
theorem dX10_about_76 : decode cX10_about 76 = .ok (.getfield 111, 3) := by decide +kernel
theorem dX10_about_79 : decode cX10_about 79 = .ok (.ireturn, 1) := by decide +kernel
theorem dX10_about_80 : decode cX10_about 80 = .ok (.aload_n 0, 1) := by decide +kernel
theorem dX10_about_81 : decode cX10_about 81 = .ok (.getfield 28, 3) := by decide +kernel
theorem dX10_about_84 : decode cX10_about 84 = .ok (.getfield 261, 3) := by decide +kernel
theorem dX10_about_87 : decode cX10_about 87 = .ok (.ireturn, 1) := by decide +kernel
theorem dX10_about_88 : decode cX10_about 88 = .ok (.aload_n 0, 1) := by decide +kernel
theorem dX10_about_89 : decode cX10_about 89 = .ok (.getfield 28, 3) := by decide +kernel
theorem dX10_about_92 : decode cX10_about 92 = .ok (.getfield 320, 3) := by decide +kernel
theorem dX10_about_95 : decode cX10_about 95 = .ok (.ireturn, 1) := by decide +kernel
theorem dX10_about_96 : decode cX10_about 96 = .ok (.aload_n 0, 1) := by decide +kernel
theorem dX10_about_97 : decode cX10_about 97 = .ok (.getfield 28, 3) := by decide +kernel
theorem dX10_about_100 : decode cX10_about 100 = .ok (.getfield 323, 3) := by decide +kernel
theorem dX10_about_103 : decode cX10_about 103 = .ok (.ireturn, 1) := by decide +kernel
theorem dX10_about_104 : decode cX10_about 104 = .ok (.aload_n 0, 1) := by decide +kernel
theorem dX10_about_105 : decode cX10_about 105 = .ok (.getfield 28, 3) := by decide +kernel
theorem dX10_about_108 : decode cX10_about 108 = .ok (.getfield 326, 3) := by decide +kernel
theorem dX10_about_111 : decode cX10_about 111 = .ok (.ireturn, 1) := by decide +kernel
theorem dX10_about_112 : decode cX10_about 112 = .ok (.aload_n 0, 1) := by decide +kernel
theorem dX10_about_113 : decode cX10_about 113 = .ok (.getfield 37, 3) := by decide +kernel
theorem dX10_about_116 : decode cX10_about 116 = .ok (.invokevirtual 150, 3) := by decide +kernel
theorem dX10_about_119 : decode cX10_about 119 = .ok (.ireturn, 1) := by decide +kernel
theorem dX10_about_120 : decode cX10_about 120 = .ok (.aload_n 0, 1) := by decide +kernel
theorem dX10_about_121 : decode cX10_about 121 = .ok (.getfield 37, 3) := by decide +kernel
theorem dX10_about_124 : decode cX10_about 124 = .ok (.invokevirtual 329, 3) := by decide +kernel
theorem dX10_about_127 : decode cX10_about 127 = .ok (.ireturn, 1) := by decide +kernel
theorem dX10_about_128 : decode cX10_about 128 = .ok (.aload_n 0, 1) := by decide +kernel
theorem dX10_about_129 : decode cX10_about 129 = .ok (.getfield 46, 3) := by decide +kernel
theorem dX10_about_132 : decode cX10_about 132 = .ok (.getfield 332, 3) := by decide +kernel
theorem dX10_about_135 : decode cX10_about 135 = .ok (.ireturn, 1) := by decide +kernel
theorem dX10_about_136 : decode cX10_about 136 = .ok (.aload_n 0, 1) := by decide +kernel
theorem dX10_about_137 : decode cX10_about 137 = .ok (.getfield 46, 3) := by decide +kernel
theorem dX10_about_140 : decode cX10_about 140 = .ok (.getfield 335, 3) := by decide +kernel
theorem dX10_about_143 : decode cX10_about 143 = .ok (.ireturn, 1) := by decide +kernel
theorem dX10_about_144 : decode cX10_about 144 = .ok (.aload_n 0, 1) := by decide +kernel
theorem dX10_about_145 : decode cX10_about 145 = .ok (.getfield 76, 3) := by decide +kernel
theorem dX10_about_148 : decode cX10_about 148 = .ok (.getfield 338, 3) := by decide +kernel
theorem dX10_about_151 : decode cX10_about 151 = .ok (.ireturn, 1) := by decide +kernel
theorem dX10_about_152 : decode cX10_about 152 = .ok (.aload_n 0, 1) := by decide +kernel
theorem dX10_about_153 : decode cX10_about 153 = .ok (.getfield 288, 3) := by decide +kernel
theorem dX10_about_156 : decode cX10_about 156 = .ok (.ireturn, 1) := by decide +kernel
theorem dX10_about_157 : decode cX10_about 157 = .ok (.aload_n 0, 1) := by decide +kernel
theorem dX10_about_158 : decode cX10_about 158 = .ok (.getfield 10, 3) := by decide +kernel
theorem dX10_about_161 : decode cX10_about 161 = .ok (.getfield 88, 3) := by decide +kernel
theorem dX10_about_164 : decode cX10_about 164 = .ok (.ireturn, 1) := by decide +kernel
theorem dX10_about_165 : decode cX10_about 165 = .ok (.aload_n 0, 1) := by decide +kernel
theorem dX10_about_166 : decode cX10_about 166 = .ok (.getfield 28, 3) := by decide +kernel
theorem dX10_about_169 : decode cX10_about 169 = .ok (.getfield 341, 3) := by decide +kernel
theorem dX10_about_172 : decode cX10_about 172 = .ok (.getfield 345, 3) := by decide +kernel
theorem dX10_about_175 : decode cX10_about 175 = .ok (.ireturn, 1) := by decide +kernel
theorem dX10_about_176 : decode cX10_about 176 = .ok (.aload_n 0, 1) := by decide +kernel
theorem dX10_about_177 : decode cX10_about 177 = .ok (.getfield 69, 3) := by decide +kernel
theorem dX10_about_180 : decode cX10_about 180 = .ok (.getfield 350, 3) := by decide +kernel
theorem dX10_about_183 : decode cX10_about 183 = .ok (.ireturn, 1) := by decide +kernel
theorem dX10_about_184 : decode cX10_about 184 = .ok (.iconst (-1), 1) := by decide +kernel
theorem dX10_about_185 : decode cX10_about 185 = .ok (.ireturn, 1) := by decide +kernel
theorem dX10_ask_0 : decode cX10_ask 0 = .ok (.aload_n 0, 1) := by decide +kernel
theorem dX10_ask_1 : decode cX10_ask 1 = .ok (.getfield 76, 3) := by decide +kernel
theorem dX10_ask_4 : decode cX10_ask 4 = .ok (.iload_n 2, 1) := by decide +kernel
theorem dX10_ask_5 : decode cX10_ask 5 = .ok (.invokevirtual 299, 3) := by decide +kernel
theorem dX10_ask_8 : decode cX10_ask 8 = .ok (.istore_n 3, 1) := by decide +kernel
theorem dX10_ask_9 : decode cX10_ask 9 = .ok (.iload_n 3, 1) := by decide +kernel
theorem dX10_ask_10 : decode cX10_ask 10 = .ok (.ifCond .eq 12, 3) := by decide +kernel
theorem dX10_ask_22 : decode cX10_ask 22 = .ok (.iconst (-1), 1) := by decide +kernel
theorem dX10_ask_23 : decode cX10_ask 23 = .ok (.ireturn, 1) := by decide +kernel
theorem dX10_back_0 : decode cX10_back 0 = .ok (.aload_n 0, 1) := by decide +kernel
theorem dX10_back_1 : decode cX10_back 1 = .ok (.getfield 46, 3) := by decide +kernel
theorem dX10_back_4 : decode cX10_back 4 = .ok (.iload_n 1, 1) := by decide +kernel
theorem dX10_back_5 : decode cX10_back 5 = .ok (.invokevirtual 317, 3) := by decide +kernel
theorem dX10_back_8 : decode cX10_back 8 = .ok (.ifCond .eq 13, 3) := by decide +kernel
theorem dX10_back_21 : decode cX10_back 21 = .ok (.iconst (-1), 1) := by decide +kernel
theorem dX10_back_22 : decode cX10_back 22 = .ok (.ireturn, 1) := by decide +kernel
theorem dX10_breadth_0 : decode cX10_breadth 0 = .ok (.aload_n 0, 1) := by decide +kernel
theorem dX10_breadth_1 : decode cX10_breadth 1 = .ok (.getfield 62, 3) := by decide +kernel
theorem dX10_breadth_4 : decode cX10_breadth 4 = .ok (.aload_n 0, 1) := by decide +kernel
theorem dX10_breadth_5 : decode cX10_breadth 5 = .ok (.getfield 37, 3) := by decide +kernel
theorem dX10_breadth_8 : decode cX10_breadth 8 = .ok (.invokevirtual 273, 3) := by decide +kernel
theorem dX10_breadth_11 : decode cX10_breadth 11 = .ok (.invokevirtual 276, 3) := by decide +kernel
theorem dX10_breadth_14 : decode cX10_breadth 14 = .ok (.ireturn, 1) := by decide +kernel
theorem dX10_buttons_0 : decode cX10_buttons 0 = .ok (.aload_n 0, 1) := by decide +kernel
theorem dX10_buttons_1 : decode cX10_buttons 1 = .ok (.getfield 69, 3) := by decide +kernel
theorem dX10_buttons_4 : decode cX10_buttons 4 = .ok (.invokevirtual 252, 3) := by decide +kernel
theorem dX10_buttons_7 : decode cX10_buttons 7 = .ok (.ireturn, 1) := by decide +kernel
theorem dX10_change_0 : decode cX10_change 0 = .ok (.iload_n 1, 1) := by decide +kernel
theorem dX10_change_1 : decode cX10_change 1 = .ok (.ifCond .lt 18, 3) := by decide +kernel
theorem dX10_change_4 : decode cX10_change 4 = .ok (.iload_n 1, 1) := by decide +kernel
theorem dX10_change_5 : decode cX10_change 5 = .ok (.iconst 2, 1) := by decide +kernel
theorem dX10_change_6 : decode cX10_change 6 = .ok (.if_icmp .gt 13, 3) := by decide +kernel
theorem dX10_change_9 : decode cX10_change 9 = .ok (.aload_n 0, 1) := by decide +kernel
theorem dX10_change_10 : decode cX10_change 10 = .ok (.getfield 55, 3) := by decide +kernel
theorem dX10_change_13 : decode cX10_change 13 = .ok (.invokevirtual 223, 3) := by decide +kernel
theorem dX10_change_16 : decode cX10_change 16 = .ok (.ifCond .ne 5, 3) := by decide +kernel
theorem dX10_change_19 : decode cX10_change 19 = .ok (.iconst (-1), 1) := by decide +kernel
theorem dX10_change_20 : decode cX10_change 20 = .ok (.ireturn, 1) := by decide +kernel
theorem dX10_cloth_0 : decode cX10_cloth 0 = .ok (.aload_n 0, 1) := by decide +kernel
theorem dX10_cloth_1 : decode cX10_cloth 1 = .ok (.getfield 62, 3) := by decide +kernel
theorem dX10_cloth_4 : decode cX10_cloth 4 = .ok (.invokevirtual 249, 3) := by decide +kernel
theorem dX10_cloth_7 : decode cX10_cloth 7 = .ok (.ireturn, 1) := by decide +kernel
theorem dX10_coat_0 : decode cX10_coat 0 = .ok (.aload_n 0, 1) := by decide +kernel
theorem dX10_coat_1 : decode cX10_coat 1 = .ok (.getfield 28, 3) := by decide +kernel
theorem dX10_coat_4 : decode cX10_coat 4 = .ok (.iload_n 1, 1) := by decide +kernel
theorem dX10_coat_5 : decode cX10_coat 5 = .ok (.invokevirtual 138, 3) := by decide +kernel
theorem dX10_coat_8 : decode cX10_coat 8 = .ok (.ifCond .eq 12, 3) := by decide +kernel
theorem dX10_coat_20 : decode cX10_coat 20 = .ok (.bipush (-2), 2) := by decide +kernel
theorem dX10_coat_22 : decode cX10_coat 22 = .ok (.ireturn, 1) := by decide +kernel
theorem dX10_commonDivisor_0 : decode cX10_commonDivisor 0 = .ok (.iload_n 0, 1) := by decide +kernel
theorem dX10_commonDivisor_1 : decode cX10_commonDivisor 1 = .ok (.istore_n 2, 1) := by decide +kernel
theorem dX10_commonDivisor_2 : decode cX10_commonDivisor 2 = .ok (.iload_n 1, 1) := by decide +kernel
theorem dX10_commonDivisor_3 : decode cX10_commonDivisor 3 = .ok (.istore_n 3, 1) := by decide +kernel
theorem dX10_commonDivisor_4 : decode cX10_commonDivisor 4 = .ok (.iconst 0, 1) := by decide +kernel
theorem dX10_commonDivisor_5 : decode cX10_commonDivisor 5 = .ok (.istore 4, 2) := by decide +kernel
theorem dX10_commonDivisor_7 : decode cX10_commonDivisor 7 = .ok (.iload 4, 2) := by decide +kernel
theorem dX10_commonDivisor_9 : decode cX10_commonDivisor 9 = .ok (.bipush 100, 2) := by decide +kernel
theorem dX10_commonDivisor_11 : decode cX10_commonDivisor 11 = .ok (.if_icmp .ge 23, 3) := by decide +kernel
theorem dX10_commonDivisor_14 : decode cX10_commonDivisor 14 = .ok (.iload_n 3, 1) := by decide +kernel
theorem dX10_commonDivisor_15 : decode cX10_commonDivisor 15 = .ok (.ifCond .eq 19, 3) := by decide +kernel
theorem dX10_commonDivisor_18 : decode cX10_commonDivisor 18 = .ok (.iload_n 2, 1) := by decide +kernel
theorem dX10_commonDivisor_19 : decode cX10_commonDivisor 19 = .ok (.iload_n 3, 1) := by decide +kernel
theorem dX10_commonDivisor_20 : decode cX10_commonDivisor 20 = .ok (.irem, 1) := by decide +kernel
theorem dX10_commonDivisor_21 : decode cX10_commonDivisor 21 = .ok (.istore 5, 2) := by decide +kernel
theorem dX10_commonDivisor_23 : decode cX10_commonDivisor 23 = .ok (.iload_n 3, 1) := by decide +kernel
theorem dX10_commonDivisor_24 : decode cX10_commonDivisor 24 = .ok (.istore_n 2, 1) := by decide +kernel
theorem dX10_commonDivisor_25 : decode cX10_commonDivisor 25 = .ok (.iload 5, 2) := by decide +kernel
theorem dX10_commonDivisor_27 : decode cX10_commonDivisor 27 = .ok (.istore_n 3, 1) := by decide +kernel
theorem dX10_commonDivisor_28 : decode cX10_commonDivisor 28 = .ok (.iinc 4 1, 3) := by decide +kernel
theorem dX10_commonDivisor_31 : decode cX10_commonDivisor 31 = .ok (.goto (-24), 3) := by decide +kernel
theorem dX10_commonDivisor_34 : decode cX10_commonDivisor 34 = .ok (.iload_n 2, 1) := by decide +kernel
theorem dX10_commonDivisor_35 : decode cX10_commonDivisor 35 = .ok (.ireturn, 1) := by decide +kernel
theorem dX10_day_0 : decode cX10_day 0 = .ok (.aload_n 0, 1) := by decide +kernel
theorem dX10_day_1 : decode cX10_day 1 = .ok (.getfield 37, 3) := by decide +kernel
theorem dX10_day_4 : decode cX10_day 4 = .ok (.invokevirtual 150, 3) := by decide +kernel
theorem dX10_day_7 : decode cX10_day 7 = .ok (.sipush 999, 3) := by decide +kernel
theorem dX10_day_10 : decode cX10_day 10 = .ok (.if_icmp .lt 5, 3) := by decide +kernel
theorem dX10_day_15 : decode cX10_day 15 = .ok (.aload_n 0, 1) := by decide +kernel
theorem dX10_day_16 : decode cX10_day 16 = .ok (.getfield 37, 3) := by decide +kernel
theorem dX10_day_19 : decode cX10_day 19 = .ok (.aload_n 0, 1) := by decide +kernel
theorem dX10_day_20 : decode cX10_day 20 = .ok (.getfield 28, 3) := by decide +kernel
theorem dX10_day_23 : decode cX10_day 23 = .ok (.getfield 154, 3) := by decide +kernel
theorem dX10_day_26 : decode cX10_day 26 = .ok (.invokevirtual 157, 3) := by decide +kernel
theorem dX10_day_29 : decode cX10_day 29 = .ok (.istore_n 1, 1) := by decide +kernel
theorem dX10_day_30 : decode cX10_day 30 = .ok (.aload_n 0, 1) := by decide +kernel
theorem dX10_day_31 : decode cX10_day 31 = .ok (.getfield 46, 3) := by decide +kernel
theorem dX10_day_34 : decode cX10_day 34 = .ok (.invokevirtual 160, 3) := by decide +kernel
theorem dX10_day_37 : decode cX10_day 37 = .ok (.iload_n 1, 1) := by decide +kernel
theorem dX10_day_38 : decode cX10_day 38 = .ok (.ireturn, 1) := by decide +kernel
theorem dX10_doff_0 : decode cX10_doff 0 = .ok (.aload_n 0, 1) := by decide +kernel
theorem dX10_doff_1 : decode cX10_doff 1 = .ok (.getfield 37, 3) := by decide +kernel
theorem dX10_doff_4 : decode cX10_doff 4 = .ok (.iload_n 1, 1) := by decide +kernel
theorem dX10_doff_5 : decode cX10_doff 5 = .ok (.invokevirtual 132, 3) := by decide +kernel
theorem dX10_doff_8 : decode cX10_doff 8 = .ok (.istore_n 2, 1) := by decide +kernel
theorem dX10_doff_9 : decode cX10_doff 9 = .ok (.iload_n 2, 1) := by decide +kernel
theorem dX10_doff_10 : decode cX10_doff 10 = .ok (.iconst (-1), 1) := by decide +kernel
theorem dX10_doff_11 : decode cX10_doff 11 = .ok (.if_icmp .ne 5, 3) := by decide +kernel
theorem dX10_doff_14 : decode cX10_doff 14 = .ok (.iconst (-1), 1) := by decide +kernel
theorem dX10_doff_15 : decode cX10_doff 15 = .ok (.ireturn, 1) := by decide +kernel
theorem dX10_don_0 : decode cX10_don 0 = .ok (.aload_n 0, 1) := by decide +kernel
theorem dX10_don_1 : decode cX10_don 1 = .ok (.getfield 28, 3) := by decide +kernel
theorem dX10_don_4 : decode cX10_don 4 = .ok (.iload_n 1, 1) := by decide +kernel
theorem dX10_don_5 : decode cX10_don 5 = .ok (.invokevirtual 120, 3) := by decide +kernel
theorem dX10_don_8 : decode cX10_don 8 = .ok (.ifCond .eq 26, 3) := by decide +kernel
theorem dX10_don_34 : decode cX10_don 34 = .ok (.bipush (-2), 2) := by decide +kernel
theorem dX10_don_36 : decode cX10_don 36 = .ok (.ireturn, 1) := by decide +kernel
theorem dX10_dress_0 : decode cX10_dress 0 = .ok (.aload_n 0, 1) := by decide +kernel
theorem dX10_dress_1 : decode cX10_dress 1 = .ok (.getfield 69, 3) := by decide +kernel
theorem dX10_dress_4 : decode cX10_dress 4 = .ok (.invokevirtual 190, 3) := by decide +kernel
theorem dX10_dress_7 : decode cX10_dress 7 = .ok (.iload_n 1, 1) := by decide +kernel
theorem dX10_dress_8 : decode cX10_dress 8 = .ok (.ifCond .ne 13, 3) := by decide +kernel
theorem dX10_dress_11 : decode cX10_dress 11 = .ok (.aload_n 0, 1) := by decide +kernel
theorem dX10_dress_12 : decode cX10_dress 12 = .ok (.getfield 69, 3) := by decide +kernel
theorem dX10_dress_15 : decode cX10_dress 15 = .ok (.getfield 193, 3) := by decide +kernel
theorem dX10_dress_18 : decode cX10_dress 18 = .ok (.goto 19, 3) := by decide +kernel
theorem dX10_dress_21 : decode cX10_dress 21 = .ok (.iload_n 1, 1) := by decide +kernel
theorem dX10_dress_22 : decode cX10_dress 22 = .ok (.iconst 1, 1) := by decide +kernel
theorem dX10_dress_23 : decode cX10_dress 23 = .ok (.if_icmp .ne 13, 3) := by decide +kernel
theorem dX10_dress_26 : decode cX10_dress 26 = .ok (.aload_n 0, 1) := by decide +kernel
theorem dX10_dress_27 : decode cX10_dress 27 = .ok (.getfield 69, 3) := by decide +kernel
theorem dX10_dress_30 : decode cX10_dress 30 = .ok (.getfield 196, 3) := by decide +kernel
theorem dX10_dress_33 : decode cX10_dress 33 = .ok (.goto 4, 3) := by decide +kernel
theorem dX10_dress_36 : decode cX10_dress 36 = .ok (.iconst (-1), 1) := by decide +kernel
theorem dX10_dress_37 : decode cX10_dress 37 = .ok (.ireturn, 1) := by decide +kernel
theorem dX10_ease_0 : decode cX10_ease 0 = .ok (.aload_n 0, 1) := by decide +kernel
theorem dX10_ease_1 : decode cX10_ease 1 = .ok (.getfield 55, 3) := by decide +kernel
theorem dX10_ease_4 : decode cX10_ease 4 = .ok (.invokevirtual 270, 3) := by decide +kernel
theorem dX10_ease_7 : decode cX10_ease 7 = .ok (.ireturn, 1) := by decide +kernel
theorem dX10_end_0 : decode cX10_end 0 = .ok (.iload_n 1, 1) := by decide +kernel
theorem dX10_end_1 : decode cX10_end 1 = .ok (.ifCond .lt 14, 3) := by decide +kernel
theorem dX10_end_4 : decode cX10_end 4 = .ok (.iload_n 1, 1) := by decide +kernel
theorem dX10_end_5 : decode cX10_end 5 = .ok (.aload_n 0, 1) := by decide +kernel
theorem dX10_end_6 : decode cX10_end 6 = .ok (.getfield 10, 3) := by decide +kernel
theorem dX10_end_9 : decode cX10_end 9 = .ok (.getfield 88, 3) := by decide +kernel
theorem dX10_end_12 : decode cX10_end 12 = .ok (.if_icmp .le 5, 3) := by decide +kernel
theorem dX10_end_15 : decode cX10_end 15 = .ok (.iconst (-1), 1) := by decide +kernel
theorem dX10_end_16 : decode cX10_end 16 = .ok (.ireturn, 1) := by decide +kernel
theorem dX10_end_17 : decode cX10_end 17 = .ok (.aload_n 0, 1) := by decide +kernel
theorem dX10_end_18 : decode cX10_end 18 = .ok (.getfield 10, 3) := by decide +kernel
theorem dX10_end_21 : decode cX10_end 21 = .ok (.iload_n 1, 1) := by decide +kernel
theorem dX10_end_22 : decode cX10_end 22 = .ok (.putfield 88, 3) := by decide +kernel
theorem dX10_end_25 : decode cX10_end 25 = .ok (.iload_n 1, 1) := by decide +kernel
theorem dX10_end_26 : decode cX10_end 26 = .ok (.ireturn, 1) := by decide +kernel
theorem dX10_fault_0 : decode cX10_fault 0 = .ok (.iload_n 1, 1) := by decide +kernel
theorem dX10_fault_1 : decode cX10_fault 1 = .ok (.ifCond .ne 13, 3) := by decide +kernel
theorem dX10_fault_4 : decode cX10_fault 4 = .ok (.aload_n 0, 1) := by decide +kernel
theorem dX10_fault_5 : decode cX10_fault 5 = .ok (.getfield 21, 3) := by decide +kernel
theorem dX10_fault_8 : decode cX10_fault 8 = .ok (.getfield 114, 3) := by decide +kernel
theorem dX10_fault_11 : decode cX10_fault 11 = .ok (.goto 19, 3) := by decide +kernel
theorem dX10_fault_14 : decode cX10_fault 14 = .ok (.iload_n 1, 1) := by decide +kernel
theorem dX10_fault_15 : decode cX10_fault 15 = .ok (.iconst 1, 1) := by decide +kernel
theorem dX10_fault_16 : decode cX10_fault 16 = .ok (.if_icmp .ne 13, 3) := by decide +kernel
theorem dX10_fault_19 : decode cX10_fault 19 = .ok (.aload_n 0, 1) := by decide +kernel
theorem dX10_fault_20 : decode cX10_fault 20 = .ok (.getfield 21, 3) := by decide +kernel
theorem dX10_fault_23 : decode cX10_fault 23 = .ok (.getfield 117, 3) := by decide +kernel
theorem dX10_fault_26 : decode cX10_fault 26 = .ok (.goto 4, 3) := by decide +kernel
theorem dX10_fault_29 : decode cX10_fault 29 = .ok (.iconst (-1), 1) := by decide +kernel
theorem dX10_fault_30 : decode cX10_fault 30 = .ok (.ireturn, 1) := by decide +kernel
theorem dX10_feed_0 : decode cX10_feed 0 = .ok (.aload_n 0, 1) := by decide +kernel
theorem dX10_feed_1 : decode cX10_feed 1 = .ok (.getfield 10, 3) := by decide +kernel
theorem dX10_feed_4 : decode cX10_feed 4 = .ok (.invokevirtual 80, 3) := by decide +kernel
theorem dX10_feed_7 : decode cX10_feed 7 = .ok (.ifCond .ne 5, 3) := by decide +kernel
theorem dX10_feed_12 : decode cX10_feed 12 = .ok (.aload_n 0, 1) := by decide +kernel
theorem dX10_feed_13 : decode cX10_feed 13 = .ok (.getfield 10, 3) := by decide +kernel
theorem dX10_feed_16 : decode cX10_feed 16 = .ok (.iload_n 1, 1) := by decide +kernel
theorem dX10_feed_17 : decode cX10_feed 17 = .ok (.invokevirtual 84, 3) := by decide +kernel
theorem dX10_feed_20 : decode cX10_feed 20 = .ok (.aload_n 0, 1) := by decide +kernel
theorem dX10_feed_21 : decode cX10_feed 21 = .ok (.getfield 10, 3) := by decide +kernel
theorem dX10_feed_24 : decode cX10_feed 24 = .ok (.iload_n 2, 1) := by decide +kernel
theorem dX10_feed_25 : decode cX10_feed 25 = .ok (.invokevirtual 84, 3) := by decide +kernel
theorem dX10_feed_28 : decode cX10_feed 28 = .ok (.aload_n 0, 1) := by decide +kernel
theorem dX10_feed_29 : decode cX10_feed 29 = .ok (.getfield 10, 3) := by decide +kernel
theorem dX10_feed_32 : decode cX10_feed 32 = .ok (.iload_n 3, 1) := by decide +kernel
theorem dX10_feed_33 : decode cX10_feed 33 = .ok (.invokevirtual 84, 3) := by decide +kernel
theorem dX10_feed_36 : decode cX10_feed 36 = .ok (.aload_n 0, 1) := by decide +kernel
theorem dX10_feed_37 : decode cX10_feed 37 = .ok (.getfield 10, 3) := by decide +kernel
theorem dX10_feed_40 : decode cX10_feed 40 = .ok (.iload 4, 2) := by decide +kernel
theorem dX10_feed_42 : decode cX10_feed 42 = .ok (.invokevirtual 84, 3) := by decide +kernel
theorem dX10_feed_45 : decode cX10_feed 45 = .ok (.aload_n 0, 1) := by decide +kernel
theorem dX10_feed_46 : decode cX10_feed 46 = .ok (.getfield 10, 3) := by decide +kernel
theorem dX10_feed_49 : decode cX10_feed 49 = .ok (.iload 5, 2) := by decide +kernel
theorem dX10_feed_51 : decode cX10_feed 51 = .ok (.invokevirtual 84, 3) := by decide +kernel
theorem dX10_feed_54 : decode cX10_feed 54 = .ok (.aload_n 0, 1) := by decide +kernel
theorem dX10_feed_55 : decode cX10_feed 55 = .ok (.getfield 10, 3) := by decide +kernel
theorem dX10_feed_58 : decode cX10_feed 58 = .ok (.getfield 88, 3) := by decide +kernel
theorem dX10_feed_61 : decode cX10_feed 61 = .ok (.ireturn, 1) := by decide +kernel
theorem dX10_fitted_0 : decode cX10_fitted 0 = .ok (.aload_n 0, 1) := by decide +kernel
theorem dX10_fitted_1 : decode cX10_fitted 1 = .ok (.getfield 37, 3) := by decide +kernel
theorem dX10_fitted_4 : decode cX10_fitted 4 = .ok (.invokevirtual 187, 3) := by decide +kernel
theorem dX10_fitted_7 : decode cX10_fitted 7 = .ok (.ireturn, 1) := by decide +kernel
theorem dX10_front_0 : decode cX10_front 0 = .ok (.iload_n 1, 1) := by decide +kernel
theorem dX10_front_1 : decode cX10_front 1 = .ok (.ifCond .lt 19, 3) := by decide +kernel
theorem dX10_front_4 : decode cX10_front 4 = .ok (.iload_n 1, 1) := by decide +kernel
theorem dX10_front_5 : decode cX10_front 5 = .ok (.sipush 999, 3) := by decide +kernel
theorem dX10_front_8 : decode cX10_front 8 = .ok (.if_icmp .gt 12, 3) := by decide +kernel
theorem dX10_front_11 : decode cX10_front 11 = .ok (.iload_n 2, 1) := by decide +kernel
theorem dX10_front_12 : decode cX10_front 12 = .ok (.ifCond .lt 8, 3) := by decide +kernel
theorem dX10_front_15 : decode cX10_front 15 = .ok (.iload_n 2, 1) := by decide +kernel
theorem dX10_front_16 : decode cX10_front 16 = .ok (.iconst 1, 1) := by decide +kernel
theorem dX10_front_17 : decode cX10_front 17 = .ok (.if_icmp .le 5, 3) := by decide +kernel
theorem dX10_front_20 : decode cX10_front 20 = .ok (.iconst (-1), 1) := by decide +kernel
theorem dX10_front_21 : decode cX10_front 21 = .ok (.ireturn, 1) := by decide +kernel
theorem dX10_front_22 : decode cX10_front 22 = .ok (.aload_n 0, 1) := by decide +kernel
theorem dX10_front_23 : decode cX10_front 23 = .ok (.getfield 62, 3) := by decide +kernel
theorem dX10_front_26 : decode cX10_front 26 = .ok (.iload_n 1, 1) := by decide +kernel
theorem dX10_front_27 : decode cX10_front 27 = .ok (.invokevirtual 235, 3) := by decide +kernel
theorem dX10_front_30 : decode cX10_front 30 = .ok (.istore_n 3, 1) := by decide +kernel
theorem dX10_front_31 : decode cX10_front 31 = .ok (.iload_n 2, 1) := by decide +kernel
theorem dX10_front_32 : decode cX10_front 32 = .ok (.iconst 1, 1) := by decide +kernel
theorem dX10_front_33 : decode cX10_front 33 = .ok (.if_icmp .eq 8, 3) := by decide +kernel
theorem dX10_front_36 : decode cX10_front 36 = .ok (.iload_n 3, 1) := by decide +kernel
theorem dX10_front_37 : decode cX10_front 37 = .ok (.iconst (-1), 1) := by decide +kernel
theorem dX10_front_38 : decode cX10_front 38 = .ok (.if_icmp .ne 7, 3) := by decide +kernel
theorem dX10_front_41 : decode cX10_front 41 = .ok (.iload_n 3, 1) := by decide +kernel
theorem dX10_front_42 : decode cX10_front 42 = .ok (.goto 7, 3) := by decide +kernel
theorem dX10_front_45 : decode cX10_front 45 = .ok (.iload_n 3, 1) := by decide +kernel
theorem dX10_front_46 : decode cX10_front 46 = .ok (.invokestatic 238, 3) := by decide +kernel
theorem dX10_front_49 : decode cX10_front 49 = .ok (.ireturn, 1) := by decide +kernel
theorem dX10_growths_0 : decode cX10_growths 0 = .ok (.aload_n 0, 1) := by decide +kernel
theorem dX10_growths_1 : decode cX10_growths 1 = .ok (.getfield 76, 3) := by decide +kernel
theorem dX10_growths_4 : decode cX10_growths 4 = .ok (.iload_n 1, 1) := by decide +kernel
theorem dX10_growths_5 : decode cX10_growths 5 = .ok (.invokevirtual 299, 3) := by decide +kernel
theorem dX10_growths_8 : decode cX10_growths 8 = .ok (.invokestatic 238, 3) := by decide +kernel
theorem dX10_growths_11 : decode cX10_growths 11 = .ok (.ireturn, 1) := by decide +kernel
theorem dX10_hem_0 : decode cX10_hem 0 = .ok (.aload_n 0, 1) := by decide +kernel
theorem dX10_hem_1 : decode cX10_hem 1 = .ok (.getfield 37, 3) := by decide +kernel
theorem dX10_hem_4 : decode cX10_hem 4 = .ok (.iconst 0, 1) := by decide +kernel
theorem dX10_hem_5 : decode cX10_hem 5 = .ok (.iload_n 1, 1) := by decide +kernel
theorem dX10_hem_6 : decode cX10_hem 6 = .ok (.invokevirtual 144, 3) := by decide +kernel
theorem dX10_hem_9 : decode cX10_hem 9 = .ok (.istore_n 3, 1) := by decide +kernel
theorem dX10_hem_10 : decode cX10_hem 10 = .ok (.iload_n 2, 1) := by decide +kernel
theorem dX10_hem_11 : decode cX10_hem 11 = .ok (.iconst 1, 1) := by decide +kernel
theorem dX10_hem_12 : decode cX10_hem 12 = .ok (.if_icmp .lt 8, 3) := by decide +kernel
theorem dX10_hem_15 : decode cX10_hem 15 = .ok (.iload_n 2, 1) := by decide +kernel
theorem dX10_hem_16 : decode cX10_hem 16 = .ok (.iload_n 3, 1) := by decide +kernel
theorem dX10_hem_17 : decode cX10_hem 17 = .ok (.if_icmp .le 5, 3) := by decide +kernel
theorem dX10_hem_20 : decode cX10_hem 20 = .ok (.iconst (-1), 1) := by decide +kernel
theorem dX10_hem_21 : decode cX10_hem 21 = .ok (.ireturn, 1) := by decide +kernel
theorem dX10_image_0 : decode cX10_image 0 = .ok (.aload_n 0, 1) := by decide +kernel
theorem dX10_image_1 : decode cX10_image 1 = .ok (.getfield 46, 3) := by decide +kernel
theorem dX10_image_4 : decode cX10_image 4 = .ok (.iload_n 1, 1) := by decide +kernel
theorem dX10_image_5 : decode cX10_image 5 = .ok (.invokevirtual 314, 3) := by decide +kernel
theorem dX10_image_8 : decode cX10_image 8 = .ok (.ifCond .eq 13, 3) := by decide +kernel
theorem dX10_image_11 : decode cX10_image 11 = .ok (.aload_n 0, 1) := by decide +kernel
theorem dX10_image_12 : decode cX10_image 12 = .ok (.getfield 37, 3) := by decide +kernel
theorem dX10_image_15 : decode cX10_image 15 = .ok (.invokevirtual 150, 3) := by decide +kernel
theorem dX10_image_18 : decode cX10_image 18 = .ok (.goto 4, 3) := by decide +kernel
theorem dX10_image_21 : decode cX10_image 21 = .ok (.iconst (-1), 1) := by decide +kernel
theorem dX10_image_22 : decode cX10_image 22 = .ok (.ireturn, 1) := by decide +kernel
theorem dX10_init_0 : decode cX10_init 0 = .ok (.aload_n 0, 1) := by decide +kernel
theorem dX10_init_1 : decode cX10_init 1 = .ok (.invokespecial 1, 3) := by decide +kernel
theorem dX10_init_4 : decode cX10_init 4 = .ok (.aload_n 0, 1) := by decide +kernel
theorem dX10_init_5 : decode cX10_init 5 = .ok (.new 7, 3) := by decide +kernel
theorem dX10_init_8 : decode cX10_init 8 = .ok (.dup, 1) := by decide +kernel
theorem dX10_init_9 : decode cX10_init 9 = .ok (.invokespecial 9, 3) := by decide +kernel
theorem dX10_init_12 : decode cX10_init 12 = .ok (.putfield 10, 3) := by decide +kernel
theorem dX10_init_15 : decode cX10_init 15 = .ok (.aload_n 0, 1) := by decide +kernel
theorem dX10_init_16 : decode cX10_init 16 = .ok (.new 16, 3) := by decide +kernel
theorem dX10_init_19 : decode cX10_init 19 = .ok (.dup, 1) := by decide +kernel
theorem dX10_init_20 : decode cX10_init 20 = .ok (.aload_n 0, 1) := by decide +kernel
theorem dX10_init_21 : decode cX10_init 21 = .ok (.getfield 10, 3) := by decide +kernel
theorem dX10_init_24 : decode cX10_init 24 = .ok (.invokespecial 18, 3) := by decide +kernel
theorem dX10_init_27 : decode cX10_init 27 = .ok (.putfield 21, 3) := by decide +kernel
theorem dX10_init_30 : decode cX10_init 30 = .ok (.aload_n 0, 1) := by decide +kernel
theorem dX10_init_31 : decode cX10_init 31 = .ok (.new 25, 3) := by decide +kernel
theorem dX10_init_34 : decode cX10_init 34 = .ok (.dup, 1) := by decide +kernel
theorem dX10_init_35 : decode cX10_init 35 = .ok (.invokespecial 27, 3) := by decide +kernel
theorem dX10_init_38 : decode cX10_init 38 = .ok (.putfield 28, 3) := by decide +kernel
theorem dX10_init_41 : decode cX10_init 41 = .ok (.aload_n 0, 1) := by decide +kernel
theorem dX10_init_42 : decode cX10_init 42 = .ok (.new 32, 3) := by decide +kernel
theorem dX10_init_45 : decode cX10_init 45 = .ok (.dup, 1) := by decide +kernel
theorem dX10_init_46 : decode cX10_init 46 = .ok (.aload_n 0, 1) := by decide +kernel
theorem dX10_init_47 : decode cX10_init 47 = .ok (.getfield 28, 3) := by decide +kernel
theorem dX10_init_50 : decode cX10_init 50 = .ok (.invokespecial 34, 3) := by decide +kernel
theorem dX10_init_53 : decode cX10_init 53 = .ok (.putfield 37, 3) := by decide +kernel
theorem dX10_init_56 : decode cX10_init 56 = .ok (.aload_n 0, 1) := by decide +kernel
theorem dX10_init_57 : decode cX10_init 57 = .ok (.new 41, 3) := by decide +kernel
theorem dX10_init_60 : decode cX10_init 60 = .ok (.dup, 1) := by decide +kernel
theorem dX10_init_61 : decode cX10_init 61 = .ok (.aload_n 0, 1) := by decide +kernel
theorem dX10_init_62 : decode cX10_init 62 = .ok (.getfield 37, 3) := by decide +kernel
theorem dX10_init_65 : decode cX10_init 65 = .ok (.invokespecial 43, 3) := by decide +kernel
theorem dX10_init_68 : decode cX10_init 68 = .ok (.putfield 46, 3) := by decide +kernel
theorem dX10_init_71 : decode cX10_init 71 = .ok (.aload_n 0, 1) := by decide +kernel
theorem dX10_init_72 : decode cX10_init 72 = .ok (.new 50, 3) := by decide +kernel
theorem dX10_init_75 : decode cX10_init 75 = .ok (.dup, 1) := by decide +kernel
theorem dX10_init_76 : decode cX10_init 76 = .ok (.aload_n 0, 1) := by decide +kernel
theorem dX10_init_77 : decode cX10_init 77 = .ok (.getfield 28, 3) := by decide +kernel
theorem dX10_init_80 : decode cX10_init 80 = .ok (.aload_n 0, 1) := by decide +kernel
theorem dX10_init_81 : decode cX10_init 81 = .ok (.getfield 37, 3) := by decide +kernel
theorem dX10_init_84 : decode cX10_init 84 = .ok (.invokespecial 52, 3) := by decide +kernel
theorem dX10_init_87 : decode cX10_init 87 = .ok (.putfield 55, 3) := by decide +kernel
theorem dX10_init_90 : decode cX10_init 90 = .ok (.aload_n 0, 1) := by decide +kernel
theorem dX10_init_91 : decode cX10_init 91 = .ok (.new 59, 3) := by decide +kernel
theorem dX10_init_94 : decode cX10_init 94 = .ok (.dup, 1) := by decide +kernel
theorem dX10_init_95 : decode cX10_init 95 = .ok (.aload_n 0, 1) := by decide +kernel
theorem dX10_init_96 : decode cX10_init 96 = .ok (.getfield 28, 3) := by decide +kernel
theorem dX10_init_99 : decode cX10_init 99 = .ok (.aload_n 0, 1) := by decide +kernel
theorem dX10_init_100 : decode cX10_init 100 = .ok (.getfield 37, 3) := by decide +kernel
theorem dX10_init_103 : decode cX10_init 103 = .ok (.invokespecial 61, 3) := by decide +kernel
theorem dX10_init_106 : decode cX10_init 106 = .ok (.putfield 62, 3) := by decide +kernel
theorem dX10_init_109 : decode cX10_init 109 = .ok (.aload_n 0, 1) := by decide +kernel
theorem dX10_init_110 : decode cX10_init 110 = .ok (.new 66, 3) := by decide +kernel
theorem dX10_init_113 : decode cX10_init 113 = .ok (.dup, 1) := by decide +kernel
theorem dX10_init_114 : decode cX10_init 114 = .ok (.aload_n 0, 1) := by decide +kernel
theorem dX10_init_115 : decode cX10_init 115 = .ok (.getfield 28, 3) := by decide +kernel
theorem dX10_init_118 : decode cX10_init 118 = .ok (.aload_n 0, 1) := by decide +kernel
theorem dX10_init_119 : decode cX10_init 119 = .ok (.getfield 37, 3) := by decide +kernel
theorem dX10_init_122 : decode cX10_init 122 = .ok (.invokespecial 68, 3) := by decide +kernel
theorem dX10_init_125 : decode cX10_init 125 = .ok (.putfield 69, 3) := by decide +kernel
theorem dX10_init_128 : decode cX10_init 128 = .ok (.aload_n 0, 1) := by decide +kernel
theorem dX10_init_129 : decode cX10_init 129 = .ok (.new 73, 3) := by decide +kernel
theorem dX10_init_132 : decode cX10_init 132 = .ok (.dup, 1) := by decide +kernel
theorem dX10_init_133 : decode cX10_init 133 = .ok (.aload_n 0, 1) := by decide +kernel
theorem dX10_init_134 : decode cX10_init 134 = .ok (.getfield 28, 3) := by decide +kernel
theorem dX10_init_137 : decode cX10_init 137 = .ok (.invokespecial 75, 3) := by decide +kernel
theorem dX10_init_140 : decode cX10_init 140 = .ok (.putfield 76, 3) := by decide +kernel
theorem dX10_init_143 : decode cX10_init 143 = .ok (.return_, 1) := by decide +kernel
theorem dX10_later_0 : decode cX10_later 0 = .ok (.iload_n 1, 1) := by decide +kernel
theorem dX10_later_1 : decode cX10_later 1 = .ok (.ifCond .lt 22, 3) := by decide +kernel
theorem dX10_later_4 : decode cX10_later 4 = .ok (.iload_n 1, 1) := by decide +kernel
theorem dX10_later_5 : decode cX10_later 5 = .ok (.sipush 1000, 3) := by decide +kernel
theorem dX10_later_8 : decode cX10_later 8 = .ok (.if_icmp .gt 15, 3) := by decide +kernel
theorem dX10_later_11 : decode cX10_later 11 = .ok (.aload_n 0, 1) := by decide +kernel
theorem dX10_later_12 : decode cX10_later 12 = .ok (.getfield 288, 3) := by decide +kernel
theorem dX10_later_15 : decode cX10_later 15 = .ok (.iload_n 1, 1) := by decide +kernel
theorem dX10_later_16 : decode cX10_later 16 = .ok (.iadd, 1) := by decide +kernel
theorem dX10_later_17 : decode cX10_later 17 = .ok (.ldc_w 298, 3) := by decide +kernel
theorem dX10_later_20 : decode cX10_later 20 = .ok (.if_icmp .le 5, 3) := by decide +kernel
theorem dX10_later_23 : decode cX10_later 23 = .ok (.iconst (-1), 1) := by decide +kernel
theorem dX10_later_24 : decode cX10_later 24 = .ok (.ireturn, 1) := by decide +kernel
theorem dX10_later_25 : decode cX10_later 25 = .ok (.aload_n 0, 1) := by decide +kernel
theorem dX10_later_26 : decode cX10_later 26 = .ok (.dup, 1) := by decide +kernel
theorem dX10_later_27 : decode cX10_later 27 = .ok (.getfield 288, 3) := by decide +kernel
theorem dX10_later_30 : decode cX10_later 30 = .ok (.iload_n 1, 1) := by decide +kernel
theorem dX10_later_31 : decode cX10_later 31 = .ok (.iadd, 1) := by decide +kernel
theorem dX10_later_32 : decode cX10_later 32 = .ok (.putfield 288, 3) := by decide +kernel
theorem dX10_later_35 : decode cX10_later 35 = .ok (.aload_n 0, 1) := by decide +kernel
theorem dX10_later_36 : decode cX10_later 36 = .ok (.getfield 288, 3) := by decide +kernel
theorem dX10_later_39 : decode cX10_later 39 = .ok (.ireturn, 1) := by decide +kernel
theorem dX10_law_0 : decode cX10_law 0 = .ok (.iload_n 1, 1) := by decide +kernel
theorem dX10_law_1 : decode cX10_law 1 = .ok (.ifCond .lt 10, 3) := by decide +kernel
theorem dX10_law_4 : decode cX10_law 4 = .ok (.iload_n 1, 1) := by decide +kernel
theorem dX10_law_5 : decode cX10_law 5 = .ok (.sipush 999, 3) := by decide +kernel
theorem dX10_law_8 : decode cX10_law 8 = .ok (.if_icmp .le 7, 3) := by decide +kernel
theorem dX10_law_11 : decode cX10_law 11 = .ok (.iconst (-1), 1) := by decide +kernel
theorem dX10_law_12 : decode cX10_law 12 = .ok (.goto 11, 3) := by decide +kernel
theorem dX10_law_15 : decode cX10_law 15 = .ok (.aload_n 0, 1) := by decide +kernel
theorem dX10_law_16 : decode cX10_law 16 = .ok (.getfield 55, 3) := by decide +kernel
theorem dX10_law_19 : decode cX10_law 19 = .ok (.iload_n 1, 1) := by decide +kernel
theorem dX10_law_20 : decode cX10_law 20 = .ok (.invokevirtual 267, 3) := by decide +kernel
theorem dX10_law_23 : decode cX10_law 23 = .ok (.ireturn, 1) := by decide +kernel
theorem dX10_letout_0 : decode cX10_letout 0 = .ok (.iload_n 2, 1) := by decide +kernel
theorem dX10_letout_1 : decode cX10_letout 1 = .ok (.iconst 1, 1) := by decide +kernel
theorem dX10_letout_2 : decode cX10_letout 2 = .ok (.if_icmp .lt 16, 3) := by decide +kernel
theorem dX10_letout_5 : decode cX10_letout 5 = .ok (.iload_n 2, 1) := by decide +kernel
theorem dX10_letout_6 : decode cX10_letout 6 = .ok (.aload_n 0, 1) := by decide +kernel
theorem dX10_letout_7 : decode cX10_letout 7 = .ok (.getfield 37, 3) := by decide +kernel
theorem dX10_letout_10 : decode cX10_letout 10 = .ok (.iconst 2, 1) := by decide +kernel
theorem dX10_letout_11 : decode cX10_letout 11 = .ok (.iload_n 1, 1) := by decide +kernel
theorem dX10_letout_12 : decode cX10_letout 12 = .ok (.invokevirtual 144, 3) := by decide +kernel
theorem dX10_letout_15 : decode cX10_letout 15 = .ok (.if_icmp .le 5, 3) := by decide +kernel
theorem dX10_letout_18 : decode cX10_letout 18 = .ok (.iconst (-1), 1) := by decide +kernel
theorem dX10_letout_19 : decode cX10_letout 19 = .ok (.ireturn, 1) := by decide +kernel
theorem dX10_lies_0 : decode cX10_lies 0 = .ok (.aload_n 0, 1) := by decide +kernel
theorem dX10_lies_1 : decode cX10_lies 1 = .ok (.getfield 69, 3) := by decide +kernel
theorem dX10_lies_4 : decode cX10_lies 4 = .ok (.iload_n 1, 1) := by decide +kernel
theorem dX10_lies_5 : decode cX10_lies 5 = .ok (.invokevirtual 285, 3) := by decide +kernel
theorem dX10_lies_8 : decode cX10_lies 8 = .ok (.ireturn, 1) := by decide +kernel
theorem dX10_man_0 : decode cX10_man 0 = .ok (.aload_n 0, 1) := by decide +kernel
theorem dX10_man_1 : decode cX10_man 1 = .ok (.getfield 28, 3) := by decide +kernel
theorem dX10_man_4 : decode cX10_man 4 = .ok (.iload_n 1, 1) := by decide +kernel
theorem dX10_man_5 : decode cX10_man 5 = .ok (.invokevirtual 120, 3) := by decide +kernel
theorem dX10_man_8 : decode cX10_man 8 = .ok (.ifCond .ne 6, 3) := by decide +kernel
theorem dX10_man_11 : decode cX10_man 11 = .ok (.bipush (-2), 2) := by decide +kernel
theorem dX10_man_13 : decode cX10_man 13 = .ok (.ireturn, 1) := by decide +kernel
theorem dX10_misfit_0 : decode cX10_misfit 0 = .ok (.aload_n 0, 1) := by decide +kernel
theorem dX10_misfit_1 : decode cX10_misfit 1 = .ok (.getfield 28, 3) := by decide +kernel
theorem dX10_misfit_4 : decode cX10_misfit 4 = .ok (.iload_n 1, 1) := by decide +kernel
theorem dX10_misfit_5 : decode cX10_misfit 5 = .ok (.invokevirtual 120, 3) := by decide +kernel
theorem dX10_misfit_8 : decode cX10_misfit 8 = .ok (.ifCond .eq 26, 3) := by decide +kernel
theorem dX10_misfit_34 : decode cX10_misfit 34 = .ok (.iconst (-1), 1) := by decide +kernel
theorem dX10_misfit_35 : decode cX10_misfit 35 = .ok (.ireturn, 1) := by decide +kernel
theorem dX10_naked_0 : decode cX10_naked 0 = .ok (.iconst 0, 1) := by decide +kernel
theorem dX10_naked_1 : decode cX10_naked 1 = .ok (.istore_n 1, 1) := by decide +kernel
theorem dX10_naked_2 : decode cX10_naked 2 = .ok (.iconst 0, 1) := by decide +kernel
theorem dX10_naked_3 : decode cX10_naked 3 = .ok (.istore_n 2, 1) := by decide +kernel
theorem dX10_naked_4 : decode cX10_naked 4 = .ok (.iload_n 2, 1) := by decide +kernel
theorem dX10_naked_5 : decode cX10_naked 5 = .ok (.aload_n 0, 1) := by decide +kernel
theorem dX10_naked_6 : decode cX10_naked 6 = .ok (.getfield 28, 3) := by decide +kernel
theorem dX10_naked_9 : decode cX10_naked 9 = .ok (.getfield 111, 3) := by decide +kernel
theorem dX10_naked_12 : decode cX10_naked 12 = .ok (.if_icmp .ge 26, 3) := by decide +kernel
theorem dX10_naked_38 : decode cX10_naked 38 = .ok (.iload_n 1, 1) := by decide +kernel
theorem dX10_naked_39 : decode cX10_naked 39 = .ok (.ireturn, 1) := by decide +kernel
theorem dX10_odds_0 : decode cX10_odds 0 = .ok (.iload_n 1, 1) := by decide +kernel
theorem dX10_odds_1 : decode cX10_odds 1 = .ok (.ifCond .lt 17, 3) := by decide +kernel
theorem dX10_odds_4 : decode cX10_odds 4 = .ok (.iload_n 1, 1) := by decide +kernel
theorem dX10_odds_5 : decode cX10_odds 5 = .ok (.iconst 4, 1) := by decide +kernel
theorem dX10_odds_6 : decode cX10_odds 6 = .ok (.if_icmp .gt 12, 3) := by decide +kernel
theorem dX10_odds_9 : decode cX10_odds 9 = .ok (.iload_n 2, 1) := by decide +kernel
theorem dX10_odds_10 : decode cX10_odds 10 = .ok (.ifCond .lt 8, 3) := by decide +kernel
theorem dX10_odds_13 : decode cX10_odds 13 = .ok (.iload_n 2, 1) := by decide +kernel
theorem dX10_odds_14 : decode cX10_odds 14 = .ok (.iconst 1, 1) := by decide +kernel
theorem dX10_odds_15 : decode cX10_odds 15 = .ok (.if_icmp .le 5, 3) := by decide +kernel
theorem dX10_odds_18 : decode cX10_odds 18 = .ok (.iconst (-1), 1) := by decide +kernel
theorem dX10_odds_19 : decode cX10_odds 19 = .ok (.ireturn, 1) := by decide +kernel
theorem dX10_odds_20 : decode cX10_odds 20 = .ok (.iconst 1, 1) := by decide +kernel
theorem dX10_odds_21 : decode cX10_odds 21 = .ok (.istore_n 3, 1) := by decide +kernel
theorem dX10_odds_22 : decode cX10_odds 22 = .ok (.iconst 1, 1) := by decide +kernel
theorem dX10_odds_23 : decode cX10_odds 23 = .ok (.istore 4, 2) := by decide +kernel
theorem dX10_odds_25 : decode cX10_odds 25 = .ok (.iconst 0, 1) := by decide +kernel
theorem dX10_odds_26 : decode cX10_odds 26 = .ok (.istore 5, 2) := by decide +kernel
theorem dX10_odds_28 : decode cX10_odds 28 = .ok (.iload 5, 2) := by decide +kernel
theorem dX10_odds_30 : decode cX10_odds 30 = .ok (.iload_n 1, 1) := by decide +kernel
theorem dX10_odds_31 : decode cX10_odds 31 = .ok (.if_icmp .ge 29, 3) := by decide +kernel
theorem dX10_odds_34 : decode cX10_odds 34 = .ok (.iload_n 3, 1) := by decide +kernel
theorem dX10_odds_35 : decode cX10_odds 35 = .ok (.bipush 100, 2) := by decide +kernel
theorem dX10_odds_37 : decode cX10_odds 37 = .ok (.aload_n 0, 1) := by decide +kernel
theorem dX10_odds_38 : decode cX10_odds 38 = .ok (.getfield 28, 3) := by decide +kernel
theorem dX10_odds_41 : decode cX10_odds 41 = .ok (.getfield 154, 3) := by decide +kernel
theorem dX10_odds_44 : decode cX10_odds 44 = .ok (.isub, 1) := by decide +kernel
theorem dX10_odds_45 : decode cX10_odds 45 = .ok (.imul, 1) := by decide +kernel
theorem dX10_odds_46 : decode cX10_odds 46 = .ok (.istore_n 3, 1) := by decide +kernel
theorem dX10_odds_47 : decode cX10_odds 47 = .ok (.iload 4, 2) := by decide +kernel
theorem dX10_odds_49 : decode cX10_odds 49 = .ok (.bipush 100, 2) := by decide +kernel
theorem dX10_odds_51 : decode cX10_odds 51 = .ok (.imul, 1) := by decide +kernel
theorem dX10_odds_52 : decode cX10_odds 52 = .ok (.istore 4, 2) := by decide +kernel
theorem dX10_odds_54 : decode cX10_odds 54 = .ok (.iinc 5 1, 3) := by decide +kernel
theorem dX10_odds_57 : decode cX10_odds 57 = .ok (.goto (-29), 3) := by decide +kernel
theorem dX10_odds_60 : decode cX10_odds 60 = .ok (.iload 4, 2) := by decide +kernel
theorem dX10_odds_62 : decode cX10_odds 62 = .ok (.iload_n 3, 1) := by decide +kernel
theorem dX10_odds_63 : decode cX10_odds 63 = .ok (.invokestatic 282, 3) := by decide +kernel
theorem dX10_odds_66 : decode cX10_odds 66 = .ok (.istore 5, 2) := by decide +kernel
theorem dX10_odds_68 : decode cX10_odds 68 = .ok (.iload 5, 2) := by decide +kernel
theorem dX10_odds_70 : decode cX10_odds 70 = .ok (.iconst 1, 1) := by decide +kernel
theorem dX10_odds_71 : decode cX10_odds 71 = .ok (.if_icmp .ge 5, 3) := by decide +kernel
theorem dX10_odds_76 : decode cX10_odds 76 = .ok (.iload_n 2, 1) := by decide +kernel
theorem dX10_odds_77 : decode cX10_odds 77 = .ok (.ifCond .ne 7, 3) := by decide +kernel
theorem dX10_odds_80 : decode cX10_odds 80 = .ok (.iload_n 3, 1) := by decide +kernel
theorem dX10_odds_81 : decode cX10_odds 81 = .ok (.goto 5, 3) := by decide +kernel
theorem dX10_odds_84 : decode cX10_odds 84 = .ok (.iload 4, 2) := by decide +kernel
theorem dX10_odds_86 : decode cX10_odds 86 = .ok (.iload 5, 2) := by decide +kernel
theorem dX10_odds_88 : decode cX10_odds 88 = .ok (.idiv, 1) := by decide +kernel
theorem dX10_odds_89 : decode cX10_odds 89 = .ok (.ireturn, 1) := by decide +kernel
theorem dX10_out_0 : decode cX10_out 0 = .ok (.aload_n 0, 1) := by decide +kernel
theorem dX10_out_1 : decode cX10_out 1 = .ok (.getfield 28, 3) := by decide +kernel
theorem dX10_out_4 : decode cX10_out 4 = .ok (.iload_n 1, 1) := by decide +kernel
theorem dX10_out_5 : decode cX10_out 5 = .ok (.invokevirtual 120, 3) := by decide +kernel
theorem dX10_out_8 : decode cX10_out 8 = .ok (.ifCond .eq 14, 3) := by decide +kernel
theorem dX10_out_22 : decode cX10_out 22 = .ok (.iconst (-1), 1) := by decide +kernel
theorem dX10_out_23 : decode cX10_out 23 = .ok (.ireturn, 1) := by decide +kernel
theorem dX10_popular_0 : decode cX10_popular 0 = .ok (.aload_n 0, 1) := by decide +kernel
theorem dX10_popular_1 : decode cX10_popular 1 = .ok (.getfield 28, 3) := by decide +kernel
theorem dX10_popular_4 : decode cX10_popular 4 = .ok (.iload_n 1, 1) := by decide +kernel
theorem dX10_popular_5 : decode cX10_popular 5 = .ok (.invokevirtual 138, 3) := by decide +kernel
theorem dX10_popular_8 : decode cX10_popular 8 = .ok (.ifCond .eq 14, 3) := by decide +kernel
theorem dX10_popular_22 : decode cX10_popular 22 = .ok (.iconst (-1), 1) := by decide +kernel
theorem dX10_popular_23 : decode cX10_popular 23 = .ok (.ireturn, 1) := by decide +kernel
theorem dX10_rags_0 : decode cX10_rags 0 = .ok (.iconst 0, 1) := by decide +kernel
theorem dX10_rags_1 : decode cX10_rags 1 = .ok (.istore_n 1, 1) := by decide +kernel
theorem dX10_rags_2 : decode cX10_rags 2 = .ok (.iconst 0, 1) := by decide +kernel
theorem dX10_rags_3 : decode cX10_rags 3 = .ok (.istore_n 2, 1) := by decide +kernel
theorem dX10_rags_4 : decode cX10_rags 4 = .ok (.iload_n 2, 1) := by decide +kernel
theorem dX10_rags_5 : decode cX10_rags 5 = .ok (.aload_n 0, 1) := by decide +kernel
theorem dX10_rags_6 : decode cX10_rags 6 = .ok (.getfield 28, 3) := by decide +kernel
theorem dX10_rags_9 : decode cX10_rags 9 = .ok (.getfield 261, 3) := by decide +kernel
theorem dX10_rags_12 : decode cX10_rags 12 = .ok (.if_icmp .ge 26, 3) := by decide +kernel
theorem dX10_rags_38 : decode cX10_rags 38 = .ok (.iload_n 1, 1) := by decide +kernel
theorem dX10_rags_39 : decode cX10_rags 39 = .ok (.ireturn, 1) := by decide +kernel
theorem dX10_reach_0 : decode cX10_reach 0 = .ok (.aload_n 0, 1) := by decide +kernel
theorem dX10_reach_1 : decode cX10_reach 1 = .ok (.getfield 69, 3) := by decide +kernel
theorem dX10_reach_4 : decode cX10_reach 4 = .ok (.invokevirtual 107, 3) := by decide +kernel
theorem dX10_reach_7 : decode cX10_reach 7 = .ok (.iload_n 1, 1) := by decide +kernel
theorem dX10_reach_8 : decode cX10_reach 8 = .ok (.iload_n 2, 1) := by decide +kernel
theorem dX10_reach_9 : decode cX10_reach 9 = .ok (.if_icmp .eq 25, 3) := by decide +kernel
theorem dX10_reach_12 : decode cX10_reach 12 = .ok (.aload_n 0, 1) := by decide +kernel
theorem dX10_reach_13 : decode cX10_reach 13 = .ok (.getfield 28, 3) := by decide +kernel
theorem dX10_reach_16 : decode cX10_reach 16 = .ok (.iload_n 1, 1) := by decide +kernel
theorem dX10_reach_17 : decode cX10_reach 17 = .ok (.invokevirtual 120, 3) := by decide +kernel
theorem dX10_reach_20 : decode cX10_reach 20 = .ok (.ifCond .eq 14, 3) := by decide +kernel
theorem dX10_reach_34 : decode cX10_reach 34 = .ok (.iconst (-1), 1) := by decide +kernel
theorem dX10_reach_35 : decode cX10_reach 35 = .ok (.ireturn, 1) := by decide +kernel
theorem dX10_redo_0 : decode cX10_redo 0 = .ok (.aload_n 0, 1) := by decide +kernel
theorem dX10_redo_1 : decode cX10_redo 1 = .ok (.getfield 46, 3) := by decide +kernel
theorem dX10_redo_4 : decode cX10_redo 4 = .ok (.invokevirtual 177, 3) := by decide +kernel
theorem dX10_redo_7 : decode cX10_redo 7 = .ok (.ireturn, 1) := by decide +kernel
theorem dX10_regiment_0 : decode cX10_regiment 0 = .ok (.aload_n 0, 1) := by decide +kernel
theorem dX10_regiment_1 : decode cX10_regiment 1 = .ok (.getfield 21, 3) := by decide +kernel
theorem dX10_regiment_4 : decode cX10_regiment 4 = .ok (.invokevirtual 92, 3) := by decide +kernel
theorem dX10_regiment_7 : decode cX10_regiment 7 = .ok (.istore_n 1, 1) := by decide +kernel
theorem dX10_regiment_8 : decode cX10_regiment 8 = .ok (.aload_n 0, 1) := by decide +kernel
theorem dX10_regiment_9 : decode cX10_regiment 9 = .ok (.getfield 10, 3) := by decide +kernel
theorem dX10_regiment_12 : decode cX10_regiment 12 = .ok (.iconst 0, 1) := by decide +kernel
theorem dX10_regiment_13 : decode cX10_regiment 13 = .ok (.putfield 88, 3) := by decide +kernel
theorem dX10_regiment_16 : decode cX10_regiment 16 = .ok (.iload_n 1, 1) := by decide +kernel
theorem dX10_regiment_17 : decode cX10_regiment 17 = .ok (.ifCond .ne 5, 3) := by decide +kernel
theorem dX10_regiment_22 : decode cX10_regiment 22 = .ok (.aload_n 0, 1) := by decide +kernel
theorem dX10_regiment_23 : decode cX10_regiment 23 = .ok (.getfield 28, 3) := by decide +kernel
theorem dX10_regiment_26 : decode cX10_regiment 26 = .ok (.aload_n 0, 1) := by decide +kernel
theorem dX10_regiment_27 : decode cX10_regiment 27 = .ok (.getfield 21, 3) := by decide +kernel
theorem dX10_regiment_30 : decode cX10_regiment 30 = .ok (.getfield 95, 3) := by decide +kernel
theorem dX10_regiment_33 : decode cX10_regiment 33 = .ok (.invokevirtual 98, 3) := by decide +kernel
theorem dX10_regiment_36 : decode cX10_regiment 36 = .ok (.aload_n 0, 1) := by decide +kernel
theorem dX10_regiment_37 : decode cX10_regiment 37 = .ok (.getfield 37, 3) := by decide +kernel
theorem dX10_regiment_40 : decode cX10_regiment 40 = .ok (.invokevirtual 101, 3) := by decide +kernel
theorem dX10_regiment_43 : decode cX10_regiment 43 = .ok (.aload_n 0, 1) := by decide +kernel
theorem dX10_regiment_44 : decode cX10_regiment 44 = .ok (.getfield 46, 3) := by decide +kernel
theorem dX10_regiment_47 : decode cX10_regiment 47 = .ok (.invokevirtual 104, 3) := by decide +kernel
theorem dX10_regiment_50 : decode cX10_regiment 50 = .ok (.aload_n 0, 1) := by decide +kernel
theorem dX10_regiment_51 : decode cX10_regiment 51 = .ok (.getfield 69, 3) := by decide +kernel
theorem dX10_regiment_54 : decode cX10_regiment 54 = .ok (.invokevirtual 107, 3) := by decide +kernel
theorem dX10_regiment_57 : decode cX10_regiment 57 = .ok (.aload_n 0, 1) := by decide +kernel
theorem dX10_regiment_58 : decode cX10_regiment 58 = .ok (.getfield 76, 3) := by decide +kernel
theorem dX10_regiment_61 : decode cX10_regiment 61 = .ok (.invokevirtual 110, 3) := by decide +kernel
theorem dX10_regiment_64 : decode cX10_regiment 64 = .ok (.aload_n 0, 1) := by decide +kernel
theorem dX10_regiment_65 : decode cX10_regiment 65 = .ok (.getfield 28, 3) := by decide +kernel
theorem dX10_regiment_68 : decode cX10_regiment 68 = .ok (.getfield 111, 3) := by decide +kernel
theorem dX10_regiment_71 : decode cX10_regiment 71 = .ok (.ireturn, 1) := by decide +kernel
theorem dX10_rota_0 : decode cX10_rota 0 = .ok (.aload_n 0, 1) := by decide +kernel
theorem dX10_rota_1 : decode cX10_rota 1 = .ok (.getfield 28, 3) := by decide +kernel
theorem dX10_rota_4 : decode cX10_rota 4 = .ok (.getfield 111, 3) := by decide +kernel
theorem dX10_rota_7 : decode cX10_rota 7 = .ok (.ifCond .eq 12, 3) := by decide +kernel
theorem dX10_rota_19 : decode cX10_rota 19 = .ok (.iconst (-1), 1) := by decide +kernel
theorem dX10_rota_20 : decode cX10_rota 20 = .ok (.ireturn, 1) := by decide +kernel
theorem dX10_rout_0 : decode cX10_rout 0 = .ok (.aload_n 0, 1) := by decide +kernel
theorem dX10_rout_1 : decode cX10_rout 1 = .ok (.getfield 55, 3) := by decide +kernel
theorem dX10_rout_4 : decode cX10_rout 4 = .ok (.invokevirtual 279, 3) := by decide +kernel
theorem dX10_rout_7 : decode cX10_rout 7 = .ok (.ireturn, 1) := by decide +kernel
theorem dX10_seen_0 : decode cX10_seen 0 = .ok (.aload_n 0, 1) := by decide +kernel
theorem dX10_seen_1 : decode cX10_seen 1 = .ok (.getfield 28, 3) := by decide +kernel
theorem dX10_seen_4 : decode cX10_seen 4 = .ok (.getfield 111, 3) := by decide +kernel
theorem dX10_seen_7 : decode cX10_seen 7 = .ok (.ifCond .eq 13, 3) := by decide +kernel
theorem dX10_seen_20 : decode cX10_seen 20 = .ok (.iconst (-1), 1) := by decide +kernel
theorem dX10_seen_21 : decode cX10_seen 21 = .ok (.ireturn, 1) := by decide +kernel
theorem dX10_sewing_0 : decode cX10_sewing 0 = .ok (.aload_n 0, 1) := by decide +kernel
theorem dX10_sewing_1 : decode cX10_sewing 1 = .ok (.getfield 28, 3) := by decide +kernel
theorem dX10_sewing_4 : decode cX10_sewing 4 = .ok (.iload_n 1, 1) := by decide +kernel
theorem dX10_sewing_5 : decode cX10_sewing 5 = .ok (.invokevirtual 138, 3) := by decide +kernel
theorem dX10_sewing_8 : decode cX10_sewing 8 = .ok (.ifCond .eq 23, 3) := by decide +kernel
theorem dX10_sewing_31 : decode cX10_sewing 31 = .ok (.bipush (-100), 2) := by decide +kernel
theorem dX10_sewing_33 : decode cX10_sewing 33 = .ok (.ireturn, 1) := by decide +kernel
theorem dX10_sure_0 : decode cX10_sure 0 = .ok (.aload_n 0, 1) := by decide +kernel
theorem dX10_sure_1 : decode cX10_sure 1 = .ok (.getfield 76, 3) := by decide +kernel
theorem dX10_sure_4 : decode cX10_sure 4 = .ok (.iload_n 2, 1) := by decide +kernel
theorem dX10_sure_5 : decode cX10_sure 5 = .ok (.invokevirtual 299, 3) := by decide +kernel
theorem dX10_sure_8 : decode cX10_sure 8 = .ok (.istore_n 3, 1) := by decide +kernel
theorem dX10_sure_9 : decode cX10_sure 9 = .ok (.iload_n 3, 1) := by decide +kernel
theorem dX10_sure_10 : decode cX10_sure 10 = .ok (.ifCond .eq 12, 3) := by decide +kernel
theorem dX10_sure_22 : decode cX10_sure 22 = .ok (.iconst (-1), 1) := by decide +kernel
theorem dX10_sure_23 : decode cX10_sure 23 = .ok (.ireturn, 1) := by decide +kernel
theorem dX10_takein_0 : decode cX10_takein 0 = .ok (.iload_n 2, 1) := by decide +kernel
theorem dX10_takein_1 : decode cX10_takein 1 = .ok (.iconst 1, 1) := by decide +kernel
theorem dX10_takein_2 : decode cX10_takein 2 = .ok (.if_icmp .lt 16, 3) := by decide +kernel
theorem dX10_takein_5 : decode cX10_takein 5 = .ok (.iload_n 2, 1) := by decide +kernel
theorem dX10_takein_6 : decode cX10_takein 6 = .ok (.aload_n 0, 1) := by decide +kernel
theorem dX10_takein_7 : decode cX10_takein 7 = .ok (.getfield 37, 3) := by decide +kernel
theorem dX10_takein_10 : decode cX10_takein 10 = .ok (.iconst 1, 1) := by decide +kernel
theorem dX10_takein_11 : decode cX10_takein 11 = .ok (.iload_n 1, 1) := by decide +kernel
theorem dX10_takein_12 : decode cX10_takein 12 = .ok (.invokevirtual 144, 3) := by decide +kernel
theorem dX10_takein_15 : decode cX10_takein 15 = .ok (.if_icmp .le 5, 3) := by decide +kernel
theorem dX10_takein_18 : decode cX10_takein 18 = .ok (.iconst (-1), 1) := by decide +kernel
theorem dX10_takein_19 : decode cX10_takein 19 = .ok (.ireturn, 1) := by decide +kernel
theorem dX10_turn_0 : decode cX10_turn 0 = .ok (.aload_n 0, 1) := by decide +kernel
theorem dX10_turn_1 : decode cX10_turn 1 = .ok (.getfield 28, 3) := by decide +kernel
theorem dX10_turn_4 : decode cX10_turn 4 = .ok (.iload_n 1, 1) := by decide +kernel
theorem dX10_turn_5 : decode cX10_turn 5 = .ok (.invokevirtual 138, 3) := by decide +kernel
theorem dX10_turn_8 : decode cX10_turn 8 = .ok (.ifCond .eq 15, 3) := by decide +kernel
theorem dX10_turn_23 : decode cX10_turn 23 = .ok (.iconst (-1), 1) := by decide +kernel
theorem dX10_turn_24 : decode cX10_turn 24 = .ok (.ireturn, 1) := by decide +kernel
theorem dX10_turning_0 : decode cX10_turning 0 = .ok (.aload_n 0, 1) := by decide +kernel
theorem dX10_turning_1 : decode cX10_turning 1 = .ok (.getfield 55, 3) := by decide +kernel
theorem dX10_turning_4 : decode cX10_turning 4 = .ok (.invokevirtual 258, 3) := by decide +kernel
theorem dX10_turning_7 : decode cX10_turning 7 = .ok (.ireturn, 1) := by decide +kernel
theorem dX10_undo_0 : decode cX10_undo 0 = .ok (.aload_n 0, 1) := by decide +kernel
theorem dX10_undo_1 : decode cX10_undo 1 = .ok (.getfield 46, 3) := by decide +kernel
theorem dX10_undo_4 : decode cX10_undo 4 = .ok (.invokevirtual 174, 3) := by decide +kernel
theorem dX10_undo_7 : decode cX10_undo 7 = .ok (.ireturn, 1) := by decide +kernel
theorem dX10_untell_0 : decode cX10_untell 0 = .ok (.aload_n 0, 1) := by decide +kernel
theorem dX10_untell_1 : decode cX10_untell 1 = .ok (.getfield 76, 3) := by decide +kernel
theorem dX10_untell_4 : decode cX10_untell 4 = .ok (.iload_n 1, 1) := by decide +kernel
theorem dX10_untell_5 : decode cX10_untell 5 = .ok (.aload_n 0, 1) := by decide +kernel
theorem dX10_untell_6 : decode cX10_untell 6 = .ok (.getfield 288, 3) := by decide +kernel
theorem dX10_untell_9 : decode cX10_untell 9 = .ok (.invokevirtual 295, 3) := by decide +kernel
theorem dX10_untell_12 : decode cX10_untell 12 = .ok (.ireturn, 1) := by decide +kernel
theorem dX10_will_0 : decode cX10_will 0 = .ok (.aload_n 0, 1) := by decide +kernel
theorem dX10_will_1 : decode cX10_will 1 = .ok (.getfield 28, 3) := by decide +kernel
theorem dX10_will_4 : decode cX10_will 4 = .ok (.iload_n 1, 1) := by decide +kernel
theorem dX10_will_5 : decode cX10_will 5 = .ok (.invokevirtual 120, 3) := by decide +kernel
theorem dX10_will_8 : decode cX10_will 8 = .ok (.ifCond .eq 22, 3) := by decide +kernel
theorem dX10_will_30 : decode cX10_will 30 = .ok (.bipush (-2), 2) := by decide +kernel
theorem dX10_will_32 : decode cX10_will 32 = .ok (.ireturn, 1) := by decide +kernel
theorem dX10_wings_0 : decode cX10_wings 0 = .ok (.iload_n 1, 1) := by decide +kernel
theorem dX10_wings_1 : decode cX10_wings 1 = .ok (.ifCond .lt 8, 3) := by decide +kernel
theorem dX10_wings_4 : decode cX10_wings 4 = .ok (.iload_n 1, 1) := by decide +kernel
theorem dX10_wings_5 : decode cX10_wings 5 = .ok (.iconst 1, 1) := by decide +kernel
theorem dX10_wings_6 : decode cX10_wings 6 = .ok (.if_icmp .le 5, 3) := by decide +kernel
theorem dX10_wings_9 : decode cX10_wings 9 = .ok (.iconst (-1), 1) := by decide +kernel
theorem dX10_wings_10 : decode cX10_wings 10 = .ok (.ireturn, 1) := by decide +kernel
theorem dX10_wings_11 : decode cX10_wings 11 = .ok (.aload_n 0, 1) := by decide +kernel
theorem dX10_wings_12 : decode cX10_wings 12 = .ok (.getfield 62, 3) := by decide +kernel
theorem dX10_wings_15 : decode cX10_wings 15 = .ok (.invokevirtual 243, 3) := by decide +kernel
theorem dX10_wings_18 : decode cX10_wings 18 = .ok (.istore_n 2, 1) := by decide +kernel
theorem dX10_wings_19 : decode cX10_wings 19 = .ok (.iload_n 1, 1) := by decide +kernel
theorem dX10_wings_20 : decode cX10_wings 20 = .ok (.iconst 1, 1) := by decide +kernel
theorem dX10_wings_21 : decode cX10_wings 21 = .ok (.if_icmp .ne 7, 3) := by decide +kernel
theorem dX10_wings_24 : decode cX10_wings 24 = .ok (.iload_n 2, 1) := by decide +kernel
theorem dX10_wings_25 : decode cX10_wings 25 = .ok (.goto 11, 3) := by decide +kernel
theorem dX10_wings_28 : decode cX10_wings 28 = .ok (.aload_n 0, 1) := by decide +kernel
theorem dX10_wings_29 : decode cX10_wings 29 = .ok (.getfield 62, 3) := by decide +kernel
theorem dX10_wings_32 : decode cX10_wings 32 = .ok (.iload_n 2, 1) := by decide +kernel
theorem dX10_wings_33 : decode cX10_wings 33 = .ok (.invokevirtual 246, 3) := by decide +kernel
theorem dX10_wings_36 : decode cX10_wings 36 = .ok (.ireturn, 1) := by decide +kernel
theorem dX11_about_0 : decode cX11_about 0 = .ok (.iload_n 1, 1) := by decide +kernel
theorem dX11_about_1 : decode cX11_about 1 = .ok (.tableswitch 147 0 13 #[71, 76, 81, 86, 91, 96, 104, 112, 117, 122, 127, 132, 137, 142], 71) := by decide +kernel
theorem dX11_about_72 : decode cX11_about 72 = .ok (.aload_n 0, 1) := by decide +kernel
theorem dX11_about_73 : decode cX11_about 73 = .ok (.getfield 387, 3) := by decide +kernel
theorem dX11_about_76 : decode cX11_about 76 = .ok (.ireturn, 1) := by decide +kernel
theorem dX11_about_77 : decode cX11_about 77 = .ok (.aload_n 0, 1) := by decide +kernel
theorem dX11_about_78 : decode cX11_about 78 = .ok (.getfield 390, 3) := by decide +kernel
theorem dX11_about_81 : decode cX11_about 81 = .ok (.ireturn, 1) := by decide +kernel
theorem dX11_about_82 : decode cX11_about 82 = .ok (.aload_n 0, 1) := by decide +kernel
theorem dX11_about_83 : decode cX11_about 83 = .ok (.getfield 84, 3) := by decide +kernel
theorem dX11_about_86 : decode cX11_about 86 = .ok (.ireturn, 1) := by decide +kernel
theorem dX11_about_87 : decode cX11_about 87 = .ok (.aload_n 0, 1) := by decide +kernel
theorem dX11_about_88 : decode cX11_about 88 = .ok (.getfield 87, 3) := by decide +kernel
theorem dX11_about_91 : decode cX11_about 91 = .ok (.ireturn, 1) := by decide +kernel
theorem dX11_about_92 : decode cX11_about 92 = .ok (.aload_n 0, 1) := by decide +kernel
theorem dX11_about_93 : decode cX11_about 93 = .ok (.getfield 90, 3) := by decide +kernel
theorem dX11_about_96 : decode cX11_about 96 = .ok (.ireturn, 1) := by decide +kernel
theorem dX11_about_97 : decode cX11_about 97 = .ok (.aload_n 0, 1) := by decide +kernel
theorem dX11_about_98 : decode cX11_about 98 = .ok (.getfield 93, 3) := by decide +kernel
theorem dX11_about_101 : decode cX11_about 101 = .ok (.bipush 37, 2) := by decide +kernel
theorem dX11_about_103 : decode cX11_about 103 = .ok (.iaload, 1) := by decide +kernel
theorem dX11_about_104 : decode cX11_about 104 = .ok (.ireturn, 1) := by decide +kernel
theorem dX11_about_105 : decode cX11_about 105 = .ok (.aload_n 0, 1) := by decide +kernel
theorem dX11_about_106 : decode cX11_about 106 = .ok (.getfield 93, 3) := by decide +kernel
theorem dX11_about_109 : decode cX11_about 109 = .ok (.bipush 38, 2) := by decide +kernel
theorem dX11_about_111 : decode cX11_about 111 = .ok (.iaload, 1) := by decide +kernel
theorem dX11_about_112 : decode cX11_about 112 = .ok (.ireturn, 1) := by decide +kernel
theorem dX11_about_113 : decode cX11_about 113 = .ok (.aload_n 0, 1) := by decide +kernel
theorem dX11_about_114 : decode cX11_about 114 = .ok (.getfield 405, 3) := by decide +kernel
theorem dX11_about_117 : decode cX11_about 117 = .ok (.ireturn, 1) := by decide +kernel
theorem dX11_about_118 : decode cX11_about 118 = .ok (.aload_n 0, 1) := by decide +kernel
theorem dX11_about_119 : decode cX11_about 119 = .ok (.getfield 408, 3) := by decide +kernel
theorem dX11_about_122 : decode cX11_about 122 = .ok (.ireturn, 1) := by decide +kernel
theorem dX11_about_123 : decode cX11_about 123 = .ok (.aload_n 0, 1) := by decide +kernel
theorem dX11_about_124 : decode cX11_about 124 = .ok (.getfield 411, 3) := by decide +kernel
theorem dX11_about_127 : decode cX11_about 127 = .ok (.ireturn, 1) := by decide +kernel
theorem dX11_about_128 : decode cX11_about 128 = .ok (.aload_n 0, 1) := by decide +kernel
theorem dX11_about_129 : decode cX11_about 129 = .ok (.getfield 527, 3) := by decide +kernel
theorem dX11_about_132 : decode cX11_about 132 = .ok (.ireturn, 1) := by decide +kernel
theorem dX11_about_133 : decode cX11_about 133 = .ok (.aload_n 0, 1) := by decide +kernel
theorem dX11_about_134 : decode cX11_about 134 = .ok (.getfield 139, 3) := by decide +kernel
theorem dX11_about_137 : decode cX11_about 137 = .ok (.ireturn, 1) := by decide +kernel
theorem dX11_about_138 : decode cX11_about 138 = .ok (.aload_n 0, 1) := by decide +kernel
theorem dX11_about_139 : decode cX11_about 139 = .ok (.getfield 396, 3) := by decide +kernel
theorem dX11_about_142 : decode cX11_about 142 = .ok (.ireturn, 1) := by decide +kernel
theorem dX11_about_143 : decode cX11_about 143 = .ok (.aload_n 0, 1) := by decide +kernel
theorem dX11_about_144 : decode cX11_about 144 = .ok (.getfield 414, 3) := by decide +kernel
theorem dX11_about_147 : decode cX11_about 147 = .ok (.ireturn, 1) := by decide +kernel
theorem dX11_about_148 : decode cX11_about 148 = .ok (.iconst (-1), 1) := by decide +kernel
theorem dX11_about_149 : decode cX11_about 149 = .ok (.ireturn, 1) := by decide +kernel
theorem dX11_act_0 : decode cX11_act 0 = .ok (.aload_n 0, 1) := by decide +kernel
theorem dX11_act_1 : decode cX11_act 1 = .ok (.getfield 405, 3) := by decide +kernel
theorem dX11_act_4 : decode cX11_act 4 = .ok (.bipush 40, 2) := by decide +kernel
theorem dX11_act_6 : decode cX11_act 6 = .ok (.if_icmp .ne 43, 3) := by decide +kernel
theorem dX11_act_49 : decode cX11_act 49 = .ok (.iconst 0, 1) := by decide +kernel
theorem dX11_act_50 : decode cX11_act 50 = .ok (.istore_n 1, 1) := by decide +kernel
theorem dX11_act_51 : decode cX11_act 51 = .ok (.iload_n 1, 1) := by decide +kernel
theorem dX11_act_52 : decode cX11_act 52 = .ok (.bipush 39, 2) := by decide +kernel
theorem dX11_act_54 : decode cX11_act 54 = .ok (.if_icmp .ge 29, 3) := by decide +kernel
theorem dX11_act_57 : decode cX11_act 57 = .ok (.aload_n 0, 1) := by decide +kernel
theorem dX11_act_58 : decode cX11_act 58 = .ok (.getfield 99, 3) := by decide +kernel
theorem dX11_act_61 : decode cX11_act 61 = .ok (.bipush 39, 2) := by decide +kernel
theorem dX11_act_63 : decode cX11_act 63 = .ok (.aload_n 0, 1) := by decide +kernel
theorem dX11_act_64 : decode cX11_act 64 = .ok (.getfield 405, 3) := by decide +kernel
theorem dX11_act_67 : decode cX11_act 67 = .ok (.imul, 1) := by decide +kernel
theorem dX11_act_68 : decode cX11_act 68 = .ok (.iload_n 1, 1) := by decide +kernel
theorem dX11_act_69 : decode cX11_act 69 = .ok (.iadd, 1) := by decide +kernel
theorem dX11_act_70 : decode cX11_act 70 = .ok (.aload_n 0, 1) := by decide +kernel
theorem dX11_act_71 : decode cX11_act 71 = .ok (.getfield 93, 3) := by decide +kernel
theorem dX11_act_74 : decode cX11_act 74 = .ok (.iload_n 1, 1) := by decide +kernel
theorem dX11_act_75 : decode cX11_act 75 = .ok (.iaload, 1) := by decide +kernel
theorem dX11_act_76 : decode cX11_act 76 = .ok (.iastore, 1) := by decide +kernel
theorem dX11_act_77 : decode cX11_act 77 = .ok (.iinc 1 1, 3) := by decide +kernel
theorem dX11_act_80 : decode cX11_act 80 = .ok (.goto (-29), 3) := by decide +kernel
theorem dX11_act_83 : decode cX11_act 83 = .ok (.aload_n 0, 1) := by decide +kernel
theorem dX11_act_84 : decode cX11_act 84 = .ok (.dup, 1) := by decide +kernel
theorem dX11_act_85 : decode cX11_act 85 = .ok (.getfield 405, 3) := by decide +kernel
theorem dX11_act_88 : decode cX11_act 88 = .ok (.iconst 1, 1) := by decide +kernel
theorem dX11_act_89 : decode cX11_act 89 = .ok (.iadd, 1) := by decide +kernel
theorem dX11_act_90 : decode cX11_act 90 = .ok (.putfield 405, 3) := by decide +kernel
theorem dX11_act_93 : decode cX11_act 93 = .ok (.aload_n 0, 1) := by decide +kernel
theorem dX11_act_94 : decode cX11_act 94 = .ok (.iconst 0, 1) := by decide +kernel
theorem dX11_act_95 : decode cX11_act 95 = .ok (.putfield 408, 3) := by decide +kernel
theorem dX11_act_98 : decode cX11_act 98 = .ok (.aload_n 0, 1) := by decide +kernel
theorem dX11_act_99 : decode cX11_act 99 = .ok (.invokevirtual 449, 3) := by decide +kernel
theorem dX11_act_102 : decode cX11_act 102 = .ok (.return_, 1) := by decide +kernel
theorem dX11_ask_0 : decode cX11_ask 0 = .ok (.iload_n 1, 1) := by decide +kernel
theorem dX11_ask_1 : decode cX11_ask 1 = .ok (.iconst 0, 1) := by decide +kernel
theorem dX11_ask_2 : decode cX11_ask 2 = .ok (.iconst 1, 1) := by decide +kernel
theorem dX11_ask_3 : decode cX11_ask 3 = .ok (.invokestatic 417, 3) := by decide +kernel
theorem dX11_ask_6 : decode cX11_ask 6 = .ok (.ifCond .ne 5, 3) := by decide +kernel
theorem dX11_ask_9 : decode cX11_ask 9 = .ok (.iconst (-1), 1) := by decide +kernel
theorem dX11_ask_10 : decode cX11_ask 10 = .ok (.ireturn, 1) := by decide +kernel
theorem dX11_ask_11 : decode cX11_ask 11 = .ok (.aload_n 0, 1) := by decide +kernel
theorem dX11_ask_12 : decode cX11_ask 12 = .ok (.iload_n 2, 1) := by decide +kernel
theorem dX11_ask_13 : decode cX11_ask 13 = .ok (.invokevirtual 534, 3) := by decide +kernel
theorem dX11_ask_16 : decode cX11_ask 16 = .ok (.istore_n 3, 1) := by decide +kernel
theorem dX11_ask_17 : decode cX11_ask 17 = .ok (.iload_n 3, 1) := by decide +kernel
theorem dX11_ask_18 : decode cX11_ask 18 = .ok (.ifCond .ne 5, 3) := by decide +kernel
theorem dX11_ask_21 : decode cX11_ask 21 = .ok (.iconst (-1), 1) := by decide +kernel
theorem dX11_ask_22 : decode cX11_ask 22 = .ok (.ireturn, 1) := by decide +kernel
theorem dX11_back_0 : decode cX11_back 0 = .ok (.iload_n 1, 1) := by decide +kernel
theorem dX11_back_1 : decode cX11_back 1 = .ok (.invokestatic 540, 3) := by decide +kernel
theorem dX11_back_4 : decode cX11_back 4 = .ok (.ifCond .eq 12, 3) := by decide +kernel
theorem dX11_back_7 : decode cX11_back 7 = .ok (.aload_n 0, 1) := by decide +kernel
theorem dX11_back_8 : decode cX11_back 8 = .ok (.getfield 133, 3) := by decide +kernel
theorem dX11_back_11 : decode cX11_back 11 = .ok (.iload_n 1, 1) := by decide +kernel
theorem dX11_back_12 : decode cX11_back 12 = .ok (.baload, 1) := by decide +kernel
theorem dX11_back_13 : decode cX11_back 13 = .ok (.ifCond .ne 5, 3) := by decide +kernel
theorem dX11_back_16 : decode cX11_back 16 = .ok (.iconst (-1), 1) := by decide +kernel
theorem dX11_back_17 : decode cX11_back 17 = .ok (.ireturn, 1) := by decide +kernel
theorem dX11_begin_0 : decode cX11_begin 0 = .ok (.iconst 0, 1) := by decide +kernel
theorem dX11_begin_1 : decode cX11_begin 1 = .ok (.istore_n 1, 1) := by decide +kernel
theorem dX11_begin_2 : decode cX11_begin 2 = .ok (.iload_n 1, 1) := by decide +kernel
theorem dX11_begin_3 : decode cX11_begin 3 = .ok (.bipush 39, 2) := by decide +kernel
theorem dX11_begin_5 : decode cX11_begin 5 = .ok (.if_icmp .ge 16, 3) := by decide +kernel
theorem dX11_begin_8 : decode cX11_begin 8 = .ok (.aload_n 0, 1) := by decide +kernel
theorem dX11_begin_9 : decode cX11_begin 9 = .ok (.getfield 96, 3) := by decide +kernel
theorem dX11_begin_12 : decode cX11_begin 12 = .ok (.iload_n 1, 1) := by decide +kernel
theorem dX11_begin_13 : decode cX11_begin 13 = .ok (.iconst 0, 1) := by decide +kernel
theorem dX11_begin_14 : decode cX11_begin 14 = .ok (.iastore, 1) := by decide +kernel
theorem dX11_begin_15 : decode cX11_begin 15 = .ok (.iinc 1 1, 3) := by decide +kernel
theorem dX11_begin_18 : decode cX11_begin 18 = .ok (.goto (-16), 3) := by decide +kernel
theorem dX11_begin_21 : decode cX11_begin 21 = .ok (.iconst 0, 1) := by decide +kernel
theorem dX11_begin_22 : decode cX11_begin 22 = .ok (.istore_n 1, 1) := by decide +kernel
theorem dX11_begin_23 : decode cX11_begin 23 = .ok (.iload_n 1, 1) := by decide +kernel
theorem dX11_begin_24 : decode cX11_begin 24 = .ok (.aload_n 0, 1) := by decide +kernel
theorem dX11_begin_25 : decode cX11_begin 25 = .ok (.getfield 387, 3) := by decide +kernel
theorem dX11_begin_28 : decode cX11_begin 28 = .ok (.if_icmp .ge 31, 3) := by decide +kernel
theorem dX11_begin_59 : decode cX11_begin 59 = .ok (.iconst 0, 1) := by decide +kernel
theorem dX11_begin_60 : decode cX11_begin 60 = .ok (.istore_n 1, 1) := by decide +kernel
theorem dX11_begin_61 : decode cX11_begin 61 = .ok (.iload_n 1, 1) := by decide +kernel
theorem dX11_begin_62 : decode cX11_begin 62 = .ok (.aload_n 0, 1) := by decide +kernel
theorem dX11_begin_63 : decode cX11_begin 63 = .ok (.getfield 390, 3) := by decide +kernel
theorem dX11_begin_66 : decode cX11_begin 66 = .ok (.if_icmp .ge 69, 3) := by decide +kernel
theorem dX11_begin_135 : decode cX11_begin 135 = .ok (.return_, 1) := by decide +kernel
theorem dX11_breadth_0 : decode cX11_breadth 0 = .ok (.aload_n 0, 1) := by decide +kernel
theorem dX11_breadth_1 : decode cX11_breadth 1 = .ok (.invokevirtual 449, 3) := by decide +kernel
theorem dX11_breadth_4 : decode cX11_breadth 4 = .ok (.aload_n 0, 1) := by decide +kernel
theorem dX11_breadth_5 : decode cX11_breadth 5 = .ok (.aload_n 0, 1) := by decide +kernel
theorem dX11_breadth_6 : decode cX11_breadth 6 = .ok (.invokevirtual 440, 3) := by decide +kernel
theorem dX11_breadth_9 : decode cX11_breadth 9 = .ok (.invokevirtual 492, 3) := by decide +kernel
theorem dX11_breadth_12 : decode cX11_breadth 12 = .ok (.ireturn, 1) := by decide +kernel
theorem dX11_buttons_0 : decode cX11_buttons 0 = .ok (.aload_n 0, 1) := by decide +kernel
theorem dX11_buttons_1 : decode cX11_buttons 1 = .ok (.aload_n 0, 1) := by decide +kernel
theorem dX11_buttons_2 : decode cX11_buttons 2 = .ok (.getfield 387, 3) := by decide +kernel
theorem dX11_buttons_5 : decode cX11_buttons 5 = .ok (.putfield 414, 3) := by decide +kernel
theorem dX11_buttons_8 : decode cX11_buttons 8 = .ok (.iconst 1, 1) := by decide +kernel
theorem dX11_buttons_9 : decode cX11_buttons 9 = .ok (.istore_n 1, 1) := by decide +kernel
