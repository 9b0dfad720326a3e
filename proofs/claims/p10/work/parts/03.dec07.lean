theorem dX11_token_41 : decode cX11_token 41 = .ok (.aload_n 0, 1) := by decide +kernel
theorem dX11_token_42 : decode cX11_token 42 = .ok (.iconst 0, 1) := by decide +kernel
theorem dX11_token_43 : decode cX11_token 43 = .ok (.invokevirtual 152, 3) := by decide +kernel
theorem dX11_token_46 : decode cX11_token 46 = .ok (.istore_n 1, 1) := by decide +kernel
theorem dX11_token_47 : decode cX11_token 47 = .ok (.iconst 0, 1) := by decide +kernel
theorem dX11_token_48 : decode cX11_token 48 = .ok (.istore_n 2, 1) := by decide +kernel
theorem dX11_token_49 : decode cX11_token 49 = .ok (.aload_n 0, 1) := by decide +kernel
theorem dX11_token_50 : decode cX11_token 50 = .ok (.lconst 0, 1) := by decide +kernel
theorem dX11_token_51 : decode cX11_token 51 = .ok (.putfield 159, 3) := by decide +kernel
theorem dX11_token_54 : decode cX11_token 54 = .ok (.aload_n 0, 1) := by decide +kernel
theorem dX11_token_55 : decode cX11_token 55 = .ok (.iconst 0, 1) := by decide +kernel
theorem dX11_token_56 : decode cX11_token 56 = .ok (.putfield 163, 3) := by decide +kernel
theorem dX11_token_59 : decode cX11_token 59 = .ok (.iload_n 1, 1) := by decide +kernel
theorem dX11_token_60 : decode cX11_token 60 = .ok (.ifCond .ge 11, 3) := by decide +kernel
theorem dX11_token_63 : decode cX11_token 63 = .ok (.aload_n 0, 1) := by decide +kernel
theorem dX11_token_64 : decode cX11_token 64 = .ok (.iconst 0, 1) := by decide +kernel
theorem dX11_token_65 : decode cX11_token 65 = .ok (.putfield 166, 3) := by decide +kernel
theorem dX11_token_68 : decode cX11_token 68 = .ok (.goto 164, 3) := by decide +kernel
theorem dX11_token_71 : decode cX11_token 71 = .ok (.iload_n 1, 1) := by decide +kernel
theorem dX11_token_72 : decode cX11_token 72 = .ok (.invokestatic 169, 3) := by decide +kernel
theorem dX11_token_75 : decode cX11_token 75 = .ok (.ifCond .eq 62, 3) := by decide +kernel
theorem dX11_token_78 : decode cX11_token 78 = .ok (.aload_n 0, 1) := by decide +kernel
theorem dX11_token_79 : decode cX11_token 79 = .ok (.iload_n 2, 1) := by decide +kernel
theorem dX11_token_80 : decode cX11_token 80 = .ok (.invokevirtual 152, 3) := by decide +kernel
theorem dX11_token_83 : decode cX11_token 83 = .ok (.invokestatic 169, 3) := by decide +kernel
theorem dX11_token_86 : decode cX11_token 86 = .ok (.ifCond .eq 33, 3) := by decide +kernel
theorem dX11_token_89 : decode cX11_token 89 = .ok (.iload_n 2, 1) := by decide +kernel
theorem dX11_token_90 : decode cX11_token 90 = .ok (.bipush 8, 2) := by decide +kernel
theorem dX11_token_92 : decode cX11_token 92 = .ok (.if_icmp .ge 21, 3) := by decide +kernel
theorem dX11_token_95 : decode cX11_token 95 = .ok (.aload_n 0, 1) := by decide +kernel
theorem dX11_token_96 : decode cX11_token 96 = .ok (.aload_n 0, 1) := by decide +kernel
theorem dX11_token_97 : decode cX11_token 97 = .ok (.getfield 159, 3) := by decide +kernel
theorem dX11_token_100 : decode cX11_token 100 = .ok (.bipush 8, 2) := by decide +kernel
theorem dX11_token_102 : decode cX11_token 102 = .ok (.lshl, 1) := by decide +kernel
theorem dX11_token_103 : decode cX11_token 103 = .ok (.aload_n 0, 1) := by decide +kernel
theorem dX11_token_104 : decode cX11_token 104 = .ok (.iload_n 2, 1) := by decide +kernel
theorem dX11_token_105 : decode cX11_token 105 = .ok (.invokevirtual 152, 3) := by decide +kernel
theorem dX11_token_108 : decode cX11_token 108 = .ok (.i2l, 1) := by decide +kernel
theorem dX11_token_109 : decode cX11_token 109 = .ok (.lor, 1) := by decide +kernel
theorem dX11_token_110 : decode cX11_token 110 = .ok (.putfield 159, 3) := by decide +kernel
theorem dX11_token_113 : decode cX11_token 113 = .ok (.iinc 2 1, 3) := by decide +kernel
theorem dX11_token_116 : decode cX11_token 116 = .ok (.goto (-38), 3) := by decide +kernel
theorem dX11_token_119 : decode cX11_token 119 = .ok (.aload_n 0, 1) := by decide +kernel
theorem dX11_token_120 : decode cX11_token 120 = .ok (.iload_n 2, 1) := by decide +kernel
theorem dX11_token_121 : decode cX11_token 121 = .ok (.bipush 8, 2) := by decide +kernel
theorem dX11_token_123 : decode cX11_token 123 = .ok (.if_icmp .le 7, 3) := by decide +kernel
theorem dX11_token_126 : decode cX11_token 126 = .ok (.iconst 3, 1) := by decide +kernel
theorem dX11_token_127 : decode cX11_token 127 = .ok (.goto 4, 3) := by decide +kernel
theorem dX11_token_130 : decode cX11_token 130 = .ok (.iconst 1, 1) := by decide +kernel
theorem dX11_token_131 : decode cX11_token 131 = .ok (.putfield 166, 3) := by decide +kernel
theorem dX11_token_134 : decode cX11_token 134 = .ok (.goto 98, 3) := by decide +kernel
theorem dX11_token_137 : decode cX11_token 137 = .ok (.iload_n 1, 1) := by decide +kernel
theorem dX11_token_138 : decode cX11_token 138 = .ok (.invokestatic 173, 3) := by decide +kernel
theorem dX11_token_141 : decode cX11_token 141 = .ok (.ifCond .eq 73, 3) := by decide +kernel
theorem dX11_token_144 : decode cX11_token 144 = .ok (.aload_n 0, 1) := by decide +kernel
theorem dX11_token_145 : decode cX11_token 145 = .ok (.iload_n 2, 1) := by decide +kernel
theorem dX11_token_146 : decode cX11_token 146 = .ok (.invokevirtual 152, 3) := by decide +kernel
theorem dX11_token_149 : decode cX11_token 149 = .ok (.invokestatic 173, 3) := by decide +kernel
theorem dX11_token_152 : decode cX11_token 152 = .ok (.ifCond .eq 34, 3) := by decide +kernel
theorem dX11_token_155 : decode cX11_token 155 = .ok (.iload_n 2, 1) := by decide +kernel
theorem dX11_token_156 : decode cX11_token 156 = .ok (.iconst 4, 1) := by decide +kernel
theorem dX11_token_157 : decode cX11_token 157 = .ok (.if_icmp .ge 23, 3) := by decide +kernel
theorem dX11_token_160 : decode cX11_token 160 = .ok (.aload_n 0, 1) := by decide +kernel
theorem dX11_token_161 : decode cX11_token 161 = .ok (.bipush 10, 2) := by decide +kernel
theorem dX11_token_163 : decode cX11_token 163 = .ok (.aload_n 0, 1) := by decide +kernel
theorem dX11_token_164 : decode cX11_token 164 = .ok (.getfield 163, 3) := by decide +kernel
theorem dX11_token_167 : decode cX11_token 167 = .ok (.imul, 1) := by decide +kernel
theorem dX11_token_168 : decode cX11_token 168 = .ok (.aload_n 0, 1) := by decide +kernel
theorem dX11_token_169 : decode cX11_token 169 = .ok (.iload_n 2, 1) := by decide +kernel
theorem dX11_token_170 : decode cX11_token 170 = .ok (.invokevirtual 152, 3) := by decide +kernel
theorem dX11_token_173 : decode cX11_token 173 = .ok (.iadd, 1) := by decide +kernel
theorem dX11_token_174 : decode cX11_token 174 = .ok (.bipush 48, 2) := by decide +kernel
theorem dX11_token_176 : decode cX11_token 176 = .ok (.isub, 1) := by decide +kernel
theorem dX11_token_177 : decode cX11_token 177 = .ok (.putfield 163, 3) := by decide +kernel
theorem dX11_token_180 : decode cX11_token 180 = .ok (.iinc 2 1, 3) := by decide +kernel
theorem dX11_token_183 : decode cX11_token 183 = .ok (.goto (-39), 3) := by decide +kernel
theorem dX11_token_186 : decode cX11_token 186 = .ok (.aload_n 0, 1) := by decide +kernel
theorem dX11_token_187 : decode cX11_token 187 = .ok (.iload_n 2, 1) := by decide +kernel
theorem dX11_token_188 : decode cX11_token 188 = .ok (.iconst 4, 1) := by decide +kernel
theorem dX11_token_189 : decode cX11_token 189 = .ok (.if_icmp .gt 14, 3) := by decide +kernel
theorem dX11_token_192 : decode cX11_token 192 = .ok (.aload_n 0, 1) := by decide +kernel
theorem dX11_token_193 : decode cX11_token 193 = .ok (.iload_n 2, 1) := by decide +kernel
theorem dX11_token_194 : decode cX11_token 194 = .ok (.invokevirtual 152, 3) := by decide +kernel
theorem dX11_token_197 : decode cX11_token 197 = .ok (.invokestatic 169, 3) := by decide +kernel
theorem dX11_token_200 : decode cX11_token 200 = .ok (.ifCond .eq 7, 3) := by decide +kernel
theorem dX11_token_203 : decode cX11_token 203 = .ok (.iconst 3, 1) := by decide +kernel
theorem dX11_token_204 : decode cX11_token 204 = .ok (.goto 4, 3) := by decide +kernel
theorem dX11_token_207 : decode cX11_token 207 = .ok (.iconst 2, 1) := by decide +kernel
theorem dX11_token_208 : decode cX11_token 208 = .ok (.putfield 166, 3) := by decide +kernel
theorem dX11_token_211 : decode cX11_token 211 = .ok (.goto 21, 3) := by decide +kernel
theorem dX11_token_214 : decode cX11_token 214 = .ok (.iconst 1, 1) := by decide +kernel
theorem dX11_token_215 : decode cX11_token 215 = .ok (.istore_n 2, 1) := by decide +kernel
theorem dX11_token_216 : decode cX11_token 216 = .ok (.aload_n 0, 1) := by decide +kernel
theorem dX11_token_217 : decode cX11_token 217 = .ok (.iload_n 1, 1) := by decide +kernel
theorem dX11_token_218 : decode cX11_token 218 = .ok (.invokestatic 176, 3) := by decide +kernel
theorem dX11_token_221 : decode cX11_token 221 = .ok (.ifCond .eq 7, 3) := by decide +kernel
theorem dX11_token_224 : decode cX11_token 224 = .ok (.iload_n 1, 1) := by decide +kernel
theorem dX11_token_225 : decode cX11_token 225 = .ok (.goto 4, 3) := by decide +kernel
theorem dX11_token_228 : decode cX11_token 228 = .ok (.iconst 3, 1) := by decide +kernel
theorem dX11_token_229 : decode cX11_token 229 = .ok (.putfield 166, 3) := by decide +kernel
theorem dX11_token_232 : decode cX11_token 232 = .ok (.aload_n 0, 1) := by decide +kernel
theorem dX11_token_233 : decode cX11_token 233 = .ok (.getfield 166, 3) := by decide +kernel
theorem dX11_token_236 : decode cX11_token 236 = .ok (.iconst 3, 1) := by decide +kernel
theorem dX11_token_237 : decode cX11_token 237 = .ok (.if_icmp .eq 13, 3) := by decide +kernel
theorem dX11_token_240 : decode cX11_token 240 = .ok (.aload_n 0, 1) := by decide +kernel
theorem dX11_token_241 : decode cX11_token 241 = .ok (.dup, 1) := by decide +kernel
theorem dX11_token_242 : decode cX11_token 242 = .ok (.getfield 146, 3) := by decide +kernel
theorem dX11_token_245 : decode cX11_token 245 = .ok (.iload_n 2, 1) := by decide +kernel
theorem dX11_token_246 : decode cX11_token 246 = .ok (.iadd, 1) := by decide +kernel
theorem dX11_token_247 : decode cX11_token 247 = .ok (.putfield 146, 3) := by decide +kernel
theorem dX11_token_250 : decode cX11_token 250 = .ok (.return_, 1) := by decide +kernel
theorem dX11_told_0 : decode cX11_told 0 = .ok (.aload_n 0, 1) := by decide +kernel
theorem dX11_told_1 : decode cX11_told 1 = .ok (.lload_n 1, 1) := by decide +kernel
theorem dX11_told_2 : decode cX11_told 2 = .ok (.invokevirtual 238, 3) := by decide +kernel
theorem dX11_told_5 : decode cX11_told 5 = .ok (.aload_n 0, 1) := by decide +kernel
theorem dX11_told_6 : decode cX11_told 6 = .ok (.iconst 0, 1) := by decide +kernel
theorem dX11_told_7 : decode cX11_told 7 = .ok (.iload_n 3, 1) := by decide +kernel
theorem dX11_told_8 : decode cX11_told 8 = .ok (.invokevirtual 242, 3) := by decide +kernel
theorem dX11_told_11 : decode cX11_told 11 = .ok (.ireturn, 1) := by decide +kernel
theorem dX11_toldNumber_0 : decode cX11_toldNumber 0 = .ok (.aload_n 0, 1) := by decide +kernel
theorem dX11_toldNumber_1 : decode cX11_toldNumber 1 = .ok (.getfield 179, 3) := by decide +kernel
theorem dX11_toldNumber_4 : decode cX11_toldNumber 4 = .ok (.ifCond .le 5, 3) := by decide +kernel
theorem dX11_toldNumber_7 : decode cX11_toldNumber 7 = .ok (.iconst 0, 1) := by decide +kernel
theorem dX11_toldNumber_8 : decode cX11_toldNumber 8 = .ok (.ireturn, 1) := by decide +kernel
theorem dX11_toldNumber_9 : decode cX11_toldNumber 9 = .ok (.aload_n 0, 1) := by decide +kernel
theorem dX11_toldNumber_10 : decode cX11_toldNumber 10 = .ok (.getfield 166, 3) := by decide +kernel
theorem dX11_toldNumber_13 : decode cX11_toldNumber 13 = .ok (.iconst 2, 1) := by decide +kernel
theorem dX11_toldNumber_14 : decode cX11_toldNumber 14 = .ok (.if_icmp .eq 11, 3) := by decide +kernel
theorem dX11_toldNumber_17 : decode cX11_toldNumber 17 = .ok (.aload_n 0, 1) := by decide +kernel
theorem dX11_toldNumber_18 : decode cX11_toldNumber 18 = .ok (.iconst 2, 1) := by decide +kernel
theorem dX11_toldNumber_19 : decode cX11_toldNumber 19 = .ok (.invokevirtual 232, 3) := by decide +kernel
theorem dX11_toldNumber_22 : decode cX11_toldNumber 22 = .ok (.goto 24, 3) := by decide +kernel
theorem dX11_toldNumber_25 : decode cX11_toldNumber 25 = .ok (.aload_n 0, 1) := by decide +kernel
theorem dX11_toldNumber_26 : decode cX11_toldNumber 26 = .ok (.getfield 163, 3) := by decide +kernel
theorem dX11_toldNumber_29 : decode cX11_toldNumber 29 = .ok (.iload_n 1, 1) := by decide +kernel
theorem dX11_toldNumber_30 : decode cX11_toldNumber 30 = .ok (.if_icmp .lt 11, 3) := by decide +kernel
theorem dX11_toldNumber_33 : decode cX11_toldNumber 33 = .ok (.aload_n 0, 1) := by decide +kernel
theorem dX11_toldNumber_34 : decode cX11_toldNumber 34 = .ok (.getfield 163, 3) := by decide +kernel
theorem dX11_toldNumber_37 : decode cX11_toldNumber 37 = .ok (.iload_n 2, 1) := by decide +kernel
theorem dX11_toldNumber_38 : decode cX11_toldNumber 38 = .ok (.if_icmp .le 8, 3) := by decide +kernel
theorem dX11_toldNumber_41 : decode cX11_toldNumber 41 = .ok (.aload_n 0, 1) := by decide +kernel
theorem dX11_toldNumber_42 : decode cX11_toldNumber 42 = .ok (.iconst 4, 1) := by decide +kernel
theorem dX11_toldNumber_43 : decode cX11_toldNumber 43 = .ok (.invokevirtual 232, 3) := by decide +kernel
theorem dX11_toldNumber_46 : decode cX11_toldNumber 46 = .ok (.aload_n 0, 1) := by decide +kernel
theorem dX11_toldNumber_47 : decode cX11_toldNumber 47 = .ok (.getfield 163, 3) := by decide +kernel
theorem dX11_toldNumber_50 : decode cX11_toldNumber 50 = .ok (.istore_n 3, 1) := by decide +kernel
theorem dX11_toldNumber_51 : decode cX11_toldNumber 51 = .ok (.aload_n 0, 1) := by decide +kernel
theorem dX11_toldNumber_52 : decode cX11_toldNumber 52 = .ok (.getfield 179, 3) := by decide +kernel
theorem dX11_toldNumber_55 : decode cX11_toldNumber 55 = .ok (.ifCond .ne 7, 3) := by decide +kernel
theorem dX11_toldNumber_58 : decode cX11_toldNumber 58 = .ok (.aload_n 0, 1) := by decide +kernel
theorem dX11_toldNumber_59 : decode cX11_toldNumber 59 = .ok (.invokevirtual 235, 3) := by decide +kernel
theorem dX11_toldNumber_62 : decode cX11_toldNumber 62 = .ok (.iload_n 3, 1) := by decide +kernel
theorem dX11_toldNumber_63 : decode cX11_toldNumber 63 = .ok (.ireturn, 1) := by decide +kernel
theorem dX11_truth_0 : decode cX11_truth 0 = .ok (.iload_n 0, 1) := by decide +kernel
theorem dX11_truth_1 : decode cX11_truth 1 = .ok (.ifCond .eq 7, 3) := by decide +kernel
theorem dX11_truth_4 : decode cX11_truth 4 = .ok (.iconst 1, 1) := by decide +kernel
theorem dX11_truth_5 : decode cX11_truth 5 = .ok (.goto 4, 3) := by decide +kernel
theorem dX11_truth_8 : decode cX11_truth 8 = .ok (.iconst 0, 1) := by decide +kernel
theorem dX11_truth_9 : decode cX11_truth 9 = .ok (.ireturn, 1) := by decide +kernel
theorem dX11_turn_0 : decode cX11_turn 0 = .ok (.aload_n 0, 1) := by decide +kernel
theorem dX11_turn_1 : decode cX11_turn 1 = .ok (.iload_n 1, 1) := by decide +kernel
theorem dX11_turn_2 : decode cX11_turn 2 = .ok (.invokevirtual 455, 3) := by decide +kernel
theorem dX11_turn_5 : decode cX11_turn 5 = .ok (.ifCond .eq 18, 3) := by decide +kernel
theorem dX11_turn_8 : decode cX11_turn 8 = .ok (.aload_n 0, 1) := by decide +kernel
theorem dX11_turn_9 : decode cX11_turn 9 = .ok (.getfield 93, 3) := by decide +kernel
theorem dX11_turn_12 : decode cX11_turn 12 = .ok (.bipush 36, 2) := by decide +kernel
theorem dX11_turn_14 : decode cX11_turn 14 = .ok (.iaload, 1) := by decide +kernel
theorem dX11_turn_15 : decode cX11_turn 15 = .ok (.iload_n 1, 1) := by decide +kernel
theorem dX11_turn_16 : decode cX11_turn 16 = .ok (.ishr, 1) := by decide +kernel
theorem dX11_turn_17 : decode cX11_turn 17 = .ok (.iconst 1, 1) := by decide +kernel
theorem dX11_turn_18 : decode cX11_turn 18 = .ok (.iand, 1) := by decide +kernel
theorem dX11_turn_19 : decode cX11_turn 19 = .ok (.iconst 1, 1) := by decide +kernel
theorem dX11_turn_20 : decode cX11_turn 20 = .ok (.if_icmp .ne 5, 3) := by decide +kernel
theorem dX11_turn_23 : decode cX11_turn 23 = .ok (.iconst (-1), 1) := by decide +kernel
theorem dX11_turn_24 : decode cX11_turn 24 = .ok (.ireturn, 1) := by decide +kernel
theorem dX11_turn_25 : decode cX11_turn 25 = .ok (.aload_n 0, 1) := by decide +kernel
theorem dX11_turn_26 : decode cX11_turn 26 = .ok (.invokevirtual 458, 3) := by decide +kernel
theorem dX11_turn_29 : decode cX11_turn 29 = .ok (.aload_n 0, 1) := by decide +kernel
theorem dX11_turn_30 : decode cX11_turn 30 = .ok (.getfield 93, 3) := by decide +kernel
theorem dX11_turn_33 : decode cX11_turn 33 = .ok (.bipush 30, 2) := by decide +kernel
theorem dX11_turn_35 : decode cX11_turn 35 = .ok (.iload_n 1, 1) := by decide +kernel
theorem dX11_turn_36 : decode cX11_turn 36 = .ok (.iadd, 1) := by decide +kernel
theorem dX11_turn_37 : decode cX11_turn 37 = .ok (.iaload, 1) := by decide +kernel
theorem dX11_turn_38 : decode cX11_turn 38 = .ok (.istore_n 2, 1) := by decide +kernel
theorem dX11_turn_39 : decode cX11_turn 39 = .ok (.aload_n 0, 1) := by decide +kernel
theorem dX11_turn_40 : decode cX11_turn 40 = .ok (.getfield 93, 3) := by decide +kernel
theorem dX11_turn_43 : decode cX11_turn 43 = .ok (.bipush 30, 2) := by decide +kernel
theorem dX11_turn_45 : decode cX11_turn 45 = .ok (.iload_n 1, 1) := by decide +kernel
theorem dX11_turn_46 : decode cX11_turn 46 = .ok (.iadd, 1) := by decide +kernel
theorem dX11_turn_47 : decode cX11_turn 47 = .ok (.iconst 0, 1) := by decide +kernel
theorem dX11_turn_48 : decode cX11_turn 48 = .ok (.iastore, 1) := by decide +kernel
theorem dX11_turn_49 : decode cX11_turn 49 = .ok (.aload_n 0, 1) := by decide +kernel
theorem dX11_turn_50 : decode cX11_turn 50 = .ok (.getfield 93, 3) := by decide +kernel
theorem dX11_turn_53 : decode cX11_turn 53 = .ok (.bipush 36, 2) := by decide +kernel
theorem dX11_turn_55 : decode cX11_turn 55 = .ok (.dup2, 1) := by decide +kernel
theorem dX11_turn_56 : decode cX11_turn 56 = .ok (.iaload, 1) := by decide +kernel
theorem dX11_turn_57 : decode cX11_turn 57 = .ok (.iconst 1, 1) := by decide +kernel
theorem dX11_turn_58 : decode cX11_turn 58 = .ok (.iload_n 1, 1) := by decide +kernel
theorem dX11_turn_59 : decode cX11_turn 59 = .ok (.ishl, 1) := by decide +kernel
theorem dX11_turn_60 : decode cX11_turn 60 = .ok (.ior, 1) := by decide +kernel
theorem dX11_turn_61 : decode cX11_turn 61 = .ok (.iastore, 1) := by decide +kernel
theorem dX11_turn_62 : decode cX11_turn 62 = .ok (.iload_n 2, 1) := by decide +kernel
theorem dX11_turn_63 : decode cX11_turn 63 = .ok (.ireturn, 1) := by decide +kernel
theorem dX11_turning_0 : decode cX11_turning 0 = .ok (.iconst (-1), 1) := by decide +kernel
theorem dX11_turning_1 : decode cX11_turning 1 = .ok (.istore_n 1, 1) := by decide +kernel
theorem dX11_turning_2 : decode cX11_turning 2 = .ok (.iconst (-1), 1) := by decide +kernel
theorem dX11_turning_3 : decode cX11_turning 3 = .ok (.istore_n 2, 1) := by decide +kernel
theorem dX11_turning_4 : decode cX11_turning 4 = .ok (.iconst 0, 1) := by decide +kernel
theorem dX11_turning_5 : decode cX11_turning 5 = .ok (.istore_n 3, 1) := by decide +kernel
theorem dX11_turning_6 : decode cX11_turning 6 = .ok (.iload_n 3, 1) := by decide +kernel
theorem dX11_turning_7 : decode cX11_turning 7 = .ok (.aload_n 0, 1) := by decide +kernel
theorem dX11_turning_8 : decode cX11_turning 8 = .ok (.getfield 390, 3) := by decide +kernel
theorem dX11_turning_11 : decode cX11_turning 11 = .ok (.if_icmp .ge 64, 3) := by decide +kernel
theorem dX11_turning_14 : decode cX11_turning 14 = .ok (.aload_n 0, 1) := by decide +kernel
theorem dX11_turning_15 : decode cX11_turning 15 = .ok (.invokevirtual 449, 3) := by decide +kernel
theorem dX11_turning_18 : decode cX11_turning 18 = .ok (.aload_n 0, 1) := by decide +kernel
theorem dX11_turning_19 : decode cX11_turning 19 = .ok (.getfield 96, 3) := by decide +kernel
theorem dX11_turning_22 : decode cX11_turning 22 = .ok (.bipush 36, 2) := by decide +kernel
theorem dX11_turning_24 : decode cX11_turning 24 = .ok (.iaload, 1) := by decide +kernel
theorem dX11_turning_25 : decode cX11_turning 25 = .ok (.iload_n 3, 1) := by decide +kernel
theorem dX11_turning_26 : decode cX11_turning 26 = .ok (.ishr, 1) := by decide +kernel
theorem dX11_turning_27 : decode cX11_turning 27 = .ok (.iconst 1, 1) := by decide +kernel
theorem dX11_turning_28 : decode cX11_turning 28 = .ok (.iand, 1) := by decide +kernel
theorem dX11_turning_29 : decode cX11_turning 29 = .ok (.iconst 1, 1) := by decide +kernel
theorem dX11_turning_30 : decode cX11_turning 30 = .ok (.if_icmp .ne 6, 3) := by decide +kernel
theorem dX11_turning_33 : decode cX11_turning 33 = .ok (.goto 36, 3) := by decide +kernel
theorem dX11_turning_36 : decode cX11_turning 36 = .ok (.aload_n 0, 1) := by decide +kernel
theorem dX11_turning_37 : decode cX11_turning 37 = .ok (.getfield 96, 3) := by decide +kernel
theorem dX11_turning_40 : decode cX11_turning 40 = .ok (.bipush 30, 2) := by decide +kernel
theorem dX11_turning_42 : decode cX11_turning 42 = .ok (.iload_n 3, 1) := by decide +kernel
theorem dX11_turning_43 : decode cX11_turning 43 = .ok (.iadd, 1) := by decide +kernel
theorem dX11_turning_44 : decode cX11_turning 44 = .ok (.iconst 0, 1) := by decide +kernel
theorem dX11_turning_45 : decode cX11_turning 45 = .ok (.iastore, 1) := by decide +kernel
theorem dX11_turning_46 : decode cX11_turning 46 = .ok (.aload_n 0, 1) := by decide +kernel
theorem dX11_turning_47 : decode cX11_turning 47 = .ok (.invokevirtual 443, 3) := by decide +kernel
theorem dX11_turning_50 : decode cX11_turning 50 = .ok (.invokestatic 486, 3) := by decide +kernel
theorem dX11_turning_53 : decode cX11_turning 53 = .ok (.istore 4, 2) := by decide +kernel
theorem dX11_turning_55 : decode cX11_turning 55 = .ok (.iload 4, 2) := by decide +kernel
theorem dX11_turning_57 : decode cX11_turning 57 = .ok (.iload_n 2, 1) := by decide +kernel
theorem dX11_turning_58 : decode cX11_turning 58 = .ok (.if_icmp .gt 6, 3) := by decide +kernel
theorem dX11_turning_61 : decode cX11_turning 61 = .ok (.goto 8, 3) := by decide +kernel
theorem dX11_turning_64 : decode cX11_turning 64 = .ok (.iload_n 3, 1) := by decide +kernel
theorem dX11_turning_65 : decode cX11_turning 65 = .ok (.istore_n 1, 1) := by decide +kernel
theorem dX11_turning_66 : decode cX11_turning 66 = .ok (.iload 4, 2) := by decide +kernel
theorem dX11_turning_68 : decode cX11_turning 68 = .ok (.istore_n 2, 1) := by decide +kernel
theorem dX11_turning_69 : decode cX11_turning 69 = .ok (.iinc 3 1, 3) := by decide +kernel
theorem dX11_turning_72 : decode cX11_turning 72 = .ok (.goto (-66), 3) := by decide +kernel
theorem dX11_turning_75 : decode cX11_turning 75 = .ok (.iload_n 1, 1) := by decide +kernel
theorem dX11_turning_76 : decode cX11_turning 76 = .ok (.ireturn, 1) := by decide +kernel
theorem dX11_undo_0 : decode cX11_undo 0 = .ok (.aload_n 0, 1) := by decide +kernel
theorem dX11_undo_1 : decode cX11_undo 1 = .ok (.getfield 405, 3) := by decide +kernel
theorem dX11_undo_4 : decode cX11_undo 4 = .ok (.ifCond .ne 5, 3) := by decide +kernel
theorem dX11_undo_7 : decode cX11_undo 7 = .ok (.iconst 0, 1) := by decide +kernel
theorem dX11_undo_8 : decode cX11_undo 8 = .ok (.ireturn, 1) := by decide +kernel
theorem dX11_undo_9 : decode cX11_undo 9 = .ok (.aload_n 0, 1) := by decide +kernel
theorem dX11_undo_10 : decode cX11_undo 10 = .ok (.dup, 1) := by decide +kernel
theorem dX11_undo_11 : decode cX11_undo 11 = .ok (.getfield 405, 3) := by decide +kernel
theorem dX11_undo_14 : decode cX11_undo 14 = .ok (.iconst 1, 1) := by decide +kernel
theorem dX11_undo_15 : decode cX11_undo 15 = .ok (.isub, 1) := by decide +kernel
theorem dX11_undo_16 : decode cX11_undo 16 = .ok (.putfield 405, 3) := by decide +kernel
theorem dX11_undo_19 : decode cX11_undo 19 = .ok (.aload_n 0, 1) := by decide +kernel
theorem dX11_undo_20 : decode cX11_undo 20 = .ok (.dup, 1) := by decide +kernel
theorem dX11_undo_21 : decode cX11_undo 21 = .ok (.getfield 408, 3) := by decide +kernel
theorem dX11_undo_24 : decode cX11_undo 24 = .ok (.iconst 1, 1) := by decide +kernel
theorem dX11_undo_25 : decode cX11_undo 25 = .ok (.iadd, 1) := by decide +kernel
theorem dX11_undo_26 : decode cX11_undo 26 = .ok (.putfield 408, 3) := by decide +kernel
theorem dX11_undo_29 : decode cX11_undo 29 = .ok (.aload_n 0, 1) := by decide +kernel
theorem dX11_undo_30 : decode cX11_undo 30 = .ok (.bipush 39, 2) := by decide +kernel
theorem dX11_undo_32 : decode cX11_undo 32 = .ok (.aload_n 0, 1) := by decide +kernel
theorem dX11_undo_33 : decode cX11_undo 33 = .ok (.getfield 405, 3) := by decide +kernel
theorem dX11_undo_36 : decode cX11_undo 36 = .ok (.imul, 1) := by decide +kernel
theorem dX11_undo_37 : decode cX11_undo 37 = .ok (.invokevirtual 467, 3) := by decide +kernel
theorem dX11_undo_40 : decode cX11_undo 40 = .ok (.iconst 1, 1) := by decide +kernel
theorem dX11_undo_41 : decode cX11_undo 41 = .ok (.ireturn, 1) := by decide +kernel
theorem dX11_unit_0 : decode cX11_unit 0 = .ok (.iconst 1, 1) := by decide +kernel
theorem dX11_unit_1 : decode cX11_unit 1 = .ok (.istore_n 1, 1) := by decide +kernel
theorem dX11_unit_2 : decode cX11_unit 2 = .ok (.iload_n 1, 1) := by decide +kernel
theorem dX11_unit_3 : decode cX11_unit 3 = .ok (.ifCond .eq 98, 3) := by decide +kernel
theorem dX11_unit_6 : decode cX11_unit 6 = .ok (.aload_n 0, 1) := by decide +kernel
theorem dX11_unit_7 : decode cX11_unit 7 = .ok (.getfield 179, 3) := by decide +kernel
theorem dX11_unit_10 : decode cX11_unit 10 = .ok (.ifCond .ne 91, 3) := by decide +kernel
theorem dX11_unit_13 : decode cX11_unit 13 = .ok (.aload_n 0, 1) := by decide +kernel
theorem dX11_unit_14 : decode cX11_unit 14 = .ok (.ldc2_w 222, 3) := by decide +kernel
theorem dX11_unit_17 : decode cX11_unit 17 = .ok (.invokevirtual 228, 3) := by decide +kernel
theorem dX11_unit_20 : decode cX11_unit 20 = .ok (.ifCond .eq 33, 3) := by decide +kernel
theorem dX11_unit_23 : decode cX11_unit 23 = .ok (.aload_n 0, 1) := by decide +kernel
theorem dX11_unit_24 : decode cX11_unit 24 = .ok (.invokevirtual 275, 3) := by decide +kernel
theorem dX11_unit_27 : decode cX11_unit 27 = .ok (.ifCond .eq 26, 3) := by decide +kernel
theorem dX11_unit_30 : decode cX11_unit 30 = .ok (.aload_n 0, 1) := by decide +kernel
theorem dX11_unit_31 : decode cX11_unit 31 = .ok (.getfield 266, 3) := by decide +kernel
theorem dX11_unit_34 : decode cX11_unit 34 = .ok (.bipush 6, 2) := by decide +kernel
theorem dX11_unit_36 : decode cX11_unit 36 = .ok (.if_icmp .le 8, 3) := by decide +kernel
theorem dX11_unit_39 : decode cX11_unit 39 = .ok (.aload_n 0, 1) := by decide +kernel
theorem dX11_unit_40 : decode cX11_unit 40 = .ok (.iconst 2, 1) := by decide +kernel
theorem dX11_unit_41 : decode cX11_unit 41 = .ok (.invokevirtual 232, 3) := by decide +kernel
theorem dX11_unit_44 : decode cX11_unit 44 = .ok (.aload_n 0, 1) := by decide +kernel
theorem dX11_unit_45 : decode cX11_unit 45 = .ok (.bipush 21, 2) := by decide +kernel
theorem dX11_unit_47 : decode cX11_unit 47 = .ok (.invokevirtual 278, 3) := by decide +kernel
theorem dX11_unit_50 : decode cX11_unit 50 = .ok (.goto (-48), 3) := by decide +kernel
theorem dX11_unit_53 : decode cX11_unit 53 = .ok (.aload_n 0, 1) := by decide +kernel
theorem dX11_unit_54 : decode cX11_unit 54 = .ok (.getfield 166, 3) := by decide +kernel
theorem dX11_unit_57 : decode cX11_unit 57 = .ok (.bipush 40, 2) := by decide +kernel
theorem dX11_unit_59 : decode cX11_unit 59 = .ok (.if_icmp .ne 37, 3) := by decide +kernel
theorem dX11_unit_62 : decode cX11_unit 62 = .ok (.aload_n 0, 1) := by decide +kernel
theorem dX11_unit_63 : decode cX11_unit 63 = .ok (.invokevirtual 281, 3) := by decide +kernel
theorem dX11_unit_66 : decode cX11_unit 66 = .ok (.ifCond .ne 12, 3) := by decide +kernel
theorem dX11_unit_69 : decode cX11_unit 69 = .ok (.aload_n 0, 1) := by decide +kernel
theorem dX11_unit_70 : decode cX11_unit 70 = .ok (.getfield 266, 3) := by decide +kernel
theorem dX11_unit_73 : decode cX11_unit 73 = .ok (.bipush 6, 2) := by decide +kernel
theorem dX11_unit_75 : decode cX11_unit 75 = .ok (.if_icmp .le 8, 3) := by decide +kernel
theorem dX11_unit_78 : decode cX11_unit 78 = .ok (.aload_n 0, 1) := by decide +kernel
theorem dX11_unit_79 : decode cX11_unit 79 = .ok (.iconst 2, 1) := by decide +kernel
theorem dX11_unit_80 : decode cX11_unit 80 = .ok (.invokevirtual 232, 3) := by decide +kernel
theorem dX11_unit_83 : decode cX11_unit 83 = .ok (.aload_n 0, 1) := by decide +kernel
theorem dX11_unit_84 : decode cX11_unit 84 = .ok (.invokevirtual 284, 3) := by decide +kernel
theorem dX11_unit_87 : decode cX11_unit 87 = .ok (.aload_n 0, 1) := by decide +kernel
theorem dX11_unit_88 : decode cX11_unit 88 = .ok (.bipush 20, 2) := by decide +kernel
theorem dX11_unit_90 : decode cX11_unit 90 = .ok (.invokevirtual 278, 3) := by decide +kernel
theorem dX11_unit_93 : decode cX11_unit 93 = .ok (.goto (-91), 3) := by decide +kernel
theorem dX11_unit_96 : decode cX11_unit 96 = .ok (.iconst 0, 1) := by decide +kernel
theorem dX11_unit_97 : decode cX11_unit 97 = .ok (.istore_n 1, 1) := by decide +kernel
theorem dX11_unit_98 : decode cX11_unit 98 = .ok (.goto (-96), 3) := by decide +kernel
theorem dX11_unit_101 : decode cX11_unit 101 = .ok (.aload_n 0, 1) := by decide +kernel
theorem dX11_unit_102 : decode cX11_unit 102 = .ok (.getfield 179, 3) := by decide +kernel
theorem dX11_unit_105 : decode cX11_unit 105 = .ok (.ifCond .le 4, 3) := by decide +kernel
theorem dX11_unit_108 : decode cX11_unit 108 = .ok (.return_, 1) := by decide +kernel
theorem dX11_unit_109 : decode cX11_unit 109 = .ok (.aload_n 0, 1) := by decide +kernel
theorem dX11_unit_110 : decode cX11_unit 110 = .ok (.invokevirtual 287, 3) := by decide +kernel
theorem dX11_unit_113 : decode cX11_unit 113 = .ok (.istore_n 2, 1) := by decide +kernel
theorem dX11_unit_114 : decode cX11_unit 114 = .ok (.aload_n 0, 1) := by decide +kernel
theorem dX11_unit_115 : decode cX11_unit 115 = .ok (.getfield 166, 3) := by decide +kernel
theorem dX11_unit_118 : decode cX11_unit 118 = .ok (.iconst 2, 1) := by decide +kernel
theorem dX11_unit_119 : decode cX11_unit 119 = .ok (.if_icmp .eq 7, 3) := by decide +kernel
theorem dX11_unit_122 : decode cX11_unit 122 = .ok (.iload_n 2, 1) := by decide +kernel
theorem dX11_unit_123 : decode cX11_unit 123 = .ok (.ifCond .lt 10, 3) := by decide +kernel
theorem dX11_unit_126 : decode cX11_unit 126 = .ok (.aload_n 0, 1) := by decide +kernel
theorem dX11_unit_127 : decode cX11_unit 127 = .ok (.invokevirtual 281, 3) := by decide +kernel
theorem dX11_unit_130 : decode cX11_unit 130 = .ok (.ifCond .eq 8, 3) := by decide +kernel
theorem dX11_unit_133 : decode cX11_unit 133 = .ok (.aload_n 0, 1) := by decide +kernel
theorem dX11_unit_134 : decode cX11_unit 134 = .ok (.iconst 2, 1) := by decide +kernel
theorem dX11_unit_135 : decode cX11_unit 135 = .ok (.invokevirtual 232, 3) := by decide +kernel
theorem dX11_unit_138 : decode cX11_unit 138 = .ok (.aload_n 0, 1) := by decide +kernel
theorem dX11_unit_139 : decode cX11_unit 139 = .ok (.getfield 179, 3) := by decide +kernel
theorem dX11_unit_142 : decode cX11_unit 142 = .ok (.ifCond .le 4, 3) := by decide +kernel
theorem dX11_unit_145 : decode cX11_unit 145 = .ok (.return_, 1) := by decide +kernel
theorem dX11_unit_146 : decode cX11_unit 146 = .ok (.aload_n 0, 1) := by decide +kernel
theorem dX11_unit_147 : decode cX11_unit 147 = .ok (.invokevirtual 284, 3) := by decide +kernel
theorem dX11_unit_150 : decode cX11_unit 150 = .ok (.aload_n 0, 1) := by decide +kernel
theorem dX11_unit_151 : decode cX11_unit 151 = .ok (.iload_n 2, 1) := by decide +kernel
theorem dX11_unit_152 : decode cX11_unit 152 = .ok (.ifCond .ge 7, 3) := by decide +kernel
theorem dX11_unit_155 : decode cX11_unit 155 = .ok (.iconst 0, 1) := by decide +kernel
theorem dX11_unit_156 : decode cX11_unit 156 = .ok (.goto 4, 3) := by decide +kernel
theorem dX11_unit_159 : decode cX11_unit 159 = .ok (.iconst 1, 1) := by decide +kernel
theorem dX11_unit_160 : decode cX11_unit 160 = .ok (.iload_n 2, 1) := by decide +kernel
theorem dX11_unit_161 : decode cX11_unit 161 = .ok (.ifCond .ge 10, 3) := by decide +kernel
theorem dX11_unit_164 : decode cX11_unit 164 = .ok (.aload_n 0, 1) := by decide +kernel
theorem dX11_unit_165 : decode cX11_unit 165 = .ok (.getfield 163, 3) := by decide +kernel
theorem dX11_unit_168 : decode cX11_unit 168 = .ok (.goto 4, 3) := by decide +kernel
theorem dX11_unit_171 : decode cX11_unit 171 = .ok (.iload_n 2, 1) := by decide +kernel
theorem dX11_unit_172 : decode cX11_unit 172 = .ok (.invokevirtual 262, 3) := by decide +kernel
theorem dX11_unit_175 : decode cX11_unit 175 = .ok (.aload_n 0, 1) := by decide +kernel
theorem dX11_unit_176 : decode cX11_unit 176 = .ok (.invokevirtual 235, 3) := by decide +kernel
theorem dX11_unit_179 : decode cX11_unit 179 = .ok (.return_, 1) := by decide +kernel
theorem dX11_untell_0 : decode cX11_untell 0 = .ok (.iload_n 1, 1) := by decide +kernel
theorem dX11_untell_1 : decode cX11_untell 1 = .ok (.iconst 0, 1) := by decide +kernel
theorem dX11_untell_2 : decode cX11_untell 2 = .ok (.aload_n 0, 1) := by decide +kernel
theorem dX11_untell_3 : decode cX11_untell 3 = .ok (.getfield 411, 3) := by decide +kernel
theorem dX11_untell_6 : decode cX11_untell 6 = .ok (.iconst 1, 1) := by decide +kernel
theorem dX11_untell_7 : decode cX11_untell 7 = .ok (.isub, 1) := by decide +kernel
theorem dX11_untell_8 : decode cX11_untell 8 = .ok (.invokestatic 417, 3) := by decide +kernel
theorem dX11_untell_11 : decode cX11_untell 11 = .ok (.ifCond .eq 12, 3) := by decide +kernel
theorem dX11_untell_14 : decode cX11_untell 14 = .ok (.aload_n 0, 1) := by decide +kernel
theorem dX11_untell_15 : decode cX11_untell 15 = .ok (.getfield 120, 3) := by decide +kernel
theorem dX11_untell_18 : decode cX11_untell 18 = .ok (.iload_n 1, 1) := by decide +kernel
theorem dX11_untell_19 : decode cX11_untell 19 = .ok (.iaload, 1) := by decide +kernel
theorem dX11_untell_20 : decode cX11_untell 20 = .ok (.ifCond .lt 5, 3) := by decide +kernel
theorem dX11_untell_23 : decode cX11_untell 23 = .ok (.iconst 0, 1) := by decide +kernel
theorem dX11_untell_24 : decode cX11_untell 24 = .ok (.ireturn, 1) := by decide +kernel
theorem dX11_untell_25 : decode cX11_untell 25 = .ok (.aload_n 0, 1) := by decide +kernel
theorem dX11_untell_26 : decode cX11_untell 26 = .ok (.getfield 120, 3) := by decide +kernel
theorem dX11_untell_29 : decode cX11_untell 29 = .ok (.iload_n 1, 1) := by decide +kernel
theorem dX11_untell_30 : decode cX11_untell 30 = .ok (.aload_n 0, 1) := by decide +kernel
theorem dX11_untell_31 : decode cX11_untell 31 = .ok (.getfield 527, 3) := by decide +kernel
theorem dX11_untell_34 : decode cX11_untell 34 = .ok (.iastore, 1) := by decide +kernel
theorem dX11_untell_35 : decode cX11_untell 35 = .ok (.iconst 1, 1) := by decide +kernel
theorem dX11_untell_36 : decode cX11_untell 36 = .ok (.ireturn, 1) := by decide +kernel
theorem dX11_want_0 : decode cX11_want 0 = .ok (.aload_n 0, 1) := by decide +kernel
theorem dX11_want_1 : decode cX11_want 1 = .ok (.getfield 179, 3) := by decide +kernel
theorem dX11_want_4 : decode cX11_want 4 = .ok (.ifCond .le 4, 3) := by decide +kernel
theorem dX11_want_7 : decode cX11_want 7 = .ok (.return_, 1) := by decide +kernel
theorem dX11_want_8 : decode cX11_want 8 = .ok (.aload_n 0, 1) := by decide +kernel
theorem dX11_want_9 : decode cX11_want 9 = .ok (.lload_n 1, 1) := by decide +kernel
theorem dX11_want_10 : decode cX11_want 10 = .ok (.invokevirtual 228, 3) := by decide +kernel
theorem dX11_want_13 : decode cX11_want 13 = .ok (.ifCond .ne 11, 3) := by decide +kernel
theorem dX11_want_16 : decode cX11_want 16 = .ok (.aload_n 0, 1) := by decide +kernel
theorem dX11_want_17 : decode cX11_want 17 = .ok (.iconst 2, 1) := by decide +kernel
theorem dX11_want_18 : decode cX11_want 18 = .ok (.invokevirtual 232, 3) := by decide +kernel
theorem dX11_want_21 : decode cX11_want 21 = .ok (.goto 7, 3) := by decide +kernel
theorem dX11_want_24 : decode cX11_want 24 = .ok (.aload_n 0, 1) := by decide +kernel
theorem dX11_want_25 : decode cX11_want 25 = .ok (.invokevirtual 235, 3) := by decide +kernel
theorem dX11_want_28 : decode cX11_want 28 = .ok (.return_, 1) := by decide +kernel
theorem dX11_wearer_0 : decode cX11_wearer 0 = .ok (.iconst (-1), 1) := by decide +kernel
theorem dX11_wearer_1 : decode cX11_wearer 1 = .ok (.istore_n 2, 1) := by decide +kernel
theorem dX11_wearer_2 : decode cX11_wearer 2 = .ok (.iconst 0, 1) := by decide +kernel
theorem dX11_wearer_3 : decode cX11_wearer 3 = .ok (.istore_n 3, 1) := by decide +kernel
theorem dX11_wearer_4 : decode cX11_wearer 4 = .ok (.iload_n 3, 1) := by decide +kernel
theorem dX11_wearer_5 : decode cX11_wearer 5 = .ok (.aload_n 0, 1) := by decide +kernel
theorem dX11_wearer_6 : decode cX11_wearer 6 = .ok (.getfield 387, 3) := by decide +kernel
theorem dX11_wearer_9 : decode cX11_wearer 9 = .ok (.if_icmp .ge 28, 3) := by decide +kernel
theorem dX11_wearer_12 : decode cX11_wearer 12 = .ok (.aload_n 0, 1) := by decide +kernel
theorem dX11_wearer_13 : decode cX11_wearer 13 = .ok (.getfield 96, 3) := by decide +kernel
theorem dX11_wearer_16 : decode cX11_wearer 16 = .ok (.bipush 6, 2) := by decide +kernel
theorem dX11_wearer_18 : decode cX11_wearer 18 = .ok (.iload_n 3, 1) := by decide +kernel
theorem dX11_wearer_19 : decode cX11_wearer 19 = .ok (.iadd, 1) := by decide +kernel
theorem dX11_wearer_20 : decode cX11_wearer 20 = .ok (.iaload, 1) := by decide +kernel
theorem dX11_wearer_21 : decode cX11_wearer 21 = .ok (.iload_n 1, 1) := by decide +kernel
theorem dX11_wearer_22 : decode cX11_wearer 22 = .ok (.if_icmp .ne 7, 3) := by decide +kernel
theorem dX11_wearer_25 : decode cX11_wearer 25 = .ok (.iload_n 3, 1) := by decide +kernel
theorem dX11_wearer_26 : decode cX11_wearer 26 = .ok (.goto 4, 3) := by decide +kernel
theorem dX11_wearer_29 : decode cX11_wearer 29 = .ok (.iload_n 2, 1) := by decide +kernel
theorem dX11_wearer_30 : decode cX11_wearer 30 = .ok (.istore_n 2, 1) := by decide +kernel
theorem dX11_wearer_31 : decode cX11_wearer 31 = .ok (.iinc 3 1, 3) := by decide +kernel
theorem dX11_wearer_34 : decode cX11_wearer 34 = .ok (.goto (-30), 3) := by decide +kernel
theorem dX11_wearer_37 : decode cX11_wearer 37 = .ok (.iload_n 2, 1) := by decide +kernel
theorem dX11_wearer_38 : decode cX11_wearer 38 = .ok (.ireturn, 1) := by decide +kernel
theorem dX11_wearers_0 : decode cX11_wearers 0 = .ok (.iconst 0, 1) := by decide +kernel
theorem dX11_wearers_1 : decode cX11_wearers 1 = .ok (.istore_n 1, 1) := by decide +kernel
theorem dX11_wearers_2 : decode cX11_wearers 2 = .ok (.iconst 0, 1) := by decide +kernel
theorem dX11_wearers_3 : decode cX11_wearers 3 = .ok (.istore_n 2, 1) := by decide +kernel
theorem dX11_wearers_4 : decode cX11_wearers 4 = .ok (.iload_n 2, 1) := by decide +kernel
theorem dX11_wearers_5 : decode cX11_wearers 5 = .ok (.aload_n 0, 1) := by decide +kernel
theorem dX11_wearers_6 : decode cX11_wearers 6 = .ok (.getfield 387, 3) := by decide +kernel
theorem dX11_wearers_9 : decode cX11_wearers 9 = .ok (.if_icmp .ge 34, 3) := by decide +kernel
theorem dX11_wearers_12 : decode cX11_wearers 12 = .ok (.iload_n 1, 1) := by decide +kernel
theorem dX11_wearers_13 : decode cX11_wearers 13 = .ok (.aload_n 0, 1) := by decide +kernel
theorem dX11_wearers_14 : decode cX11_wearers 14 = .ok (.getfield 96, 3) := by decide +kernel
theorem dX11_wearers_17 : decode cX11_wearers 17 = .ok (.bipush 6, 2) := by decide +kernel
theorem dX11_wearers_19 : decode cX11_wearers 19 = .ok (.iload_n 2, 1) := by decide +kernel
theorem dX11_wearers_20 : decode cX11_wearers 20 = .ok (.iadd, 1) := by decide +kernel
theorem dX11_wearers_21 : decode cX11_wearers 21 = .ok (.iaload, 1) := by decide +kernel
theorem dX11_wearers_22 : decode cX11_wearers 22 = .ok (.ifCond .lt 7, 3) := by decide +kernel
theorem dX11_wearers_25 : decode cX11_wearers 25 = .ok (.iconst 1, 1) := by decide +kernel
theorem dX11_wearers_26 : decode cX11_wearers 26 = .ok (.goto 4, 3) := by decide +kernel
theorem dX11_wearers_29 : decode cX11_wearers 29 = .ok (.iconst 0, 1) := by decide +kernel
theorem dX11_wearers_30 : decode cX11_wearers 30 = .ok (.invokestatic 310, 3) := by decide +kernel
theorem dX11_wearers_33 : decode cX11_wearers 33 = .ok (.iload_n 2, 1) := by decide +kernel
theorem dX11_wearers_34 : decode cX11_wearers 34 = .ok (.ishl, 1) := by decide +kernel
theorem dX11_wearers_35 : decode cX11_wearers 35 = .ok (.ior, 1) := by decide +kernel
theorem dX11_wearers_36 : decode cX11_wearers 36 = .ok (.istore_n 1, 1) := by decide +kernel
theorem dX11_wearers_37 : decode cX11_wearers 37 = .ok (.iinc 2 1, 3) := by decide +kernel
theorem dX11_wearers_40 : decode cX11_wearers 40 = .ok (.goto (-36), 3) := by decide +kernel
theorem dX11_wearers_43 : decode cX11_wearers 43 = .ok (.iload_n 1, 1) := by decide +kernel
theorem dX11_wearers_44 : decode cX11_wearers 44 = .ok (.ireturn, 1) := by decide +kernel
theorem dX11_wideOf_0 : decode cX11_wideOf 0 = .ok (.iconst 0, 1) := by decide +kernel
theorem dX11_wideOf_1 : decode cX11_wideOf 1 = .ok (.istore_n 2, 1) := by decide +kernel
theorem dX11_wideOf_2 : decode cX11_wideOf 2 = .ok (.iconst 0, 1) := by decide +kernel
theorem dX11_wideOf_3 : decode cX11_wideOf 3 = .ok (.istore_n 3, 1) := by decide +kernel
theorem dX11_wideOf_4 : decode cX11_wideOf 4 = .ok (.iload_n 3, 1) := by decide +kernel
theorem dX11_wideOf_5 : decode cX11_wideOf 5 = .ok (.aload_n 0, 1) := by decide +kernel
theorem dX11_wideOf_6 : decode cX11_wideOf 6 = .ok (.getfield 387, 3) := by decide +kernel
theorem dX11_wideOf_9 : decode cX11_wideOf 9 = .ok (.if_icmp .ge 42, 3) := by decide +kernel
theorem dX11_wideOf_12 : decode cX11_wideOf 12 = .ok (.iload_n 2, 1) := by decide +kernel
theorem dX11_wideOf_13 : decode cX11_wideOf 13 = .ok (.iload_n 1, 1) := by decide +kernel
theorem dX11_wideOf_14 : decode cX11_wideOf 14 = .ok (.iload_n 3, 1) := by decide +kernel
theorem dX11_wideOf_15 : decode cX11_wideOf 15 = .ok (.ishr, 1) := by decide +kernel
theorem dX11_wideOf_16 : decode cX11_wideOf 16 = .ok (.iconst 1, 1) := by decide +kernel
theorem dX11_wideOf_17 : decode cX11_wideOf 17 = .ok (.iand, 1) := by decide +kernel
theorem dX11_wideOf_18 : decode cX11_wideOf 18 = .ok (.iconst 1, 1) := by decide +kernel
theorem dX11_wideOf_19 : decode cX11_wideOf 19 = .ok (.if_icmp .ne 23, 3) := by decide +kernel
theorem dX11_wideOf_22 : decode cX11_wideOf 22 = .ok (.aload_n 0, 1) := by decide +kernel
theorem dX11_wideOf_23 : decode cX11_wideOf 23 = .ok (.getfield 96, 3) := by decide +kernel
theorem dX11_wideOf_26 : decode cX11_wideOf 26 = .ok (.bipush 18, 2) := by decide +kernel
theorem dX11_wideOf_28 : decode cX11_wideOf 28 = .ok (.aload_n 0, 1) := by decide +kernel
theorem dX11_wideOf_29 : decode cX11_wideOf 29 = .ok (.getfield 96, 3) := by decide +kernel
theorem dX11_wideOf_32 : decode cX11_wideOf 32 = .ok (.bipush 6, 2) := by decide +kernel
theorem dX11_wideOf_34 : decode cX11_wideOf 34 = .ok (.iload_n 3, 1) := by decide +kernel
theorem dX11_wideOf_35 : decode cX11_wideOf 35 = .ok (.iadd, 1) := by decide +kernel
theorem dX11_wideOf_36 : decode cX11_wideOf 36 = .ok (.iaload, 1) := by decide +kernel
theorem dX11_wideOf_37 : decode cX11_wideOf 37 = .ok (.iadd, 1) := by decide +kernel
theorem dX11_wideOf_38 : decode cX11_wideOf 38 = .ok (.iaload, 1) := by decide +kernel
theorem dX11_wideOf_39 : decode cX11_wideOf 39 = .ok (.goto 4, 3) := by decide +kernel
theorem dX11_wideOf_42 : decode cX11_wideOf 42 = .ok (.iconst 0, 1) := by decide +kernel
theorem dX11_wideOf_43 : decode cX11_wideOf 43 = .ok (.iadd, 1) := by decide +kernel
theorem dX11_wideOf_44 : decode cX11_wideOf 44 = .ok (.istore_n 2, 1) := by decide +kernel
theorem dX11_wideOf_45 : decode cX11_wideOf 45 = .ok (.iinc 3 1, 3) := by decide +kernel
theorem dX11_wideOf_48 : decode cX11_wideOf 48 = .ok (.goto (-44), 3) := by decide +kernel
theorem dX11_wideOf_51 : decode cX11_wideOf 51 = .ok (.iload_n 2, 1) := by decide +kernel
theorem dX11_wideOf_52 : decode cX11_wideOf 52 = .ok (.ireturn, 1) := by decide +kernel
theorem dX11_will_0 : decode cX11_will 0 = .ok (.aload_n 0, 1) := by decide +kernel
theorem dX11_will_1 : decode cX11_will 1 = .ok (.iload_n 1, 1) := by decide +kernel
theorem dX11_will_2 : decode cX11_will 2 = .ok (.invokevirtual 446, 3) := by decide +kernel
theorem dX11_will_5 : decode cX11_will 5 = .ok (.ifCond .eq 22, 3) := by decide +kernel
theorem dX11_will_8 : decode cX11_will 8 = .ok (.iload_n 2, 1) := by decide +kernel
theorem dX11_will_9 : decode cX11_will 9 = .ok (.iconst 0, 1) := by decide +kernel
theorem dX11_will_10 : decode cX11_will 10 = .ok (.bipush 60, 2) := by decide +kernel
theorem dX11_will_12 : decode cX11_will 12 = .ok (.invokestatic 417, 3) := by decide +kernel
theorem dX11_will_15 : decode cX11_will 15 = .ok (.ifCond .eq 12, 3) := by decide +kernel
theorem dX11_will_18 : decode cX11_will 18 = .ok (.iload_n 3, 1) := by decide +kernel
theorem dX11_will_19 : decode cX11_will 19 = .ok (.iconst 0, 1) := by decide +kernel
theorem dX11_will_20 : decode cX11_will 20 = .ok (.iconst 1, 1) := by decide +kernel
theorem dX11_will_21 : decode cX11_will 21 = .ok (.invokestatic 417, 3) := by decide +kernel
theorem dX11_will_24 : decode cX11_will 24 = .ok (.ifCond .ne 6, 3) := by decide +kernel
theorem dX11_will_27 : decode cX11_will 27 = .ok (.bipush (-2), 2) := by decide +kernel
theorem dX11_will_29 : decode cX11_will 29 = .ok (.ireturn, 1) := by decide +kernel
theorem dX11_will_30 : decode cX11_will 30 = .ok (.aload_n 0, 1) := by decide +kernel
theorem dX11_will_31 : decode cX11_will 31 = .ok (.invokevirtual 449, 3) := by decide +kernel
theorem dX11_will_34 : decode cX11_will 34 = .ok (.iconst 0, 1) := by decide +kernel
theorem dX11_will_35 : decode cX11_will 35 = .ok (.istore 4, 2) := by decide +kernel
theorem dX11_will_37 : decode cX11_will 37 = .ok (.iload 4, 2) := by decide +kernel
theorem dX11_will_39 : decode cX11_will 39 = .ok (.iload_n 2, 1) := by decide +kernel
theorem dX11_will_40 : decode cX11_will 40 = .ok (.if_icmp .ge 31, 3) := by decide +kernel
theorem dX11_will_43 : decode cX11_will 43 = .ok (.aload_n 0, 1) := by decide +kernel
theorem dX11_will_44 : decode cX11_will 44 = .ok (.iload_n 3, 1) := by decide +kernel
theorem dX11_will_45 : decode cX11_will 45 = .ok (.iconst 1, 1) := by decide +kernel
theorem dX11_will_46 : decode cX11_will 46 = .ok (.if_icmp .ne 14, 3) := by decide +kernel
theorem dX11_will_49 : decode cX11_will 49 = .ok (.aload_n 0, 1) := by decide +kernel
theorem dX11_will_50 : decode cX11_will 50 = .ok (.invokevirtual 461, 3) := by decide +kernel
theorem dX11_will_53 : decode cX11_will 53 = .ok (.ifCond .eq 7, 3) := by decide +kernel
theorem dX11_will_56 : decode cX11_will 56 = .ok (.iconst 1, 1) := by decide +kernel
theorem dX11_will_57 : decode cX11_will 57 = .ok (.goto 4, 3) := by decide +kernel
theorem dX11_will_60 : decode cX11_will 60 = .ok (.iconst 0, 1) := by decide +kernel
theorem dX11_will_61 : decode cX11_will 61 = .ok (.invokevirtual 464, 3) := by decide +kernel
theorem dX11_will_64 : decode cX11_will 64 = .ok (.pop, 1) := by decide +kernel
theorem dX11_will_65 : decode cX11_will 65 = .ok (.iinc 4 1, 3) := by decide +kernel
theorem dX11_will_68 : decode cX11_will 68 = .ok (.goto (-31), 3) := by decide +kernel
theorem dX11_will_71 : decode cX11_will 71 = .ok (.aload_n 0, 1) := by decide +kernel
theorem dX11_will_72 : decode cX11_will 72 = .ok (.getfield 96, 3) := by decide +kernel
theorem dX11_will_75 : decode cX11_will 75 = .ok (.bipush 6, 2) := by decide +kernel
theorem dX11_will_77 : decode cX11_will 77 = .ok (.iload_n 1, 1) := by decide +kernel
theorem dX11_will_78 : decode cX11_will 78 = .ok (.iadd, 1) := by decide +kernel
theorem dX11_will_79 : decode cX11_will 79 = .ok (.iaload, 1) := by decide +kernel
theorem dX11_will_80 : decode cX11_will 80 = .ok (.ireturn, 1) := by decide +kernel
theorem dX11_wings_0 : decode cX11_wings 0 = .ok (.iload_n 1, 1) := by decide +kernel
theorem dX11_wings_1 : decode cX11_wings 1 = .ok (.iconst 0, 1) := by decide +kernel
theorem dX11_wings_2 : decode cX11_wings 2 = .ok (.iconst 1, 1) := by decide +kernel
theorem dX11_wings_3 : decode cX11_wings 3 = .ok (.invokestatic 417, 3) := by decide +kernel
theorem dX11_wings_6 : decode cX11_wings 6 = .ok (.ifCond .ne 5, 3) := by decide +kernel
theorem dX11_wings_9 : decode cX11_wings 9 = .ok (.iconst (-1), 1) := by decide +kernel
theorem dX11_wings_10 : decode cX11_wings 10 = .ok (.ireturn, 1) := by decide +kernel
theorem dX11_wings_11 : decode cX11_wings 11 = .ok (.aload_n 0, 1) := by decide +kernel
theorem dX11_wings_12 : decode cX11_wings 12 = .ok (.invokevirtual 449, 3) := by decide +kernel
theorem dX11_wings_15 : decode cX11_wings 15 = .ok (.aload_n 0, 1) := by decide +kernel
theorem dX11_wings_16 : decode cX11_wings 16 = .ok (.invokevirtual 440, 3) := by decide +kernel
theorem dX11_wings_19 : decode cX11_wings 19 = .ok (.istore_n 2, 1) := by decide +kernel
theorem dX11_wings_20 : decode cX11_wings 20 = .ok (.iconst 0, 1) := by decide +kernel
theorem dX11_wings_21 : decode cX11_wings 21 = .ok (.istore_n 3, 1) := by decide +kernel
theorem dX11_wings_22 : decode cX11_wings 22 = .ok (.iconst 5, 1) := by decide +kernel
theorem dX11_wings_23 : decode cX11_wings 23 = .ok (.istore 4, 2) := by decide +kernel
theorem dX11_wings_25 : decode cX11_wings 25 = .ok (.iload 4, 2) := by decide +kernel
theorem dX11_wings_27 : decode cX11_wings 27 = .ok (.ifCond .lt 28, 3) := by decide +kernel
theorem dX11_wings_30 : decode cX11_wings 30 = .ok (.iload_n 2, 1) := by decide +kernel
theorem dX11_wings_31 : decode cX11_wings 31 = .ok (.iload 4, 2) := by decide +kernel
theorem dX11_wings_33 : decode cX11_wings 33 = .ok (.ishr, 1) := by decide +kernel
theorem dX11_wings_34 : decode cX11_wings 34 = .ok (.iconst 1, 1) := by decide +kernel
theorem dX11_wings_35 : decode cX11_wings 35 = .ok (.iand, 1) := by decide +kernel
theorem dX11_wings_36 : decode cX11_wings 36 = .ok (.iconst 1, 1) := by decide +kernel
theorem dX11_wings_37 : decode cX11_wings 37 = .ok (.if_icmp .ne 10, 3) := by decide +kernel
theorem dX11_wings_40 : decode cX11_wings 40 = .ok (.iconst 1, 1) := by decide +kernel
theorem dX11_wings_41 : decode cX11_wings 41 = .ok (.iload 4, 2) := by decide +kernel
theorem dX11_wings_43 : decode cX11_wings 43 = .ok (.ishl, 1) := by decide +kernel
theorem dX11_wings_44 : decode cX11_wings 44 = .ok (.goto 4, 3) := by decide +kernel
theorem dX11_wings_47 : decode cX11_wings 47 = .ok (.iload_n 3, 1) := by decide +kernel
theorem dX11_wings_48 : decode cX11_wings 48 = .ok (.istore_n 3, 1) := by decide +kernel
theorem dX11_wings_49 : decode cX11_wings 49 = .ok (.iinc 4 (-1), 3) := by decide +kernel
theorem dX11_wings_52 : decode cX11_wings 52 = .ok (.goto (-27), 3) := by decide +kernel
theorem dX11_wings_55 : decode cX11_wings 55 = .ok (.iload_n 2, 1) := by decide +kernel
theorem dX11_wings_56 : decode cX11_wings 56 = .ok (.istore 4, 2) := by decide +kernel
theorem dX11_wings_58 : decode cX11_wings 58 = .ok (.aload_n 0, 1) := by decide +kernel
theorem dX11_wings_59 : decode cX11_wings 59 = .ok (.iload_n 2, 1) := by decide +kernel
theorem dX11_wings_60 : decode cX11_wings 60 = .ok (.invokevirtual 492, 3) := by decide +kernel
theorem dX11_wings_63 : decode cX11_wings 63 = .ok (.istore 5, 2) := by decide +kernel
theorem dX11_wings_65 : decode cX11_wings 65 = .ok (.iconst 0, 1) := by decide +kernel
theorem dX11_wings_66 : decode cX11_wings 66 = .ok (.istore 6, 2) := by decide +kernel
theorem dX11_wings_68 : decode cX11_wings 68 = .ok (.iload 6, 2) := by decide +kernel
theorem dX11_wings_70 : decode cX11_wings 70 = .ok (.iload_n 2, 1) := by decide +kernel
theorem dX11_wings_71 : decode cX11_wings 71 = .ok (.if_icmp .gt 83, 3) := by decide +kernel
theorem dX11_wings_74 : decode cX11_wings 74 = .ok (.iload 6, 2) := by decide +kernel
theorem dX11_wings_76 : decode cX11_wings 76 = .ok (.iload_n 2, 1) := by decide +kernel
theorem dX11_wings_77 : decode cX11_wings 77 = .ok (.iconst (-1), 1) := by decide +kernel
theorem dX11_wings_78 : decode cX11_wings 78 = .ok (.ixor, 1) := by decide +kernel
theorem dX11_wings_79 : decode cX11_wings 79 = .ok (.iand, 1) := by decide +kernel
theorem dX11_wings_80 : decode cX11_wings 80 = .ok (.ifCond .ne 68, 3) := by decide +kernel
theorem dX11_wings_83 : decode cX11_wings 83 = .ok (.iload 6, 2) := by decide +kernel
theorem dX11_wings_85 : decode cX11_wings 85 = .ok (.iload_n 3, 1) := by decide +kernel
theorem dX11_wings_86 : decode cX11_wings 86 = .ok (.iand, 1) := by decide +kernel
theorem dX11_wings_87 : decode cX11_wings 87 = .ok (.iload_n 3, 1) := by decide +kernel
theorem dX11_wings_88 : decode cX11_wings 88 = .ok (.if_icmp .eq 6, 3) := by decide +kernel
theorem dX11_wings_91 : decode cX11_wings 91 = .ok (.goto 57, 3) := by decide +kernel
theorem dX11_wings_94 : decode cX11_wings 94 = .ok (.aload_n 0, 1) := by decide +kernel
theorem dX11_wings_95 : decode cX11_wings 95 = .ok (.iload 6, 2) := by decide +kernel
theorem dX11_wings_97 : decode cX11_wings 97 = .ok (.invokevirtual 492, 3) := by decide +kernel
theorem dX11_wings_100 : decode cX11_wings 100 = .ok (.aload_n 0, 1) := by decide +kernel
theorem dX11_wings_101 : decode cX11_wings 101 = .ok (.iload_n 2, 1) := by decide +kernel
theorem dX11_wings_102 : decode cX11_wings 102 = .ok (.iload 6, 2) := by decide +kernel
theorem dX11_wings_104 : decode cX11_wings 104 = .ok (.iconst (-1), 1) := by decide +kernel
theorem dX11_wings_105 : decode cX11_wings 105 = .ok (.ixor, 1) := by decide +kernel
theorem dX11_wings_106 : decode cX11_wings 106 = .ok (.iand, 1) := by decide +kernel
theorem dX11_wings_107 : decode cX11_wings 107 = .ok (.invokevirtual 492, 3) := by decide +kernel
theorem dX11_wings_110 : decode cX11_wings 110 = .ok (.isub, 1) := by decide +kernel
theorem dX11_wings_111 : decode cX11_wings 111 = .ok (.invokestatic 495, 3) := by decide +kernel
theorem dX11_wings_114 : decode cX11_wings 114 = .ok (.istore 7, 2) := by decide +kernel
theorem dX11_wings_116 : decode cX11_wings 116 = .ok (.iload 7, 2) := by decide +kernel
theorem dX11_wings_118 : decode cX11_wings 118 = .ok (.iload 5, 2) := by decide +kernel
theorem dX11_wings_120 : decode cX11_wings 120 = .ok (.if_icmp .gt 28, 3) := by decide +kernel
theorem dX11_wings_123 : decode cX11_wings 123 = .ok (.iload 7, 2) := by decide +kernel
theorem dX11_wings_125 : decode cX11_wings 125 = .ok (.iload 5, 2) := by decide +kernel
theorem dX11_wings_127 : decode cX11_wings 127 = .ok (.if_icmp .ne 13, 3) := by decide +kernel
theorem dX11_wings_130 : decode cX11_wings 130 = .ok (.iload 6, 2) := by decide +kernel
theorem dX11_wings_132 : decode cX11_wings 132 = .ok (.iload 4, 2) := by decide +kernel
theorem dX11_wings_134 : decode cX11_wings 134 = .ok (.if_icmp .lt 6, 3) := by decide +kernel
theorem dX11_wings_137 : decode cX11_wings 137 = .ok (.goto 11, 3) := by decide +kernel
theorem dX11_wings_140 : decode cX11_wings 140 = .ok (.iload 7, 2) := by decide +kernel
theorem dX11_wings_142 : decode cX11_wings 142 = .ok (.istore 5, 2) := by decide +kernel
theorem dX11_wings_144 : decode cX11_wings 144 = .ok (.iload 6, 2) := by decide +kernel
theorem dX11_wings_146 : decode cX11_wings 146 = .ok (.istore 4, 2) := by decide +kernel
theorem dX11_wings_148 : decode cX11_wings 148 = .ok (.iinc 6 1, 3) := by decide +kernel
theorem dX11_wings_151 : decode cX11_wings 151 = .ok (.goto (-83), 3) := by decide +kernel
theorem dX11_wings_154 : decode cX11_wings 154 = .ok (.iload_n 1, 1) := by decide +kernel
theorem dX11_wings_155 : decode cX11_wings 155 = .ok (.ifCond .ne 8, 3) := by decide +kernel
theorem dX11_wings_158 : decode cX11_wings 158 = .ok (.iload 5, 2) := by decide +kernel
theorem dX11_wings_160 : decode cX11_wings 160 = .ok (.goto 5, 3) := by decide +kernel
theorem dX11_wings_163 : decode cX11_wings 163 = .ok (.iload 4, 2) := by decide +kernel
theorem dX11_wings_165 : decode cX11_wings 165 = .ok (.ireturn, 1) := by decide +kernel
theorem dX11_within_0 : decode cX11_within 0 = .ok (.iload_n 0, 1) := by decide +kernel
theorem dX11_within_1 : decode cX11_within 1 = .ok (.ifCond .ge 7, 3) := by decide +kernel
theorem dX11_within_4 : decode cX11_within 4 = .ok (.iconst 0, 1) := by decide +kernel
theorem dX11_within_5 : decode cX11_within 5 = .ok (.goto 13, 3) := by decide +kernel
theorem dX11_within_8 : decode cX11_within 8 = .ok (.iload_n 0, 1) := by decide +kernel
theorem dX11_within_9 : decode cX11_within 9 = .ok (.iload_n 1, 1) := by decide +kernel
theorem dX11_within_10 : decode cX11_within 10 = .ok (.if_icmp .le 7, 3) := by decide +kernel
theorem dX11_within_13 : decode cX11_within 13 = .ok (.iload_n 1, 1) := by decide +kernel
theorem dX11_within_14 : decode cX11_within 14 = .ok (.goto 4, 3) := by decide +kernel
theorem dX11_within_17 : decode cX11_within 17 = .ok (.iload_n 0, 1) := by decide +kernel
theorem dX11_within_18 : decode cX11_within 18 = .ok (.ireturn, 1) := by decide +kernel
theorem dX11_wrong_0 : decode cX11_wrong 0 = .ok (.aload_n 0, 1) := by decide +kernel
theorem dX11_wrong_1 : decode cX11_wrong 1 = .ok (.getfield 179, 3) := by decide +kernel
theorem dX11_wrong_4 : decode cX11_wrong 4 = .ok (.ifCond .le 4, 3) := by decide +kernel
theorem dX11_wrong_7 : decode cX11_wrong 7 = .ok (.return_, 1) := by decide +kernel
theorem dX11_wrong_8 : decode cX11_wrong 8 = .ok (.aload_n 0, 1) := by decide +kernel
theorem dX11_wrong_9 : decode cX11_wrong 9 = .ok (.aload_n 0, 1) := by decide +kernel
theorem dX11_wrong_10 : decode cX11_wrong 10 = .ok (.getfield 166, 3) := by decide +kernel
theorem dX11_wrong_13 : decode cX11_wrong 13 = .ok (.iconst 3, 1) := by decide +kernel
theorem dX11_wrong_14 : decode cX11_wrong 14 = .ok (.if_icmp .ne 7, 3) := by decide +kernel
theorem dX11_wrong_17 : decode cX11_wrong 17 = .ok (.iconst 1, 1) := by decide +kernel
theorem dX11_wrong_18 : decode cX11_wrong 18 = .ok (.goto 4, 3) := by decide +kernel
theorem dX11_wrong_21 : decode cX11_wrong 21 = .ok (.iload_n 1, 1) := by decide +kernel
theorem dX11_wrong_22 : decode cX11_wrong 22 = .ok (.putfield 179, 3) := by decide +kernel
theorem dX11_wrong_25 : decode cX11_wrong 25 = .ok (.aload_n 0, 1) := by decide +kernel
theorem dX11_wrong_26 : decode cX11_wrong 26 = .ok (.aload_n 0, 1) := by decide +kernel
theorem dX11_wrong_27 : decode cX11_wrong 27 = .ok (.getfield 156, 3) := by decide +kernel
theorem dX11_wrong_30 : decode cX11_wrong 30 = .ok (.putfield 13, 3) := by decide +kernel
theorem dX11_wrong_33 : decode cX11_wrong 33 = .ok (.return_, 1) := by decide +kernel
theorem dX1_copy_0 : decode cX1_copy 0 = .ok (.aload_n 1, 1) := by decide +kernel
theorem dX1_copy_1 : decode cX1_copy 1 = .ok (.getfield 11, 3) := by decide +kernel
theorem dX1_copy_4 : decode cX1_copy 4 = .ok (.iconst 0, 1) := by decide +kernel
theorem dX1_copy_5 : decode cX1_copy 5 = .ok (.aload_n 0, 1) := by decide +kernel
theorem dX1_copy_6 : decode cX1_copy 6 = .ok (.getfield 11, 3) := by decide +kernel
theorem dX1_copy_9 : decode cX1_copy 9 = .ok (.iconst 0, 1) := by decide +kernel
theorem dX1_copy_10 : decode cX1_copy 10 = .ok (.bipush 44, 2) := by decide +kernel
theorem dX1_copy_12 : decode cX1_copy 12 = .ok (.invokestatic 35, 3) := by decide +kernel
theorem dX1_copy_15 : decode cX1_copy 15 = .ok (.return_, 1) := by decide +kernel
theorem dX1_fits_0 : decode cX1_fits 0 = .ok (.aload_n 0, 1) := by decide +kernel
theorem dX1_fits_1 : decode cX1_fits 1 = .ok (.getfield 15, 3) := by decide +kernel
theorem dX1_fits_4 : decode cX1_fits 4 = .ok (.iload_n 1, 1) := by decide +kernel
theorem dX1_fits_5 : decode cX1_fits 5 = .ok (.invokevirtual 41, 3) := by decide +kernel
theorem dX1_fits_8 : decode cX1_fits 8 = .ok (.ifCond .eq 34, 3) := by decide +kernel
theorem dX1_fits_11 : decode cX1_fits 11 = .ok (.aload_n 0, 1) := by decide +kernel
theorem dX1_fits_12 : decode cX1_fits 12 = .ok (.getfield 15, 3) := by decide +kernel
theorem dX1_fits_15 : decode cX1_fits 15 = .ok (.iload_n 2, 1) := by decide +kernel
theorem dX1_fits_16 : decode cX1_fits 16 = .ok (.invokevirtual 45, 3) := by decide +kernel
theorem dX1_fits_19 : decode cX1_fits 19 = .ok (.ifCond .eq 23, 3) := by decide +kernel
theorem dX1_fits_22 : decode cX1_fits 22 = .ok (.aload_n 0, 1) := by decide +kernel
theorem dX1_fits_23 : decode cX1_fits 23 = .ok (.iload_n 1, 1) := by decide +kernel
theorem dX1_fits_24 : decode cX1_fits 24 = .ok (.iload_n 2, 1) := by decide +kernel
theorem dX1_fits_25 : decode cX1_fits 25 = .ok (.invokevirtual 75, 3) := by decide +kernel
theorem dX1_fits_28 : decode cX1_fits 28 = .ok (.aload_n 0, 1) := by decide +kernel
theorem dX1_fits_29 : decode cX1_fits 29 = .ok (.getfield 15, 3) := by decide +kernel
theorem dX1_fits_32 : decode cX1_fits 32 = .ok (.getfield 78, 3) := by decide +kernel
theorem dX1_fits_35 : decode cX1_fits 35 = .ok (.if_icmp .gt 7, 3) := by decide +kernel
theorem dX1_fits_38 : decode cX1_fits 38 = .ok (.iconst 1, 1) := by decide +kernel
theorem dX1_fits_39 : decode cX1_fits 39 = .ok (.goto 4, 3) := by decide +kernel
theorem dX1_fits_42 : decode cX1_fits 42 = .ok (.iconst 0, 1) := by decide +kernel
theorem dX1_fits_43 : decode cX1_fits 43 = .ok (.ireturn, 1) := by decide +kernel
theorem dX1_fittedMen_0 : decode cX1_fittedMen 0 = .ok (.iconst 0, 1) := by decide +kernel
theorem dX1_fittedMen_1 : decode cX1_fittedMen 1 = .ok (.istore_n 1, 1) := by decide +kernel
theorem dX1_fittedMen_2 : decode cX1_fittedMen 2 = .ok (.iconst 0, 1) := by decide +kernel
theorem dX1_fittedMen_3 : decode cX1_fittedMen 3 = .ok (.istore_n 2, 1) := by decide +kernel
theorem dX1_fittedMen_4 : decode cX1_fittedMen 4 = .ok (.iload_n 2, 1) := by decide +kernel
theorem dX1_fittedMen_5 : decode cX1_fittedMen 5 = .ok (.aload_n 0, 1) := by decide +kernel
theorem dX1_fittedMen_6 : decode cX1_fittedMen 6 = .ok (.getfield 15, 3) := by decide +kernel
theorem dX1_fittedMen_9 : decode cX1_fittedMen 9 = .ok (.getfield 48, 3) := by decide +kernel
theorem dX1_fittedMen_12 : decode cX1_fittedMen 12 = .ok (.if_icmp .ge 28, 3) := by decide +kernel
theorem dX1_fittedMen_15 : decode cX1_fittedMen 15 = .ok (.aload_n 0, 1) := by decide +kernel
theorem dX1_fittedMen_16 : decode cX1_fittedMen 16 = .ok (.iload_n 2, 1) := by decide +kernel
theorem dX1_fittedMen_17 : decode cX1_fittedMen 17 = .ok (.aload_n 0, 1) := by decide +kernel
theorem dX1_fittedMen_18 : decode cX1_fittedMen 18 = .ok (.iload_n 2, 1) := by decide +kernel
theorem dX1_fittedMen_19 : decode cX1_fittedMen 19 = .ok (.invokevirtual 51, 3) := by decide +kernel
theorem dX1_fittedMen_22 : decode cX1_fittedMen 22 = .ok (.invokevirtual 84, 3) := by decide +kernel
theorem dX1_fittedMen_25 : decode cX1_fittedMen 25 = .ok (.ifCond .eq 9, 3) := by decide +kernel
theorem dX1_fittedMen_28 : decode cX1_fittedMen 28 = .ok (.iload_n 1, 1) := by decide +kernel
theorem dX1_fittedMen_29 : decode cX1_fittedMen 29 = .ok (.iconst 1, 1) := by decide +kernel
theorem dX1_fittedMen_30 : decode cX1_fittedMen 30 = .ok (.iload_n 2, 1) := by decide +kernel
theorem dX1_fittedMen_31 : decode cX1_fittedMen 31 = .ok (.ishl, 1) := by decide +kernel
theorem dX1_fittedMen_32 : decode cX1_fittedMen 32 = .ok (.ior, 1) := by decide +kernel
theorem dX1_fittedMen_33 : decode cX1_fittedMen 33 = .ok (.istore_n 1, 1) := by decide +kernel
theorem dX1_fittedMen_34 : decode cX1_fittedMen 34 = .ok (.iinc 2 1, 3) := by decide +kernel
theorem dX1_fittedMen_37 : decode cX1_fittedMen 37 = .ok (.goto (-33), 3) := by decide +kernel
theorem dX1_fittedMen_40 : decode cX1_fittedMen 40 = .ok (.iload_n 1, 1) := by decide +kernel
theorem dX1_fittedMen_41 : decode cX1_fittedMen 41 = .ok (.ireturn, 1) := by decide +kernel
theorem dX1_fittingCoats_0 : decode cX1_fittingCoats 0 = .ok (.iconst 0, 1) := by decide +kernel
theorem dX1_fittingCoats_1 : decode cX1_fittingCoats 1 = .ok (.istore_n 2, 1) := by decide +kernel
theorem dX1_fittingCoats_2 : decode cX1_fittingCoats 2 = .ok (.iconst 0, 1) := by decide +kernel
theorem dX1_fittingCoats_3 : decode cX1_fittingCoats 3 = .ok (.istore_n 3, 1) := by decide +kernel
theorem dX1_fittingCoats_4 : decode cX1_fittingCoats 4 = .ok (.iload_n 3, 1) := by decide +kernel
theorem dX1_fittingCoats_5 : decode cX1_fittingCoats 5 = .ok (.aload_n 0, 1) := by decide +kernel
theorem dX1_fittingCoats_6 : decode cX1_fittingCoats 6 = .ok (.getfield 15, 3) := by decide +kernel
theorem dX1_fittingCoats_9 : decode cX1_fittingCoats 9 = .ok (.getfield 81, 3) := by decide +kernel
theorem dX1_fittingCoats_12 : decode cX1_fittingCoats 12 = .ok (.if_icmp .ge 24, 3) := by decide +kernel
theorem dX1_fittingCoats_15 : decode cX1_fittingCoats 15 = .ok (.aload_n 0, 1) := by decide +kernel
theorem dX1_fittingCoats_16 : decode cX1_fittingCoats 16 = .ok (.iload_n 1, 1) := by decide +kernel
theorem dX1_fittingCoats_17 : decode cX1_fittingCoats 17 = .ok (.iload_n 3, 1) := by decide +kernel
theorem dX1_fittingCoats_18 : decode cX1_fittingCoats 18 = .ok (.invokevirtual 84, 3) := by decide +kernel
theorem dX1_fittingCoats_21 : decode cX1_fittingCoats 21 = .ok (.ifCond .eq 9, 3) := by decide +kernel
theorem dX1_fittingCoats_24 : decode cX1_fittingCoats 24 = .ok (.iload_n 2, 1) := by decide +kernel
theorem dX1_fittingCoats_25 : decode cX1_fittingCoats 25 = .ok (.iconst 1, 1) := by decide +kernel
theorem dX1_fittingCoats_26 : decode cX1_fittingCoats 26 = .ok (.iload_n 3, 1) := by decide +kernel
theorem dX1_fittingCoats_27 : decode cX1_fittingCoats 27 = .ok (.ishl, 1) := by decide +kernel
theorem dX1_fittingCoats_28 : decode cX1_fittingCoats 28 = .ok (.ior, 1) := by decide +kernel
theorem dX1_fittingCoats_29 : decode cX1_fittingCoats 29 = .ok (.istore_n 2, 1) := by decide +kernel
theorem dX1_fittingCoats_30 : decode cX1_fittingCoats 30 = .ok (.iinc 3 1, 3) := by decide +kernel
theorem dX1_fittingCoats_33 : decode cX1_fittingCoats 33 = .ok (.goto (-29), 3) := by decide +kernel
theorem dX1_fittingCoats_36 : decode cX1_fittingCoats 36 = .ok (.iload_n 2, 1) := by decide +kernel
theorem dX1_fittingCoats_37 : decode cX1_fittingCoats 37 = .ok (.ireturn, 1) := by decide +kernel
theorem dX1_illness_0 : decode cX1_illness 0 = .ok (.aload_n 0, 1) := by decide +kernel
theorem dX1_illness_1 : decode cX1_illness 1 = .ok (.getfield 15, 3) := by decide +kernel
theorem dX1_illness_4 : decode cX1_illness 4 = .ok (.getfield 55, 3) := by decide +kernel
theorem dX1_illness_7 : decode cX1_illness 7 = .ok (.aload_n 0, 1) := by decide +kernel
theorem dX1_illness_8 : decode cX1_illness 8 = .ok (.getfield 15, 3) := by decide +kernel
theorem dX1_illness_11 : decode cX1_illness 11 = .ok (.iconst 0, 1) := by decide +kernel
theorem dX1_illness_12 : decode cX1_illness 12 = .ok (.iload_n 1, 1) := by decide +kernel
theorem dX1_illness_13 : decode cX1_illness 13 = .ok (.invokevirtual 22, 3) := by decide +kernel
theorem dX1_illness_16 : decode cX1_illness 16 = .ok (.aload_n 0, 1) := by decide +kernel
theorem dX1_illness_17 : decode cX1_illness 17 = .ok (.iload_n 1, 1) := by decide +kernel
theorem dX1_illness_18 : decode cX1_illness 18 = .ok (.invokevirtual 59, 3) := by decide +kernel
theorem dX1_illness_21 : decode cX1_illness 21 = .ok (.aload_n 0, 1) := by decide +kernel
theorem dX1_illness_22 : decode cX1_illness 22 = .ok (.iconst 0, 1) := by decide +kernel
theorem dX1_illness_23 : decode cX1_illness 23 = .ok (.iload_n 2, 1) := by decide +kernel
theorem dX1_illness_24 : decode cX1_illness 24 = .ok (.invokevirtual 62, 3) := by decide +kernel
theorem dX1_illness_27 : decode cX1_illness 27 = .ok (.aload_n 0, 1) := by decide +kernel
theorem dX1_illness_28 : decode cX1_illness 28 = .ok (.iconst 1, 1) := by decide +kernel
theorem dX1_illness_29 : decode cX1_illness 29 = .ok (.iload_n 2, 1) := by decide +kernel
theorem dX1_illness_30 : decode cX1_illness 30 = .ok (.invokevirtual 62, 3) := by decide +kernel
theorem dX1_illness_33 : decode cX1_illness 33 = .ok (.aload_n 0, 1) := by decide +kernel
theorem dX1_illness_34 : decode cX1_illness 34 = .ok (.iconst 3, 1) := by decide +kernel
theorem dX1_illness_35 : decode cX1_illness 35 = .ok (.iload_n 2, 1) := by decide +kernel
theorem dX1_illness_36 : decode cX1_illness 36 = .ok (.invokevirtual 62, 3) := by decide +kernel
theorem dX1_illness_39 : decode cX1_illness 39 = .ok (.aload_n 0, 1) := by decide +kernel
theorem dX1_illness_40 : decode cX1_illness 40 = .ok (.invokevirtual 65, 3) := by decide +kernel
theorem dX1_illness_43 : decode cX1_illness 43 = .ok (.invokevirtual 69, 3) := by decide +kernel
theorem dX1_illness_46 : decode cX1_illness 46 = .ok (.ireturn, 1) := by decide +kernel
theorem dX1_init_0 : decode cX1_init 0 = .ok (.aload_n 0, 1) := by decide +kernel
theorem dX1_init_1 : decode cX1_init 1 = .ok (.invokespecial 5, 3) := by decide +kernel
theorem dX1_init_4 : decode cX1_init 4 = .ok (.aload_n 0, 1) := by decide +kernel
theorem dX1_init_5 : decode cX1_init 5 = .ok (.bipush 44, 2) := by decide +kernel
theorem dX1_init_7 : decode cX1_init 7 = .ok (.newarray .int, 2) := by decide +kernel
theorem dX1_init_9 : decode cX1_init 9 = .ok (.putfield 11, 3) := by decide +kernel
theorem dX1_init_12 : decode cX1_init 12 = .ok (.aload_n 0, 1) := by decide +kernel
theorem dX1_init_13 : decode cX1_init 13 = .ok (.aload_n 1, 1) := by decide +kernel
theorem dX1_init_14 : decode cX1_init 14 = .ok (.putfield 15, 3) := by decide +kernel
theorem dX1_init_17 : decode cX1_init 17 = .ok (.aload_n 0, 1) := by decide +kernel
theorem dX1_init_18 : decode cX1_init 18 = .ok (.invokevirtual 19, 3) := by decide +kernel
theorem dX1_init_21 : decode cX1_init 21 = .ok (.return_, 1) := by decide +kernel
theorem dX1_loadFrom_0 : decode cX1_loadFrom 0 = .ok (.iload_n 2, 1) := by decide +kernel
theorem dX1_loadFrom_1 : decode cX1_loadFrom 1 = .ok (.ifCond .lt 27, 3) := by decide +kernel
theorem dX1_loadFrom_4 : decode cX1_loadFrom 4 = .ok (.iload_n 2, 1) := by decide +kernel
theorem dX1_loadFrom_5 : decode cX1_loadFrom 5 = .ok (.aload_n 1, 1) := by decide +kernel
theorem dX1_loadFrom_6 : decode cX1_loadFrom 6 = .ok (.arraylength, 1) := by decide +kernel
theorem dX1_loadFrom_7 : decode cX1_loadFrom 7 = .ok (.bipush 44, 2) := by decide +kernel
theorem dX1_loadFrom_9 : decode cX1_loadFrom 9 = .ok (.idiv, 1) := by decide +kernel
theorem dX1_loadFrom_10 : decode cX1_loadFrom 10 = .ok (.if_icmp .ge 18, 3) := by decide +kernel
theorem dX1_loadFrom_13 : decode cX1_loadFrom 13 = .ok (.aload_n 1, 1) := by decide +kernel
theorem dX1_loadFrom_14 : decode cX1_loadFrom 14 = .ok (.iload_n 2, 1) := by decide +kernel
theorem dX1_loadFrom_15 : decode cX1_loadFrom 15 = .ok (.bipush 44, 2) := by decide +kernel
theorem dX1_loadFrom_17 : decode cX1_loadFrom 17 = .ok (.imul, 1) := by decide +kernel
theorem dX1_loadFrom_18 : decode cX1_loadFrom 18 = .ok (.aload_n 0, 1) := by decide +kernel
theorem dX1_loadFrom_19 : decode cX1_loadFrom 19 = .ok (.getfield 11, 3) := by decide +kernel
theorem dX1_loadFrom_22 : decode cX1_loadFrom 22 = .ok (.iconst 0, 1) := by decide +kernel
theorem dX1_loadFrom_23 : decode cX1_loadFrom 23 = .ok (.bipush 44, 2) := by decide +kernel
theorem dX1_loadFrom_25 : decode cX1_loadFrom 25 = .ok (.invokestatic 35, 3) := by decide +kernel
theorem dX1_loadFrom_28 : decode cX1_loadFrom 28 = .ok (.return_, 1) := by decide +kernel
theorem dX1_manWide_0 : decode cX1_manWide 0 = .ok (.aload_n 0, 1) := by decide +kernel
theorem dX1_manWide_1 : decode cX1_manWide 1 = .ok (.getfield 15, 3) := by decide +kernel
theorem dX1_manWide_4 : decode cX1_manWide 4 = .ok (.iload_n 1, 1) := by decide +kernel
theorem dX1_manWide_5 : decode cX1_manWide 5 = .ok (.invokevirtual 41, 3) := by decide +kernel
theorem dX1_manWide_8 : decode cX1_manWide 8 = .ok (.ifCond .eq 12, 3) := by decide +kernel
theorem dX1_manWide_11 : decode cX1_manWide 11 = .ok (.aload_n 0, 1) := by decide +kernel
theorem dX1_manWide_12 : decode cX1_manWide 12 = .ok (.getfield 11, 3) := by decide +kernel
theorem dX1_manWide_15 : decode cX1_manWide 15 = .ok (.iload_n 1, 1) := by decide +kernel
theorem dX1_manWide_16 : decode cX1_manWide 16 = .ok (.iaload, 1) := by decide +kernel
theorem dX1_manWide_17 : decode cX1_manWide 17 = .ok (.goto 4, 3) := by decide +kernel
theorem dX1_manWide_20 : decode cX1_manWide 20 = .ok (.iconst 0, 1) := by decide +kernel
theorem dX1_manWide_21 : decode cX1_manWide 21 = .ok (.ireturn, 1) := by decide +kernel
theorem dX1_menFitting_0 : decode cX1_menFitting 0 = .ok (.iconst 0, 1) := by decide +kernel
theorem dX1_menFitting_1 : decode cX1_menFitting 1 = .ok (.istore_n 2, 1) := by decide +kernel
theorem dX1_menFitting_2 : decode cX1_menFitting 2 = .ok (.iconst 0, 1) := by decide +kernel
theorem dX1_menFitting_3 : decode cX1_menFitting 3 = .ok (.istore_n 3, 1) := by decide +kernel
theorem dX1_menFitting_4 : decode cX1_menFitting 4 = .ok (.iload_n 3, 1) := by decide +kernel
theorem dX1_menFitting_5 : decode cX1_menFitting 5 = .ok (.aload_n 0, 1) := by decide +kernel
theorem dX1_menFitting_6 : decode cX1_menFitting 6 = .ok (.getfield 15, 3) := by decide +kernel
theorem dX1_menFitting_9 : decode cX1_menFitting 9 = .ok (.getfield 48, 3) := by decide +kernel
theorem dX1_menFitting_12 : decode cX1_menFitting 12 = .ok (.if_icmp .ge 21, 3) := by decide +kernel
theorem dX1_menFitting_15 : decode cX1_menFitting 15 = .ok (.aload_n 0, 1) := by decide +kernel
theorem dX1_menFitting_16 : decode cX1_menFitting 16 = .ok (.iload_n 3, 1) := by decide +kernel
theorem dX1_menFitting_17 : decode cX1_menFitting 17 = .ok (.iload_n 1, 1) := by decide +kernel
theorem dX1_menFitting_18 : decode cX1_menFitting 18 = .ok (.invokevirtual 84, 3) := by decide +kernel
theorem dX1_menFitting_21 : decode cX1_menFitting 21 = .ok (.ifCond .eq 6, 3) := by decide +kernel
theorem dX1_menFitting_24 : decode cX1_menFitting 24 = .ok (.iinc 2 1, 3) := by decide +kernel
theorem dX1_menFitting_27 : decode cX1_menFitting 27 = .ok (.iinc 3 1, 3) := by decide +kernel
theorem dX1_menFitting_30 : decode cX1_menFitting 30 = .ok (.goto (-26), 3) := by decide +kernel
theorem dX1_menFitting_33 : decode cX1_menFitting 33 = .ok (.iload_n 2, 1) := by decide +kernel
theorem dX1_menFitting_34 : decode cX1_menFitting 34 = .ok (.ireturn, 1) := by decide +kernel
theorem dX1_muster_0 : decode cX1_muster 0 = .ok (.iconst 0, 1) := by decide +kernel
theorem dX1_muster_1 : decode cX1_muster 1 = .ok (.istore_n 1, 1) := by decide +kernel
theorem dX1_muster_2 : decode cX1_muster 2 = .ok (.iload_n 1, 1) := by decide +kernel
theorem dX1_muster_3 : decode cX1_muster 3 = .ok (.bipush 6, 2) := by decide +kernel
theorem dX1_muster_5 : decode cX1_muster 5 = .ok (.if_icmp .ge 34, 3) := by decide +kernel
theorem dX1_muster_8 : decode cX1_muster 8 = .ok (.aload_n 0, 1) := by decide +kernel
theorem dX1_muster_9 : decode cX1_muster 9 = .ok (.getfield 11, 3) := by decide +kernel
theorem dX1_muster_12 : decode cX1_muster 12 = .ok (.iload_n 1, 1) := by decide +kernel
theorem dX1_muster_13 : decode cX1_muster 13 = .ok (.aload_n 0, 1) := by decide +kernel
theorem dX1_muster_14 : decode cX1_muster 14 = .ok (.getfield 15, 3) := by decide +kernel
theorem dX1_muster_17 : decode cX1_muster 17 = .ok (.iconst 1, 1) := by decide +kernel
theorem dX1_muster_18 : decode cX1_muster 18 = .ok (.iload_n 1, 1) := by decide +kernel
theorem dX1_muster_19 : decode cX1_muster 19 = .ok (.invokevirtual 22, 3) := by decide +kernel
theorem dX1_muster_22 : decode cX1_muster 22 = .ok (.iastore, 1) := by decide +kernel
theorem dX1_muster_23 : decode cX1_muster 23 = .ok (.aload_n 0, 1) := by decide +kernel
theorem dX1_muster_24 : decode cX1_muster 24 = .ok (.getfield 11, 3) := by decide +kernel
theorem dX1_muster_27 : decode cX1_muster 27 = .ok (.bipush 6, 2) := by decide +kernel
theorem dX1_muster_29 : decode cX1_muster 29 = .ok (.iload_n 1, 1) := by decide +kernel
theorem dX1_muster_30 : decode cX1_muster 30 = .ok (.iadd, 1) := by decide +kernel
theorem dX1_muster_31 : decode cX1_muster 31 = .ok (.iconst (-1), 1) := by decide +kernel
theorem dX1_muster_32 : decode cX1_muster 32 = .ok (.iastore, 1) := by decide +kernel
theorem dX1_muster_33 : decode cX1_muster 33 = .ok (.iinc 1 1, 3) := by decide +kernel
theorem dX1_muster_36 : decode cX1_muster 36 = .ok (.goto (-34), 3) := by decide +kernel
theorem dX1_muster_39 : decode cX1_muster 39 = .ok (.iconst 0, 1) := by decide +kernel
theorem dX1_muster_40 : decode cX1_muster 40 = .ok (.istore_n 1, 1) := by decide +kernel
theorem dX1_muster_41 : decode cX1_muster 41 = .ok (.iload_n 1, 1) := by decide +kernel
theorem dX1_muster_42 : decode cX1_muster 42 = .ok (.bipush 6, 2) := by decide +kernel
theorem dX1_muster_44 : decode cX1_muster 44 = .ok (.if_icmp .ge 45, 3) := by decide +kernel
theorem dX1_muster_47 : decode cX1_muster 47 = .ok (.iconst 0, 1) := by decide +kernel
theorem dX1_muster_48 : decode cX1_muster 48 = .ok (.istore_n 2, 1) := by decide +kernel
theorem dX1_muster_49 : decode cX1_muster 49 = .ok (.iload_n 2, 1) := by decide +kernel
theorem dX1_muster_50 : decode cX1_muster 50 = .ok (.iconst 5, 1) := by decide +kernel
theorem dX1_muster_51 : decode cX1_muster 51 = .ok (.if_icmp .ge 32, 3) := by decide +kernel
theorem dX1_muster_54 : decode cX1_muster 54 = .ok (.aload_n 0, 1) := by decide +kernel
theorem dX1_muster_55 : decode cX1_muster 55 = .ok (.getfield 11, 3) := by decide +kernel
theorem dX1_muster_58 : decode cX1_muster 58 = .ok (.bipush 12, 2) := by decide +kernel
theorem dX1_muster_60 : decode cX1_muster 60 = .ok (.iload_n 2, 1) := by decide +kernel
theorem dX1_muster_61 : decode cX1_muster 61 = .ok (.bipush 6, 2) := by decide +kernel
theorem dX1_muster_63 : decode cX1_muster 63 = .ok (.imul, 1) := by decide +kernel
theorem dX1_muster_64 : decode cX1_muster 64 = .ok (.iadd, 1) := by decide +kernel
theorem dX1_muster_65 : decode cX1_muster 65 = .ok (.iload_n 1, 1) := by decide +kernel
theorem dX1_muster_66 : decode cX1_muster 66 = .ok (.iadd, 1) := by decide +kernel
theorem dX1_muster_67 : decode cX1_muster 67 = .ok (.aload_n 0, 1) := by decide +kernel
theorem dX1_muster_68 : decode cX1_muster 68 = .ok (.getfield 15, 3) := by decide +kernel
theorem dX1_muster_71 : decode cX1_muster 71 = .ok (.iload_n 2, 1) := by decide +kernel
theorem dX1_muster_72 : decode cX1_muster 72 = .ok (.iload_n 1, 1) := by decide +kernel
theorem dX1_muster_73 : decode cX1_muster 73 = .ok (.invokevirtual 28, 3) := by decide +kernel
theorem dX1_muster_76 : decode cX1_muster 76 = .ok (.iastore, 1) := by decide +kernel
theorem dX1_muster_77 : decode cX1_muster 77 = .ok (.iinc 2 1, 3) := by decide +kernel
theorem dX1_muster_80 : decode cX1_muster 80 = .ok (.goto (-31), 3) := by decide +kernel
theorem dX1_muster_83 : decode cX1_muster 83 = .ok (.iinc 1 1, 3) := by decide +kernel
theorem dX1_muster_86 : decode cX1_muster 86 = .ok (.goto (-45), 3) := by decide +kernel
theorem dX1_muster_89 : decode cX1_muster 89 = .ok (.aload_n 0, 1) := by decide +kernel
theorem dX1_muster_90 : decode cX1_muster 90 = .ok (.getfield 11, 3) := by decide +kernel
theorem dX1_muster_93 : decode cX1_muster 93 = .ok (.bipush 42, 2) := by decide +kernel
theorem dX1_muster_95 : decode cX1_muster 95 = .ok (.iconst 0, 1) := by decide +kernel
theorem dX1_muster_96 : decode cX1_muster 96 = .ok (.iastore, 1) := by decide +kernel
theorem dX1_muster_97 : decode cX1_muster 97 = .ok (.aload_n 0, 1) := by decide +kernel
theorem dX1_muster_98 : decode cX1_muster 98 = .ok (.getfield 11, 3) := by decide +kernel
theorem dX1_muster_101 : decode cX1_muster 101 = .ok (.bipush 43, 2) := by decide +kernel
theorem dX1_muster_103 : decode cX1_muster 103 = .ok (.aload_n 0, 1) := by decide +kernel
theorem dX1_muster_104 : decode cX1_muster 104 = .ok (.getfield 15, 3) := by decide +kernel
theorem dX1_muster_107 : decode cX1_muster 107 = .ok (.getfield 31, 3) := by decide +kernel
theorem dX1_muster_110 : decode cX1_muster 110 = .ok (.iastore, 1) := by decide +kernel
theorem dX1_muster_111 : decode cX1_muster 111 = .ok (.return_, 1) := by decide +kernel
theorem dX1_part_0 : decode cX1_part 0 = .ok (.aload_n 0, 1) := by decide +kernel
theorem dX1_part_1 : decode cX1_part 1 = .ok (.getfield 15, 3) := by decide +kernel
theorem dX1_part_4 : decode cX1_part 4 = .ok (.iload_n 2, 1) := by decide +kernel
theorem dX1_part_5 : decode cX1_part 5 = .ok (.invokevirtual 45, 3) := by decide +kernel
theorem dX1_part_8 : decode cX1_part 8 = .ok (.ifCond .eq 16, 3) := by decide +kernel
theorem dX1_part_11 : decode cX1_part 11 = .ok (.iload_n 1, 1) := by decide +kernel
theorem dX1_part_12 : decode cX1_part 12 = .ok (.ifCond .lt 12, 3) := by decide +kernel
theorem dX1_part_15 : decode cX1_part 15 = .ok (.iload_n 1, 1) := by decide +kernel
theorem dX1_part_16 : decode cX1_part 16 = .ok (.iconst 5, 1) := by decide +kernel
theorem dX1_part_17 : decode cX1_part 17 = .ok (.if_icmp .ge 7, 3) := by decide +kernel
theorem dX1_part_20 : decode cX1_part 20 = .ok (.iconst 1, 1) := by decide +kernel
theorem dX1_part_21 : decode cX1_part 21 = .ok (.goto 4, 3) := by decide +kernel
theorem dX1_part_24 : decode cX1_part 24 = .ok (.iconst 0, 1) := by decide +kernel
theorem dX1_part_25 : decode cX1_part 25 = .ok (.istore_n 3, 1) := by decide +kernel
theorem dX1_part_26 : decode cX1_part 26 = .ok (.iload_n 3, 1) := by decide +kernel
theorem dX1_part_27 : decode cX1_part 27 = .ok (.ifCond .eq 20, 3) := by decide +kernel
theorem dX1_part_30 : decode cX1_part 30 = .ok (.aload_n 0, 1) := by decide +kernel
theorem dX1_part_31 : decode cX1_part 31 = .ok (.getfield 11, 3) := by decide +kernel
theorem dX1_part_34 : decode cX1_part 34 = .ok (.bipush 12, 2) := by decide +kernel
theorem dX1_part_36 : decode cX1_part 36 = .ok (.iload_n 1, 1) := by decide +kernel
theorem dX1_part_37 : decode cX1_part 37 = .ok (.bipush 6, 2) := by decide +kernel
theorem dX1_part_39 : decode cX1_part 39 = .ok (.imul, 1) := by decide +kernel
theorem dX1_part_40 : decode cX1_part 40 = .ok (.iadd, 1) := by decide +kernel
theorem dX1_part_41 : decode cX1_part 41 = .ok (.iload_n 2, 1) := by decide +kernel
theorem dX1_part_42 : decode cX1_part 42 = .ok (.iadd, 1) := by decide +kernel
theorem dX1_part_43 : decode cX1_part 43 = .ok (.iaload, 1) := by decide +kernel
theorem dX1_part_44 : decode cX1_part 44 = .ok (.goto 4, 3) := by decide +kernel
theorem dX1_part_47 : decode cX1_part 47 = .ok (.iconst 0, 1) := by decide +kernel
theorem dX1_part_48 : decode cX1_part 48 = .ok (.ireturn, 1) := by decide +kernel
theorem dX1_passDay_0 : decode cX1_passDay 0 = .ok (.iconst 0, 1) := by decide +kernel
theorem dX1_passDay_1 : decode cX1_passDay 1 = .ok (.istore_n 2, 1) := by decide +kernel
theorem dX1_passDay_2 : decode cX1_passDay 2 = .ok (.iload_n 2, 1) := by decide +kernel
theorem dX1_passDay_3 : decode cX1_passDay 3 = .ok (.aload_n 0, 1) := by decide +kernel
theorem dX1_passDay_4 : decode cX1_passDay 4 = .ok (.getfield 15, 3) := by decide +kernel
theorem dX1_passDay_7 : decode cX1_passDay 7 = .ok (.getfield 48, 3) := by decide +kernel
theorem dX1_passDay_10 : decode cX1_passDay 10 = .ok (.if_icmp .ge 36, 3) := by decide +kernel
theorem dX1_passDay_13 : decode cX1_passDay 13 = .ok (.aload_n 0, 1) := by decide +kernel
theorem dX1_passDay_14 : decode cX1_passDay 14 = .ok (.getfield 11, 3) := by decide +kernel
theorem dX1_passDay_17 : decode cX1_passDay 17 = .ok (.iload_n 2, 1) := by decide +kernel
theorem dX1_passDay_18 : decode cX1_passDay 18 = .ok (.bipush 99, 2) := by decide +kernel
theorem dX1_passDay_20 : decode cX1_passDay 20 = .ok (.aload_n 0, 1) := by decide +kernel
theorem dX1_passDay_21 : decode cX1_passDay 21 = .ok (.getfield 11, 3) := by decide +kernel
theorem dX1_passDay_24 : decode cX1_passDay 24 = .ok (.iload_n 2, 1) := by decide +kernel
theorem dX1_passDay_25 : decode cX1_passDay 25 = .ok (.iaload, 1) := by decide +kernel
theorem dX1_passDay_26 : decode cX1_passDay 26 = .ok (.aload_n 0, 1) := by decide +kernel
theorem dX1_passDay_27 : decode cX1_passDay 27 = .ok (.getfield 15, 3) := by decide +kernel
theorem dX1_passDay_30 : decode cX1_passDay 30 = .ok (.iconst 2, 1) := by decide +kernel
theorem dX1_passDay_31 : decode cX1_passDay 31 = .ok (.iload_n 2, 1) := by decide +kernel
theorem dX1_passDay_32 : decode cX1_passDay 32 = .ok (.invokevirtual 22, 3) := by decide +kernel
theorem dX1_passDay_35 : decode cX1_passDay 35 = .ok (.iadd, 1) := by decide +kernel
theorem dX1_passDay_36 : decode cX1_passDay 36 = .ok (.invokestatic 88, 3) := by decide +kernel
theorem dX1_passDay_39 : decode cX1_passDay 39 = .ok (.iastore, 1) := by decide +kernel
theorem dX1_passDay_40 : decode cX1_passDay 40 = .ok (.iinc 2 1, 3) := by decide +kernel
theorem dX1_passDay_43 : decode cX1_passDay 43 = .ok (.goto (-41), 3) := by decide +kernel
theorem dX1_passDay_46 : decode cX1_passDay 46 = .ok (.aload_n 0, 1) := by decide +kernel
theorem dX1_passDay_47 : decode cX1_passDay 47 = .ok (.getfield 11, 3) := by decide +kernel
theorem dX1_passDay_50 : decode cX1_passDay 50 = .ok (.bipush 43, 2) := by decide +kernel
theorem dX1_passDay_52 : decode cX1_passDay 52 = .ok (.aload_n 0, 1) := by decide +kernel
theorem dX1_passDay_53 : decode cX1_passDay 53 = .ok (.getfield 11, 3) := by decide +kernel
theorem dX1_passDay_56 : decode cX1_passDay 56 = .ok (.bipush 43, 2) := by decide +kernel
theorem dX1_passDay_58 : decode cX1_passDay 58 = .ok (.iaload, 1) := by decide +kernel
theorem dX1_passDay_59 : decode cX1_passDay 59 = .ok (.sipush 137, 3) := by decide +kernel
theorem dX1_passDay_62 : decode cX1_passDay 62 = .ok (.imul, 1) := by decide +kernel
theorem dX1_passDay_63 : decode cX1_passDay 63 = .ok (.bipush 71, 2) := by decide +kernel
theorem dX1_passDay_65 : decode cX1_passDay 65 = .ok (.iadd, 1) := by decide +kernel
theorem dX1_passDay_66 : decode cX1_passDay 66 = .ok (.sipush 1000, 3) := by decide +kernel
theorem dX1_passDay_69 : decode cX1_passDay 69 = .ok (.irem, 1) := by decide +kernel
theorem dX1_passDay_70 : decode cX1_passDay 70 = .ok (.iastore, 1) := by decide +kernel
theorem dX1_passDay_71 : decode cX1_passDay 71 = .ok (.aload_n 0, 1) := by decide +kernel
theorem dX1_passDay_72 : decode cX1_passDay 72 = .ok (.getfield 11, 3) := by decide +kernel
theorem dX1_passDay_75 : decode cX1_passDay 75 = .ok (.bipush 43, 2) := by decide +kernel
theorem dX1_passDay_77 : decode cX1_passDay 77 = .ok (.iaload, 1) := by decide +kernel
theorem dX1_passDay_78 : decode cX1_passDay 78 = .ok (.bipush 100, 2) := by decide +kernel
theorem dX1_passDay_80 : decode cX1_passDay 80 = .ok (.irem, 1) := by decide +kernel
theorem dX1_passDay_81 : decode cX1_passDay 81 = .ok (.iload_n 1, 1) := by decide +kernel
theorem dX1_passDay_82 : decode cX1_passDay 82 = .ok (.if_icmp .ge 7, 3) := by decide +kernel
theorem dX1_passDay_85 : decode cX1_passDay 85 = .ok (.iconst 1, 1) := by decide +kernel
theorem dX1_passDay_86 : decode cX1_passDay 86 = .ok (.goto 4, 3) := by decide +kernel
theorem dX1_passDay_89 : decode cX1_passDay 89 = .ok (.iconst 0, 1) := by decide +kernel
theorem dX1_passDay_90 : decode cX1_passDay 90 = .ok (.istore_n 2, 1) := by decide +kernel
theorem dX1_passDay_91 : decode cX1_passDay 91 = .ok (.iconst 0, 1) := by decide +kernel
theorem dX1_passDay_92 : decode cX1_passDay 92 = .ok (.istore_n 3, 1) := by decide +kernel
theorem dX1_passDay_93 : decode cX1_passDay 93 = .ok (.iload_n 3, 1) := by decide +kernel
theorem dX1_passDay_94 : decode cX1_passDay 94 = .ok (.aload_n 0, 1) := by decide +kernel
theorem dX1_passDay_95 : decode cX1_passDay 95 = .ok (.getfield 15, 3) := by decide +kernel
theorem dX1_passDay_98 : decode cX1_passDay 98 = .ok (.getfield 48, 3) := by decide +kernel
theorem dX1_passDay_101 : decode cX1_passDay 101 = .ok (.if_icmp .ge 19, 3) := by decide +kernel
theorem dX1_passDay_104 : decode cX1_passDay 104 = .ok (.aload_n 0, 1) := by decide +kernel
theorem dX1_passDay_105 : decode cX1_passDay 105 = .ok (.aload_n 0, 1) := by decide +kernel
theorem dX1_passDay_106 : decode cX1_passDay 106 = .ok (.iload_n 3, 1) := by decide +kernel
theorem dX1_passDay_107 : decode cX1_passDay 107 = .ok (.invokevirtual 51, 3) := by decide +kernel
theorem dX1_passDay_110 : decode cX1_passDay 110 = .ok (.iload_n 2, 1) := by decide +kernel
theorem dX1_passDay_111 : decode cX1_passDay 111 = .ok (.invokevirtual 93, 3) := by decide +kernel
theorem dX1_passDay_114 : decode cX1_passDay 114 = .ok (.iinc 3 1, 3) := by decide +kernel
theorem dX1_passDay_117 : decode cX1_passDay 117 = .ok (.goto (-24), 3) := by decide +kernel
theorem dX1_passDay_120 : decode cX1_passDay 120 = .ok (.aload_n 0, 1) := by decide +kernel
theorem dX1_passDay_121 : decode cX1_passDay 121 = .ok (.getfield 11, 3) := by decide +kernel
theorem dX1_passDay_124 : decode cX1_passDay 124 = .ok (.bipush 42, 2) := by decide +kernel
theorem dX1_passDay_126 : decode cX1_passDay 126 = .ok (.dup2, 1) := by decide +kernel
theorem dX1_passDay_127 : decode cX1_passDay 127 = .ok (.iaload, 1) := by decide +kernel
theorem dX1_passDay_128 : decode cX1_passDay 128 = .ok (.iconst 1, 1) := by decide +kernel
theorem dX1_passDay_129 : decode cX1_passDay 129 = .ok (.iadd, 1) := by decide +kernel
theorem dX1_passDay_130 : decode cX1_passDay 130 = .ok (.iastore, 1) := by decide +kernel
theorem dX1_passDay_131 : decode cX1_passDay 131 = .ok (.iconst 0, 1) := by decide +kernel
theorem dX1_passDay_132 : decode cX1_passDay 132 = .ok (.istore_n 3, 1) := by decide +kernel
theorem dX1_passDay_133 : decode cX1_passDay 133 = .ok (.iconst 0, 1) := by decide +kernel
theorem dX1_passDay_134 : decode cX1_passDay 134 = .ok (.istore 4, 2) := by decide +kernel
theorem dX1_passDay_136 : decode cX1_passDay 136 = .ok (.iload 4, 2) := by decide +kernel
theorem dX1_passDay_138 : decode cX1_passDay 138 = .ok (.aload_n 0, 1) := by decide +kernel
theorem dX1_passDay_139 : decode cX1_passDay 139 = .ok (.getfield 15, 3) := by decide +kernel
theorem dX1_passDay_142 : decode cX1_passDay 142 = .ok (.getfield 48, 3) := by decide +kernel
theorem dX1_passDay_145 : decode cX1_passDay 145 = .ok (.if_icmp .ge 48, 3) := by decide +kernel
theorem dX1_passDay_148 : decode cX1_passDay 148 = .ok (.aload_n 0, 1) := by decide +kernel
theorem dX1_passDay_149 : decode cX1_passDay 149 = .ok (.iload 4, 2) := by decide +kernel
