theorem dX11_four_39 : decode cX11_four 39 = .ok (.return_, 1) := by decide +kernel
theorem dX11_freeCoats_0 : decode cX11_freeCoats 0 = .ok (.iconst 0, 1) := by decide +kernel
theorem dX11_freeCoats_1 : decode cX11_freeCoats 1 = .ok (.istore_n 1, 1) := by decide +kernel
theorem dX11_freeCoats_2 : decode cX11_freeCoats 2 = .ok (.iconst 0, 1) := by decide +kernel
theorem dX11_freeCoats_3 : decode cX11_freeCoats 3 = .ok (.istore_n 2, 1) := by decide +kernel
theorem dX11_freeCoats_4 : decode cX11_freeCoats 4 = .ok (.iload_n 2, 1) := by decide +kernel
theorem dX11_freeCoats_5 : decode cX11_freeCoats 5 = .ok (.aload_n 0, 1) := by decide +kernel
theorem dX11_freeCoats_6 : decode cX11_freeCoats 6 = .ok (.getfield 390, 3) := by decide +kernel
theorem dX11_freeCoats_9 : decode cX11_freeCoats 9 = .ok (.if_icmp .ge 30, 3) := by decide +kernel
theorem dX11_freeCoats_12 : decode cX11_freeCoats 12 = .ok (.iload_n 1, 1) := by decide +kernel
theorem dX11_freeCoats_13 : decode cX11_freeCoats 13 = .ok (.aload_n 0, 1) := by decide +kernel
theorem dX11_freeCoats_14 : decode cX11_freeCoats 14 = .ok (.iload_n 2, 1) := by decide +kernel
theorem dX11_freeCoats_15 : decode cX11_freeCoats 15 = .ok (.invokevirtual 434, 3) := by decide +kernel
theorem dX11_freeCoats_18 : decode cX11_freeCoats 18 = .ok (.ifCond .ge 7, 3) := by decide +kernel
theorem dX11_freeCoats_21 : decode cX11_freeCoats 21 = .ok (.iconst 1, 1) := by decide +kernel
theorem dX11_freeCoats_22 : decode cX11_freeCoats 22 = .ok (.goto 4, 3) := by decide +kernel
theorem dX11_freeCoats_25 : decode cX11_freeCoats 25 = .ok (.iconst 0, 1) := by decide +kernel
theorem dX11_freeCoats_26 : decode cX11_freeCoats 26 = .ok (.invokestatic 310, 3) := by decide +kernel
theorem dX11_freeCoats_29 : decode cX11_freeCoats 29 = .ok (.iload_n 2, 1) := by decide +kernel
theorem dX11_freeCoats_30 : decode cX11_freeCoats 30 = .ok (.ishl, 1) := by decide +kernel
theorem dX11_freeCoats_31 : decode cX11_freeCoats 31 = .ok (.ior, 1) := by decide +kernel
theorem dX11_freeCoats_32 : decode cX11_freeCoats 32 = .ok (.istore_n 1, 1) := by decide +kernel
theorem dX11_freeCoats_33 : decode cX11_freeCoats 33 = .ok (.iinc 2 1, 3) := by decide +kernel
theorem dX11_freeCoats_36 : decode cX11_freeCoats 36 = .ok (.goto (-32), 3) := by decide +kernel
theorem dX11_freeCoats_39 : decode cX11_freeCoats 39 = .ok (.iload_n 1, 1) := by decide +kernel
theorem dX11_freeCoats_40 : decode cX11_freeCoats 40 = .ok (.ireturn, 1) := by decide +kernel
theorem dX11_front_0 : decode cX11_front 0 = .ok (.iload_n 1, 1) := by decide +kernel
theorem dX11_front_1 : decode cX11_front 1 = .ok (.iconst 0, 1) := by decide +kernel
theorem dX11_front_2 : decode cX11_front 2 = .ok (.sipush 999, 3) := by decide +kernel
theorem dX11_front_5 : decode cX11_front 5 = .ok (.invokestatic 417, 3) := by decide +kernel
theorem dX11_front_8 : decode cX11_front 8 = .ok (.ifCond .eq 12, 3) := by decide +kernel
theorem dX11_front_11 : decode cX11_front 11 = .ok (.iload_n 2, 1) := by decide +kernel
theorem dX11_front_12 : decode cX11_front 12 = .ok (.iconst 0, 1) := by decide +kernel
theorem dX11_front_13 : decode cX11_front 13 = .ok (.iconst 1, 1) := by decide +kernel
theorem dX11_front_14 : decode cX11_front 14 = .ok (.invokestatic 417, 3) := by decide +kernel
theorem dX11_front_17 : decode cX11_front 17 = .ok (.ifCond .ne 5, 3) := by decide +kernel
theorem dX11_front_20 : decode cX11_front 20 = .ok (.iconst (-1), 1) := by decide +kernel
theorem dX11_front_21 : decode cX11_front 21 = .ok (.ireturn, 1) := by decide +kernel
theorem dX11_front_22 : decode cX11_front 22 = .ok (.aload_n 0, 1) := by decide +kernel
theorem dX11_front_23 : decode cX11_front 23 = .ok (.invokevirtual 449, 3) := by decide +kernel
theorem dX11_front_26 : decode cX11_front 26 = .ok (.aload_n 0, 1) := by decide +kernel
theorem dX11_front_27 : decode cX11_front 27 = .ok (.invokevirtual 440, 3) := by decide +kernel
theorem dX11_front_30 : decode cX11_front 30 = .ok (.istore_n 3, 1) := by decide +kernel
theorem dX11_front_31 : decode cX11_front 31 = .ok (.iconst (-1), 1) := by decide +kernel
theorem dX11_front_32 : decode cX11_front 32 = .ok (.istore 4, 2) := by decide +kernel
theorem dX11_front_34 : decode cX11_front 34 = .ok (.iconst 0, 1) := by decide +kernel
theorem dX11_front_35 : decode cX11_front 35 = .ok (.istore 5, 2) := by decide +kernel
theorem dX11_front_37 : decode cX11_front 37 = .ok (.iload 5, 2) := by decide +kernel
theorem dX11_front_39 : decode cX11_front 39 = .ok (.iload_n 3, 1) := by decide +kernel
theorem dX11_front_40 : decode cX11_front 40 = .ok (.if_icmp .gt 50, 3) := by decide +kernel
theorem dX11_front_43 : decode cX11_front 43 = .ok (.iload 5, 2) := by decide +kernel
theorem dX11_front_45 : decode cX11_front 45 = .ok (.iload_n 3, 1) := by decide +kernel
theorem dX11_front_46 : decode cX11_front 46 = .ok (.iconst (-1), 1) := by decide +kernel
theorem dX11_front_47 : decode cX11_front 47 = .ok (.ixor, 1) := by decide +kernel
theorem dX11_front_48 : decode cX11_front 48 = .ok (.iand, 1) := by decide +kernel
theorem dX11_front_49 : decode cX11_front 49 = .ok (.ifCond .ne 35, 3) := by decide +kernel
theorem dX11_front_52 : decode cX11_front 52 = .ok (.aload_n 0, 1) := by decide +kernel
theorem dX11_front_53 : decode cX11_front 53 = .ok (.iload 5, 2) := by decide +kernel
theorem dX11_front_55 : decode cX11_front 55 = .ok (.invokevirtual 492, 3) := by decide +kernel
theorem dX11_front_58 : decode cX11_front 58 = .ok (.iload_n 1, 1) := by decide +kernel
theorem dX11_front_59 : decode cX11_front 59 = .ok (.if_icmp .lt 25, 3) := by decide +kernel
theorem dX11_front_62 : decode cX11_front 62 = .ok (.iload 4, 2) := by decide +kernel
theorem dX11_front_64 : decode cX11_front 64 = .ok (.ifCond .lt 16, 3) := by decide +kernel
theorem dX11_front_67 : decode cX11_front 67 = .ok (.iload 5, 2) := by decide +kernel
theorem dX11_front_69 : decode cX11_front 69 = .ok (.invokestatic 486, 3) := by decide +kernel
theorem dX11_front_72 : decode cX11_front 72 = .ok (.iload 4, 2) := by decide +kernel
theorem dX11_front_74 : decode cX11_front 74 = .ok (.invokestatic 486, 3) := by decide +kernel
theorem dX11_front_77 : decode cX11_front 77 = .ok (.if_icmp .ge 7, 3) := by decide +kernel
theorem dX11_front_80 : decode cX11_front 80 = .ok (.iload 5, 2) := by decide +kernel
theorem dX11_front_82 : decode cX11_front 82 = .ok (.istore 4, 2) := by decide +kernel
theorem dX11_front_84 : decode cX11_front 84 = .ok (.iinc 5 1, 3) := by decide +kernel
theorem dX11_front_87 : decode cX11_front 87 = .ok (.goto (-50), 3) := by decide +kernel
theorem dX11_front_90 : decode cX11_front 90 = .ok (.iload 4, 2) := by decide +kernel
theorem dX11_front_92 : decode cX11_front 92 = .ok (.ifCond .ge 7, 3) := by decide +kernel
theorem dX11_front_95 : decode cX11_front 95 = .ok (.iconst (-1), 1) := by decide +kernel
theorem dX11_front_96 : decode cX11_front 96 = .ok (.goto 17, 3) := by decide +kernel
theorem dX11_front_99 : decode cX11_front 99 = .ok (.iload_n 2, 1) := by decide +kernel
theorem dX11_front_100 : decode cX11_front 100 = .ok (.ifCond .ne 11, 3) := by decide +kernel
theorem dX11_front_103 : decode cX11_front 103 = .ok (.iload 4, 2) := by decide +kernel
theorem dX11_front_105 : decode cX11_front 105 = .ok (.invokestatic 486, 3) := by decide +kernel
theorem dX11_front_108 : decode cX11_front 108 = .ok (.goto 5, 3) := by decide +kernel
theorem dX11_front_111 : decode cX11_front 111 = .ok (.iload 4, 2) := by decide +kernel
theorem dX11_front_113 : decode cX11_front 113 = .ok (.ireturn, 1) := by decide +kernel
theorem dX11_goDay_0 : decode cX11_goDay 0 = .ok (.iconst 0, 1) := by decide +kernel
theorem dX11_goDay_1 : decode cX11_goDay 1 = .ok (.istore_n 2, 1) := by decide +kernel
theorem dX11_goDay_2 : decode cX11_goDay 2 = .ok (.iload_n 2, 1) := by decide +kernel
theorem dX11_goDay_3 : decode cX11_goDay 3 = .ok (.aload_n 0, 1) := by decide +kernel
theorem dX11_goDay_4 : decode cX11_goDay 4 = .ok (.getfield 387, 3) := by decide +kernel
theorem dX11_goDay_7 : decode cX11_goDay 7 = .ok (.if_icmp .ge 33, 3) := by decide +kernel
theorem dX11_goDay_10 : decode cX11_goDay 10 = .ok (.aload_n 0, 1) := by decide +kernel
theorem dX11_goDay_11 : decode cX11_goDay 11 = .ok (.getfield 96, 3) := by decide +kernel
theorem dX11_goDay_14 : decode cX11_goDay 14 = .ok (.iload_n 2, 1) := by decide +kernel
theorem dX11_goDay_15 : decode cX11_goDay 15 = .ok (.bipush 99, 2) := by decide +kernel
theorem dX11_goDay_17 : decode cX11_goDay 17 = .ok (.aload_n 0, 1) := by decide +kernel
theorem dX11_goDay_18 : decode cX11_goDay 18 = .ok (.getfield 96, 3) := by decide +kernel
theorem dX11_goDay_21 : decode cX11_goDay 21 = .ok (.iload_n 2, 1) := by decide +kernel
theorem dX11_goDay_22 : decode cX11_goDay 22 = .ok (.iaload, 1) := by decide +kernel
theorem dX11_goDay_23 : decode cX11_goDay 23 = .ok (.aload_n 0, 1) := by decide +kernel
theorem dX11_goDay_24 : decode cX11_goDay 24 = .ok (.getfield 69, 3) := by decide +kernel
theorem dX11_goDay_27 : decode cX11_goDay 27 = .ok (.iload_n 2, 1) := by decide +kernel
theorem dX11_goDay_28 : decode cX11_goDay 28 = .ok (.iaload, 1) := by decide +kernel
theorem dX11_goDay_29 : decode cX11_goDay 29 = .ok (.iadd, 1) := by decide +kernel
theorem dX11_goDay_30 : decode cX11_goDay 30 = .ok (.invokestatic 431, 3) := by decide +kernel
theorem dX11_goDay_33 : decode cX11_goDay 33 = .ok (.iastore, 1) := by decide +kernel
theorem dX11_goDay_34 : decode cX11_goDay 34 = .ok (.iinc 2 1, 3) := by decide +kernel
theorem dX11_goDay_37 : decode cX11_goDay 37 = .ok (.goto (-35), 3) := by decide +kernel
theorem dX11_goDay_40 : decode cX11_goDay 40 = .ok (.iconst 0, 1) := by decide +kernel
theorem dX11_goDay_41 : decode cX11_goDay 41 = .ok (.istore_n 2, 1) := by decide +kernel
theorem dX11_goDay_42 : decode cX11_goDay 42 = .ok (.iload_n 2, 1) := by decide +kernel
theorem dX11_goDay_43 : decode cX11_goDay 43 = .ok (.aload_n 0, 1) := by decide +kernel
theorem dX11_goDay_44 : decode cX11_goDay 44 = .ok (.getfield 390, 3) := by decide +kernel
theorem dX11_goDay_47 : decode cX11_goDay 47 = .ok (.if_icmp .ge 99, 3) := by decide +kernel
theorem dX11_goDay_50 : decode cX11_goDay 50 = .ok (.aload_n 0, 1) := by decide +kernel
theorem dX11_goDay_51 : decode cX11_goDay 51 = .ok (.iload_n 2, 1) := by decide +kernel
theorem dX11_goDay_52 : decode cX11_goDay 52 = .ok (.invokevirtual 434, 3) := by decide +kernel
theorem dX11_goDay_55 : decode cX11_goDay 55 = .ok (.ifCond .ge 6, 3) := by decide +kernel
theorem dX11_goDay_58 : decode cX11_goDay 58 = .ok (.goto 82, 3) := by decide +kernel
theorem dX11_goDay_61 : decode cX11_goDay 61 = .ok (.aload_n 0, 1) := by decide +kernel
theorem dX11_goDay_62 : decode cX11_goDay 62 = .ok (.getfield 96, 3) := by decide +kernel
theorem dX11_goDay_65 : decode cX11_goDay 65 = .ok (.bipush 30, 2) := by decide +kernel
theorem dX11_goDay_67 : decode cX11_goDay 67 = .ok (.iload_n 2, 1) := by decide +kernel
theorem dX11_goDay_68 : decode cX11_goDay 68 = .ok (.iadd, 1) := by decide +kernel
theorem dX11_goDay_69 : decode cX11_goDay 69 = .ok (.bipush 99, 2) := by decide +kernel
theorem dX11_goDay_71 : decode cX11_goDay 71 = .ok (.aload_n 0, 1) := by decide +kernel
theorem dX11_goDay_72 : decode cX11_goDay 72 = .ok (.getfield 96, 3) := by decide +kernel
theorem dX11_goDay_75 : decode cX11_goDay 75 = .ok (.bipush 30, 2) := by decide +kernel
theorem dX11_goDay_77 : decode cX11_goDay 77 = .ok (.iload_n 2, 1) := by decide +kernel
theorem dX11_goDay_78 : decode cX11_goDay 78 = .ok (.iadd, 1) := by decide +kernel
theorem dX11_goDay_79 : decode cX11_goDay 79 = .ok (.iaload, 1) := by decide +kernel
theorem dX11_goDay_80 : decode cX11_goDay 80 = .ok (.iconst 1, 1) := by decide +kernel
theorem dX11_goDay_81 : decode cX11_goDay 81 = .ok (.iadd, 1) := by decide +kernel
theorem dX11_goDay_82 : decode cX11_goDay 82 = .ok (.invokestatic 431, 3) := by decide +kernel
theorem dX11_goDay_85 : decode cX11_goDay 85 = .ok (.iastore, 1) := by decide +kernel
theorem dX11_goDay_86 : decode cX11_goDay 86 = .ok (.aload_n 0, 1) := by decide +kernel
theorem dX11_goDay_87 : decode cX11_goDay 87 = .ok (.getfield 96, 3) := by decide +kernel
theorem dX11_goDay_90 : decode cX11_goDay 90 = .ok (.bipush 12, 2) := by decide +kernel
theorem dX11_goDay_92 : decode cX11_goDay 92 = .ok (.iload_n 2, 1) := by decide +kernel
theorem dX11_goDay_93 : decode cX11_goDay 93 = .ok (.iadd, 1) := by decide +kernel
theorem dX11_goDay_94 : decode cX11_goDay 94 = .ok (.iconst 0, 1) := by decide +kernel
theorem dX11_goDay_95 : decode cX11_goDay 95 = .ok (.aload_n 0, 1) := by decide +kernel
theorem dX11_goDay_96 : decode cX11_goDay 96 = .ok (.getfield 96, 3) := by decide +kernel
theorem dX11_goDay_99 : decode cX11_goDay 99 = .ok (.bipush 12, 2) := by decide +kernel
theorem dX11_goDay_101 : decode cX11_goDay 101 = .ok (.iload_n 2, 1) := by decide +kernel
theorem dX11_goDay_102 : decode cX11_goDay 102 = .ok (.iadd, 1) := by decide +kernel
theorem dX11_goDay_103 : decode cX11_goDay 103 = .ok (.iaload, 1) := by decide +kernel
theorem dX11_goDay_104 : decode cX11_goDay 104 = .ok (.iload_n 1, 1) := by decide +kernel
theorem dX11_goDay_105 : decode cX11_goDay 105 = .ok (.invokestatic 310, 3) := by decide +kernel
theorem dX11_goDay_108 : decode cX11_goDay 108 = .ok (.isub, 1) := by decide +kernel
theorem dX11_goDay_109 : decode cX11_goDay 109 = .ok (.invokestatic 437, 3) := by decide +kernel
theorem dX11_goDay_112 : decode cX11_goDay 112 = .ok (.iastore, 1) := by decide +kernel
theorem dX11_goDay_113 : decode cX11_goDay 113 = .ok (.aload_n 0, 1) := by decide +kernel
theorem dX11_goDay_114 : decode cX11_goDay 114 = .ok (.getfield 96, 3) := by decide +kernel
theorem dX11_goDay_117 : decode cX11_goDay 117 = .ok (.bipush 18, 2) := by decide +kernel
theorem dX11_goDay_119 : decode cX11_goDay 119 = .ok (.iload_n 2, 1) := by decide +kernel
theorem dX11_goDay_120 : decode cX11_goDay 120 = .ok (.iadd, 1) := by decide +kernel
theorem dX11_goDay_121 : decode cX11_goDay 121 = .ok (.iconst 0, 1) := by decide +kernel
theorem dX11_goDay_122 : decode cX11_goDay 122 = .ok (.aload_n 0, 1) := by decide +kernel
theorem dX11_goDay_123 : decode cX11_goDay 123 = .ok (.getfield 96, 3) := by decide +kernel
theorem dX11_goDay_126 : decode cX11_goDay 126 = .ok (.bipush 18, 2) := by decide +kernel
theorem dX11_goDay_128 : decode cX11_goDay 128 = .ok (.iload_n 2, 1) := by decide +kernel
theorem dX11_goDay_129 : decode cX11_goDay 129 = .ok (.iadd, 1) := by decide +kernel
theorem dX11_goDay_130 : decode cX11_goDay 130 = .ok (.iaload, 1) := by decide +kernel
theorem dX11_goDay_131 : decode cX11_goDay 131 = .ok (.iload_n 1, 1) := by decide +kernel
theorem dX11_goDay_132 : decode cX11_goDay 132 = .ok (.invokestatic 310, 3) := by decide +kernel
theorem dX11_goDay_135 : decode cX11_goDay 135 = .ok (.isub, 1) := by decide +kernel
theorem dX11_goDay_136 : decode cX11_goDay 136 = .ok (.invokestatic 437, 3) := by decide +kernel
theorem dX11_goDay_139 : decode cX11_goDay 139 = .ok (.iastore, 1) := by decide +kernel
theorem dX11_goDay_140 : decode cX11_goDay 140 = .ok (.iinc 2 1, 3) := by decide +kernel
theorem dX11_goDay_143 : decode cX11_goDay 143 = .ok (.goto (-101), 3) := by decide +kernel
theorem dX11_goDay_146 : decode cX11_goDay 146 = .ok (.aload_n 0, 1) := by decide +kernel
theorem dX11_goDay_147 : decode cX11_goDay 147 = .ok (.getfield 96, 3) := by decide +kernel
theorem dX11_goDay_150 : decode cX11_goDay 150 = .ok (.bipush 37, 2) := by decide +kernel
theorem dX11_goDay_152 : decode cX11_goDay 152 = .ok (.dup2, 1) := by decide +kernel
theorem dX11_goDay_153 : decode cX11_goDay 153 = .ok (.iaload, 1) := by decide +kernel
theorem dX11_goDay_154 : decode cX11_goDay 154 = .ok (.iconst 1, 1) := by decide +kernel
theorem dX11_goDay_155 : decode cX11_goDay 155 = .ok (.iadd, 1) := by decide +kernel
theorem dX11_goDay_156 : decode cX11_goDay 156 = .ok (.iastore, 1) := by decide +kernel
theorem dX11_goDay_157 : decode cX11_goDay 157 = .ok (.aload_n 0, 1) := by decide +kernel
theorem dX11_goDay_158 : decode cX11_goDay 158 = .ok (.invokevirtual 440, 3) := by decide +kernel
theorem dX11_goDay_161 : decode cX11_goDay 161 = .ok (.aload_n 0, 1) := by decide +kernel
theorem dX11_goDay_162 : decode cX11_goDay 162 = .ok (.invokevirtual 443, 3) := by decide +kernel
theorem dX11_goDay_165 : decode cX11_goDay 165 = .ok (.iconst (-1), 1) := by decide +kernel
theorem dX11_goDay_166 : decode cX11_goDay 166 = .ok (.ixor, 1) := by decide +kernel
theorem dX11_goDay_167 : decode cX11_goDay 167 = .ok (.iand, 1) := by decide +kernel
theorem dX11_goDay_168 : decode cX11_goDay 168 = .ok (.istore_n 2, 1) := by decide +kernel
theorem dX11_goDay_169 : decode cX11_goDay 169 = .ok (.iconst 0, 1) := by decide +kernel
theorem dX11_goDay_170 : decode cX11_goDay 170 = .ok (.istore_n 3, 1) := by decide +kernel
theorem dX11_goDay_171 : decode cX11_goDay 171 = .ok (.iload_n 3, 1) := by decide +kernel
theorem dX11_goDay_172 : decode cX11_goDay 172 = .ok (.aload_n 0, 1) := by decide +kernel
theorem dX11_goDay_173 : decode cX11_goDay 173 = .ok (.getfield 387, 3) := by decide +kernel
theorem dX11_goDay_176 : decode cX11_goDay 176 = .ok (.if_icmp .ge 28, 3) := by decide +kernel
theorem dX11_goDay_179 : decode cX11_goDay 179 = .ok (.iload_n 2, 1) := by decide +kernel
theorem dX11_goDay_180 : decode cX11_goDay 180 = .ok (.iload_n 3, 1) := by decide +kernel
theorem dX11_goDay_181 : decode cX11_goDay 181 = .ok (.ishr, 1) := by decide +kernel
theorem dX11_goDay_182 : decode cX11_goDay 182 = .ok (.iconst 1, 1) := by decide +kernel
theorem dX11_goDay_183 : decode cX11_goDay 183 = .ok (.iand, 1) := by decide +kernel
theorem dX11_goDay_184 : decode cX11_goDay 184 = .ok (.iconst 1, 1) := by decide +kernel
theorem dX11_goDay_185 : decode cX11_goDay 185 = .ok (.if_icmp .ne 13, 3) := by decide +kernel
theorem dX11_goDay_188 : decode cX11_goDay 188 = .ok (.aload_n 0, 1) := by decide +kernel
theorem dX11_goDay_189 : decode cX11_goDay 189 = .ok (.getfield 96, 3) := by decide +kernel
theorem dX11_goDay_192 : decode cX11_goDay 192 = .ok (.bipush 6, 2) := by decide +kernel
theorem dX11_goDay_194 : decode cX11_goDay 194 = .ok (.iload_n 3, 1) := by decide +kernel
theorem dX11_goDay_195 : decode cX11_goDay 195 = .ok (.iadd, 1) := by decide +kernel
theorem dX11_goDay_196 : decode cX11_goDay 196 = .ok (.iconst (-1), 1) := by decide +kernel
theorem dX11_goDay_197 : decode cX11_goDay 197 = .ok (.iastore, 1) := by decide +kernel
theorem dX11_goDay_198 : decode cX11_goDay 198 = .ok (.iinc 3 1, 3) := by decide +kernel
theorem dX11_goDay_201 : decode cX11_goDay 201 = .ok (.goto (-30), 3) := by decide +kernel
theorem dX11_goDay_204 : decode cX11_goDay 204 = .ok (.iload_n 2, 1) := by decide +kernel
theorem dX11_goDay_205 : decode cX11_goDay 205 = .ok (.ireturn, 1) := by decide +kernel
theorem dX11_greater_0 : decode cX11_greater 0 = .ok (.iload_n 0, 1) := by decide +kernel
theorem dX11_greater_1 : decode cX11_greater 1 = .ok (.iload_n 1, 1) := by decide +kernel
theorem dX11_greater_2 : decode cX11_greater 2 = .ok (.if_icmp .le 7, 3) := by decide +kernel
theorem dX11_greater_5 : decode cX11_greater 5 = .ok (.iload_n 0, 1) := by decide +kernel
theorem dX11_greater_6 : decode cX11_greater 6 = .ok (.goto 4, 3) := by decide +kernel
theorem dX11_greater_9 : decode cX11_greater 9 = .ok (.iload_n 1, 1) := by decide +kernel
theorem dX11_greater_10 : decode cX11_greater 10 = .ok (.ireturn, 1) := by decide +kernel
theorem dX11_growths_0 : decode cX11_growths 0 = .ok (.aload_n 0, 1) := by decide +kernel
theorem dX11_growths_1 : decode cX11_growths 1 = .ok (.iload_n 1, 1) := by decide +kernel
theorem dX11_growths_2 : decode cX11_growths 2 = .ok (.invokevirtual 534, 3) := by decide +kernel
theorem dX11_growths_5 : decode cX11_growths 5 = .ok (.ireturn, 1) := by decide +kernel
theorem dX11_hasBracket_0 : decode cX11_hasBracket 0 = .ok (.iconst 0, 1) := by decide +kernel
theorem dX11_hasBracket_1 : decode cX11_hasBracket 1 = .ok (.istore_n 1, 1) := by decide +kernel
theorem dX11_hasBracket_2 : decode cX11_hasBracket 2 = .ok (.iconst 0, 1) := by decide +kernel
theorem dX11_hasBracket_3 : decode cX11_hasBracket 3 = .ok (.istore_n 2, 1) := by decide +kernel
theorem dX11_hasBracket_4 : decode cX11_hasBracket 4 = .ok (.iload_n 2, 1) := by decide +kernel
theorem dX11_hasBracket_5 : decode cX11_hasBracket 5 = .ok (.aload_n 0, 1) := by decide +kernel
theorem dX11_hasBracket_6 : decode cX11_hasBracket 6 = .ok (.getfield 256, 3) := by decide +kernel
theorem dX11_hasBracket_9 : decode cX11_hasBracket 9 = .ok (.if_icmp .ge 30, 3) := by decide +kernel
theorem dX11_hasBracket_12 : decode cX11_hasBracket 12 = .ok (.iload_n 1, 1) := by decide +kernel
theorem dX11_hasBracket_13 : decode cX11_hasBracket 13 = .ok (.ifCond .ne 14, 3) := by decide +kernel
theorem dX11_hasBracket_16 : decode cX11_hasBracket 16 = .ok (.aload_n 0, 1) := by decide +kernel
theorem dX11_hasBracket_17 : decode cX11_hasBracket 17 = .ok (.getfield 33, 3) := by decide +kernel
theorem dX11_hasBracket_20 : decode cX11_hasBracket 20 = .ok (.iload_n 2, 1) := by decide +kernel
theorem dX11_hasBracket_21 : decode cX11_hasBracket 21 = .ok (.iaload, 1) := by decide +kernel
theorem dX11_hasBracket_22 : decode cX11_hasBracket 22 = .ok (.bipush 20, 2) := by decide +kernel
theorem dX11_hasBracket_24 : decode cX11_hasBracket 24 = .ok (.if_icmp .ne 7, 3) := by decide +kernel
theorem dX11_hasBracket_27 : decode cX11_hasBracket 27 = .ok (.iconst 1, 1) := by decide +kernel
theorem dX11_hasBracket_28 : decode cX11_hasBracket 28 = .ok (.goto 4, 3) := by decide +kernel
theorem dX11_hasBracket_31 : decode cX11_hasBracket 31 = .ok (.iconst 0, 1) := by decide +kernel
theorem dX11_hasBracket_32 : decode cX11_hasBracket 32 = .ok (.istore_n 1, 1) := by decide +kernel
theorem dX11_hasBracket_33 : decode cX11_hasBracket 33 = .ok (.iinc 2 1, 3) := by decide +kernel
theorem dX11_hasBracket_36 : decode cX11_hasBracket 36 = .ok (.goto (-32), 3) := by decide +kernel
theorem dX11_hasBracket_39 : decode cX11_hasBracket 39 = .ok (.iload_n 1, 1) := by decide +kernel
theorem dX11_hasBracket_40 : decode cX11_hasBracket 40 = .ok (.ireturn, 1) := by decide +kernel
theorem dX11_hasRelation_0 : decode cX11_hasRelation 0 = .ok (.aload_n 0, 1) := by decide +kernel
theorem dX11_hasRelation_1 : decode cX11_hasRelation 1 = .ok (.getfield 256, 3) := by decide +kernel
theorem dX11_hasRelation_4 : decode cX11_hasRelation 4 = .ok (.iconst 1, 1) := by decide +kernel
theorem dX11_hasRelation_5 : decode cX11_hasRelation 5 = .ok (.isub, 1) := by decide +kernel
theorem dX11_hasRelation_6 : decode cX11_hasRelation 6 = .ok (.istore_n 1, 1) := by decide +kernel
theorem dX11_hasRelation_7 : decode cX11_hasRelation 7 = .ok (.iload_n 1, 1) := by decide +kernel
theorem dX11_hasRelation_8 : decode cX11_hasRelation 8 = .ok (.ifCond .lt 33, 3) := by decide +kernel
theorem dX11_hasRelation_11 : decode cX11_hasRelation 11 = .ok (.aload_n 0, 1) := by decide +kernel
theorem dX11_hasRelation_12 : decode cX11_hasRelation 12 = .ok (.getfield 33, 3) := by decide +kernel
theorem dX11_hasRelation_15 : decode cX11_hasRelation 15 = .ok (.iload_n 1, 1) := by decide +kernel
theorem dX11_hasRelation_16 : decode cX11_hasRelation 16 = .ok (.iaload, 1) := by decide +kernel
theorem dX11_hasRelation_17 : decode cX11_hasRelation 17 = .ok (.bipush 20, 2) := by decide +kernel
theorem dX11_hasRelation_19 : decode cX11_hasRelation 19 = .ok (.if_icmp .eq 22, 3) := by decide +kernel
theorem dX11_hasRelation_22 : decode cX11_hasRelation 22 = .ok (.aload_n 0, 1) := by decide +kernel
theorem dX11_hasRelation_23 : decode cX11_hasRelation 23 = .ok (.getfield 33, 3) := by decide +kernel
theorem dX11_hasRelation_26 : decode cX11_hasRelation 26 = .ok (.iload_n 1, 1) := by decide +kernel
theorem dX11_hasRelation_27 : decode cX11_hasRelation 27 = .ok (.iaload, 1) := by decide +kernel
theorem dX11_hasRelation_28 : decode cX11_hasRelation 28 = .ok (.invokestatic 259, 3) := by decide +kernel
theorem dX11_hasRelation_31 : decode cX11_hasRelation 31 = .ok (.iconst 4, 1) := by decide +kernel
theorem dX11_hasRelation_32 : decode cX11_hasRelation 32 = .ok (.if_icmp .le 9, 3) := by decide +kernel
theorem dX11_hasRelation_35 : decode cX11_hasRelation 35 = .ok (.iinc 1 (-1), 3) := by decide +kernel
theorem dX11_hasRelation_38 : decode cX11_hasRelation 38 = .ok (.goto (-31), 3) := by decide +kernel
theorem dX11_hasRelation_41 : decode cX11_hasRelation 41 = .ok (.iload_n 1, 1) := by decide +kernel
theorem dX11_hasRelation_42 : decode cX11_hasRelation 42 = .ok (.ifCond .lt 31, 3) := by decide +kernel
theorem dX11_hasRelation_45 : decode cX11_hasRelation 45 = .ok (.aload_n 0, 1) := by decide +kernel
theorem dX11_hasRelation_46 : decode cX11_hasRelation 46 = .ok (.getfield 33, 3) := by decide +kernel
theorem dX11_hasRelation_49 : decode cX11_hasRelation 49 = .ok (.iload_n 1, 1) := by decide +kernel
theorem dX11_hasRelation_50 : decode cX11_hasRelation 50 = .ok (.iaload, 1) := by decide +kernel
theorem dX11_hasRelation_51 : decode cX11_hasRelation 51 = .ok (.bipush 20, 2) := by decide +kernel
theorem dX11_hasRelation_53 : decode cX11_hasRelation 53 = .ok (.if_icmp .eq 20, 3) := by decide +kernel
theorem dX11_hasRelation_56 : decode cX11_hasRelation 56 = .ok (.aload_n 0, 1) := by decide +kernel
theorem dX11_hasRelation_57 : decode cX11_hasRelation 57 = .ok (.getfield 33, 3) := by decide +kernel
theorem dX11_hasRelation_60 : decode cX11_hasRelation 60 = .ok (.iload_n 1, 1) := by decide +kernel
theorem dX11_hasRelation_61 : decode cX11_hasRelation 61 = .ok (.iaload, 1) := by decide +kernel
theorem dX11_hasRelation_62 : decode cX11_hasRelation 62 = .ok (.invokestatic 259, 3) := by decide +kernel
theorem dX11_hasRelation_65 : decode cX11_hasRelation 65 = .ok (.iconst 4, 1) := by decide +kernel
theorem dX11_hasRelation_66 : decode cX11_hasRelation 66 = .ok (.if_icmp .ne 7, 3) := by decide +kernel
theorem dX11_hasRelation_69 : decode cX11_hasRelation 69 = .ok (.iconst 1, 1) := by decide +kernel
theorem dX11_hasRelation_70 : decode cX11_hasRelation 70 = .ok (.goto 4, 3) := by decide +kernel
theorem dX11_hasRelation_73 : decode cX11_hasRelation 73 = .ok (.iconst 0, 1) := by decide +kernel
theorem dX11_hasRelation_74 : decode cX11_hasRelation 74 = .ok (.ireturn, 1) := by decide +kernel
theorem dX11_hem_0 : decode cX11_hem 0 = .ok (.aload_n 0, 1) := by decide +kernel
theorem dX11_hem_1 : decode cX11_hem 1 = .ok (.iload_n 1, 1) := by decide +kernel
theorem dX11_hem_2 : decode cX11_hem 2 = .ok (.invokevirtual 455, 3) := by decide +kernel
theorem dX11_hem_5 : decode cX11_hem 5 = .ok (.ifCond .eq 20, 3) := by decide +kernel
theorem dX11_hem_8 : decode cX11_hem 8 = .ok (.iload_n 2, 1) := by decide +kernel
theorem dX11_hem_9 : decode cX11_hem 9 = .ok (.iconst 1, 1) := by decide +kernel
theorem dX11_hem_10 : decode cX11_hem 10 = .ok (.aload_n 0, 1) := by decide +kernel
theorem dX11_hem_11 : decode cX11_hem 11 = .ok (.getfield 93, 3) := by decide +kernel
theorem dX11_hem_14 : decode cX11_hem 14 = .ok (.bipush 12, 2) := by decide +kernel
theorem dX11_hem_16 : decode cX11_hem 16 = .ok (.iload_n 1, 1) := by decide +kernel
theorem dX11_hem_17 : decode cX11_hem 17 = .ok (.iadd, 1) := by decide +kernel
theorem dX11_hem_18 : decode cX11_hem 18 = .ok (.iaload, 1) := by decide +kernel
theorem dX11_hem_19 : decode cX11_hem 19 = .ok (.invokestatic 417, 3) := by decide +kernel
theorem dX11_hem_22 : decode cX11_hem 22 = .ok (.ifCond .ne 5, 3) := by decide +kernel
theorem dX11_hem_25 : decode cX11_hem 25 = .ok (.iconst (-1), 1) := by decide +kernel
theorem dX11_hem_26 : decode cX11_hem 26 = .ok (.ireturn, 1) := by decide +kernel
theorem dX11_hem_27 : decode cX11_hem 27 = .ok (.aload_n 0, 1) := by decide +kernel
theorem dX11_hem_28 : decode cX11_hem 28 = .ok (.invokevirtual 458, 3) := by decide +kernel
theorem dX11_hem_31 : decode cX11_hem 31 = .ok (.aload_n 0, 1) := by decide +kernel
theorem dX11_hem_32 : decode cX11_hem 32 = .ok (.getfield 93, 3) := by decide +kernel
theorem dX11_hem_35 : decode cX11_hem 35 = .ok (.bipush 12, 2) := by decide +kernel
theorem dX11_hem_37 : decode cX11_hem 37 = .ok (.iload_n 1, 1) := by decide +kernel
theorem dX11_hem_38 : decode cX11_hem 38 = .ok (.iadd, 1) := by decide +kernel
theorem dX11_hem_39 : decode cX11_hem 39 = .ok (.dup2, 1) := by decide +kernel
theorem dX11_hem_40 : decode cX11_hem 40 = .ok (.iaload, 1) := by decide +kernel
theorem dX11_hem_41 : decode cX11_hem 41 = .ok (.iload_n 2, 1) := by decide +kernel
theorem dX11_hem_42 : decode cX11_hem 42 = .ok (.isub, 1) := by decide +kernel
theorem dX11_hem_43 : decode cX11_hem 43 = .ok (.iastore, 1) := by decide +kernel
theorem dX11_hem_44 : decode cX11_hem 44 = .ok (.aload_n 0, 1) := by decide +kernel
theorem dX11_hem_45 : decode cX11_hem 45 = .ok (.getfield 93, 3) := by decide +kernel
theorem dX11_hem_48 : decode cX11_hem 48 = .ok (.bipush 12, 2) := by decide +kernel
theorem dX11_hem_50 : decode cX11_hem 50 = .ok (.iload_n 1, 1) := by decide +kernel
theorem dX11_hem_51 : decode cX11_hem 51 = .ok (.iadd, 1) := by decide +kernel
theorem dX11_hem_52 : decode cX11_hem 52 = .ok (.iaload, 1) := by decide +kernel
theorem dX11_hem_53 : decode cX11_hem 53 = .ok (.ireturn, 1) := by decide +kernel
theorem dX11_here_0 : decode cX11_here 0 = .ok (.aload_n 0, 1) := by decide +kernel
theorem dX11_here_1 : decode cX11_here 1 = .ok (.getfield 146, 3) := by decide +kernel
theorem dX11_here_4 : decode cX11_here 4 = .ok (.iload_n 1, 1) := by decide +kernel
theorem dX11_here_5 : decode cX11_here 5 = .ok (.iadd, 1) := by decide +kernel
theorem dX11_here_6 : decode cX11_here 6 = .ok (.aload_n 0, 1) := by decide +kernel
theorem dX11_here_7 : decode cX11_here 7 = .ok (.getfield 149, 3) := by decide +kernel
theorem dX11_here_10 : decode cX11_here 10 = .ok (.if_icmp .ge 17, 3) := by decide +kernel
theorem dX11_here_13 : decode cX11_here 13 = .ok (.aload_n 0, 1) := by decide +kernel
theorem dX11_here_14 : decode cX11_here 14 = .ok (.getfield 7, 3) := by decide +kernel
theorem dX11_here_17 : decode cX11_here 17 = .ok (.aload_n 0, 1) := by decide +kernel
theorem dX11_here_18 : decode cX11_here 18 = .ok (.getfield 146, 3) := by decide +kernel
theorem dX11_here_21 : decode cX11_here 21 = .ok (.iload_n 1, 1) := by decide +kernel
theorem dX11_here_22 : decode cX11_here 22 = .ok (.iadd, 1) := by decide +kernel
theorem dX11_here_23 : decode cX11_here 23 = .ok (.iaload, 1) := by decide +kernel
theorem dX11_here_24 : decode cX11_here 24 = .ok (.goto 4, 3) := by decide +kernel
theorem dX11_here_27 : decode cX11_here 27 = .ok (.iconst (-1), 1) := by decide +kernel
theorem dX11_here_28 : decode cX11_here 28 = .ok (.ireturn, 1) := by decide +kernel
theorem dX11_illOfRow_0 : decode cX11_illOfRow 0 = .ok (.iconst 0, 1) := by decide +kernel
theorem dX11_illOfRow_1 : decode cX11_illOfRow 1 = .ok (.istore_n 1, 1) := by decide +kernel
theorem dX11_illOfRow_2 : decode cX11_illOfRow 2 = .ok (.iconst 0, 1) := by decide +kernel
theorem dX11_illOfRow_3 : decode cX11_illOfRow 3 = .ok (.istore_n 2, 1) := by decide +kernel
theorem dX11_illOfRow_4 : decode cX11_illOfRow 4 = .ok (.iload_n 2, 1) := by decide +kernel
theorem dX11_illOfRow_5 : decode cX11_illOfRow 5 = .ok (.aload_n 0, 1) := by decide +kernel
theorem dX11_illOfRow_6 : decode cX11_illOfRow 6 = .ok (.getfield 387, 3) := by decide +kernel
theorem dX11_illOfRow_9 : decode cX11_illOfRow 9 = .ok (.if_icmp .ge 41, 3) := by decide +kernel
theorem dX11_illOfRow_12 : decode cX11_illOfRow 12 = .ok (.iload_n 1, 1) := by decide +kernel
theorem dX11_illOfRow_13 : decode cX11_illOfRow 13 = .ok (.aload_n 0, 1) := by decide +kernel
theorem dX11_illOfRow_14 : decode cX11_illOfRow 14 = .ok (.getfield 105, 3) := by decide +kernel
theorem dX11_illOfRow_17 : decode cX11_illOfRow 17 = .ok (.iload_n 2, 1) := by decide +kernel
theorem dX11_illOfRow_18 : decode cX11_illOfRow 18 = .ok (.iaload, 1) := by decide +kernel
theorem dX11_illOfRow_19 : decode cX11_illOfRow 19 = .ok (.ifCond .ge 7, 3) := by decide +kernel
theorem dX11_illOfRow_22 : decode cX11_illOfRow 22 = .ok (.iconst 0, 1) := by decide +kernel
theorem dX11_illOfRow_23 : decode cX11_illOfRow 23 = .ok (.goto 19, 3) := by decide +kernel
theorem dX11_illOfRow_26 : decode cX11_illOfRow 26 = .ok (.aload_n 0, 1) := by decide +kernel
theorem dX11_illOfRow_27 : decode cX11_illOfRow 27 = .ok (.getfield 108, 3) := by decide +kernel
theorem dX11_illOfRow_30 : decode cX11_illOfRow 30 = .ok (.bipush 6, 2) := by decide +kernel
theorem dX11_illOfRow_32 : decode cX11_illOfRow 32 = .ok (.iload_n 2, 1) := by decide +kernel
theorem dX11_illOfRow_33 : decode cX11_illOfRow 33 = .ok (.imul, 1) := by decide +kernel
theorem dX11_illOfRow_34 : decode cX11_illOfRow 34 = .ok (.aload_n 0, 1) := by decide +kernel
theorem dX11_illOfRow_35 : decode cX11_illOfRow 35 = .ok (.getfield 105, 3) := by decide +kernel
theorem dX11_illOfRow_38 : decode cX11_illOfRow 38 = .ok (.iload_n 2, 1) := by decide +kernel
theorem dX11_illOfRow_39 : decode cX11_illOfRow 39 = .ok (.iaload, 1) := by decide +kernel
theorem dX11_illOfRow_40 : decode cX11_illOfRow 40 = .ok (.iadd, 1) := by decide +kernel
theorem dX11_illOfRow_41 : decode cX11_illOfRow 41 = .ok (.iaload, 1) := by decide +kernel
theorem dX11_illOfRow_42 : decode cX11_illOfRow 42 = .ok (.iadd, 1) := by decide +kernel
theorem dX11_illOfRow_43 : decode cX11_illOfRow 43 = .ok (.istore_n 1, 1) := by decide +kernel
theorem dX11_illOfRow_44 : decode cX11_illOfRow 44 = .ok (.iinc 2 1, 3) := by decide +kernel
theorem dX11_illOfRow_47 : decode cX11_illOfRow 47 = .ok (.goto (-43), 3) := by decide +kernel
theorem dX11_illOfRow_50 : decode cX11_illOfRow 50 = .ok (.iload_n 1, 1) := by decide +kernel
theorem dX11_illOfRow_51 : decode cX11_illOfRow 51 = .ok (.ireturn, 1) := by decide +kernel
theorem dX11_image_0 : decode cX11_image 0 = .ok (.iload_n 1, 1) := by decide +kernel
theorem dX11_image_1 : decode cX11_image 1 = .ok (.invokestatic 540, 3) := by decide +kernel
theorem dX11_image_4 : decode cX11_image 4 = .ok (.ifCond .ne 5, 3) := by decide +kernel
theorem dX11_image_7 : decode cX11_image 7 = .ok (.iconst (-1), 1) := by decide +kernel
theorem dX11_image_8 : decode cX11_image 8 = .ok (.ireturn, 1) := by decide +kernel
theorem dX11_image_9 : decode cX11_image 9 = .ok (.aload_n 0, 1) := by decide +kernel
theorem dX11_image_10 : decode cX11_image 10 = .ok (.getfield 133, 3) := by decide +kernel
theorem dX11_image_13 : decode cX11_image 13 = .ok (.iload_n 1, 1) := by decide +kernel
theorem dX11_image_14 : decode cX11_image 14 = .ok (.iconst 1, 1) := by decide +kernel
theorem dX11_image_15 : decode cX11_image 15 = .ok (.bastore, 1) := by decide +kernel
theorem dX11_image_16 : decode cX11_image 16 = .ok (.iconst 0, 1) := by decide +kernel
theorem dX11_image_17 : decode cX11_image 17 = .ok (.istore_n 2, 1) := by decide +kernel
theorem dX11_image_18 : decode cX11_image 18 = .ok (.iload_n 2, 1) := by decide +kernel
theorem dX11_image_19 : decode cX11_image 19 = .ok (.bipush 39, 2) := by decide +kernel
theorem dX11_image_21 : decode cX11_image 21 = .ok (.if_icmp .ge 26, 3) := by decide +kernel
theorem dX11_image_24 : decode cX11_image 24 = .ok (.aload_n 0, 1) := by decide +kernel
theorem dX11_image_25 : decode cX11_image 25 = .ok (.getfield 136, 3) := by decide +kernel
theorem dX11_image_28 : decode cX11_image 28 = .ok (.bipush 39, 2) := by decide +kernel
theorem dX11_image_30 : decode cX11_image 30 = .ok (.iload_n 1, 1) := by decide +kernel
theorem dX11_image_31 : decode cX11_image 31 = .ok (.imul, 1) := by decide +kernel
theorem dX11_image_32 : decode cX11_image 32 = .ok (.iload_n 2, 1) := by decide +kernel
theorem dX11_image_33 : decode cX11_image 33 = .ok (.iadd, 1) := by decide +kernel
theorem dX11_image_34 : decode cX11_image 34 = .ok (.aload_n 0, 1) := by decide +kernel
theorem dX11_image_35 : decode cX11_image 35 = .ok (.getfield 93, 3) := by decide +kernel
theorem dX11_image_38 : decode cX11_image 38 = .ok (.iload_n 2, 1) := by decide +kernel
theorem dX11_image_39 : decode cX11_image 39 = .ok (.iaload, 1) := by decide +kernel
theorem dX11_image_40 : decode cX11_image 40 = .ok (.iastore, 1) := by decide +kernel
theorem dX11_image_41 : decode cX11_image 41 = .ok (.iinc 2 1, 3) := by decide +kernel
theorem dX11_image_44 : decode cX11_image 44 = .ok (.goto (-26), 3) := by decide +kernel
theorem dX11_image_47 : decode cX11_image 47 = .ok (.aload_n 0, 1) := by decide +kernel
theorem dX11_image_48 : decode cX11_image 48 = .ok (.getfield 93, 3) := by decide +kernel
theorem dX11_image_51 : decode cX11_image 51 = .ok (.bipush 37, 2) := by decide +kernel
theorem dX11_image_53 : decode cX11_image 53 = .ok (.iaload, 1) := by decide +kernel
theorem dX11_image_54 : decode cX11_image 54 = .ok (.ireturn, 1) := by decide +kernel
theorem dX11_init_0 : decode cX11_init 0 = .ok (.aload_n 0, 1) := by decide +kernel
theorem dX11_init_1 : decode cX11_init 1 = .ok (.invokespecial 1, 3) := by decide +kernel
theorem dX11_init_4 : decode cX11_init 4 = .ok (.aload_n 0, 1) := by decide +kernel
theorem dX11_init_5 : decode cX11_init 5 = .ok (.sipush 1600, 3) := by decide +kernel
theorem dX11_init_8 : decode cX11_init 8 = .ok (.newarray .int, 2) := by decide +kernel
theorem dX11_init_10 : decode cX11_init 10 = .ok (.putfield 7, 3) := by decide +kernel
theorem dX11_init_13 : decode cX11_init 13 = .ok (.aload_n 0, 1) := by decide +kernel
theorem dX11_init_14 : decode cX11_init 14 = .ok (.iconst (-1), 1) := by decide +kernel
theorem dX11_init_15 : decode cX11_init 15 = .ok (.putfield 13, 3) := by decide +kernel
theorem dX11_init_18 : decode cX11_init 18 = .ok (.aload_n 0, 1) := by decide +kernel
theorem dX11_init_19 : decode cX11_init 19 = .ok (.bipush 12, 2) := by decide +kernel
theorem dX11_init_21 : decode cX11_init 21 = .ok (.newarray .long, 2) := by decide +kernel
theorem dX11_init_23 : decode cX11_init 23 = .ok (.putfield 17, 3) := by decide +kernel
theorem dX11_init_26 : decode cX11_init 26 = .ok (.aload_n 0, 1) := by decide +kernel
theorem dX11_init_27 : decode cX11_init 27 = .ok (.sipush 320, 3) := by decide +kernel
theorem dX11_init_30 : decode cX11_init 30 = .ok (.newarray .int, 2) := by decide +kernel
theorem dX11_init_32 : decode cX11_init 32 = .ok (.putfield 21, 3) := by decide +kernel
theorem dX11_init_35 : decode cX11_init 35 = .ok (.aload_n 0, 1) := by decide +kernel
theorem dX11_init_36 : decode cX11_init 36 = .ok (.sipush 320, 3) := by decide +kernel
theorem dX11_init_39 : decode cX11_init 39 = .ok (.newarray .int, 2) := by decide +kernel
theorem dX11_init_41 : decode cX11_init 41 = .ok (.putfield 24, 3) := by decide +kernel
theorem dX11_init_44 : decode cX11_init 44 = .ok (.aload_n 0, 1) := by decide +kernel
theorem dX11_init_45 : decode cX11_init 45 = .ok (.sipush 320, 3) := by decide +kernel
theorem dX11_init_48 : decode cX11_init 48 = .ok (.newarray .int, 2) := by decide +kernel
theorem dX11_init_50 : decode cX11_init 50 = .ok (.putfield 27, 3) := by decide +kernel
theorem dX11_init_53 : decode cX11_init 53 = .ok (.aload_n 0, 1) := by decide +kernel
theorem dX11_init_54 : decode cX11_init 54 = .ok (.sipush 320, 3) := by decide +kernel
theorem dX11_init_57 : decode cX11_init 57 = .ok (.newarray .int, 2) := by decide +kernel
theorem dX11_init_59 : decode cX11_init 59 = .ok (.putfield 30, 3) := by decide +kernel
theorem dX11_init_62 : decode cX11_init 62 = .ok (.aload_n 0, 1) := by decide +kernel
theorem dX11_init_63 : decode cX11_init 63 = .ok (.sipush 160, 3) := by decide +kernel
theorem dX11_init_66 : decode cX11_init 66 = .ok (.newarray .int, 2) := by decide +kernel
theorem dX11_init_68 : decode cX11_init 68 = .ok (.putfield 33, 3) := by decide +kernel
theorem dX11_init_71 : decode cX11_init 71 = .ok (.aload_n 0, 1) := by decide +kernel
theorem dX11_init_72 : decode cX11_init 72 = .ok (.bipush 64, 2) := by decide +kernel
theorem dX11_init_74 : decode cX11_init 74 = .ok (.newarray .int, 2) := by decide +kernel
theorem dX11_init_76 : decode cX11_init 76 = .ok (.putfield 36, 3) := by decide +kernel
theorem dX11_init_79 : decode cX11_init 79 = .ok (.aload_n 0, 1) := by decide +kernel
theorem dX11_init_80 : decode cX11_init 80 = .ok (.bipush 6, 2) := by decide +kernel
theorem dX11_init_82 : decode cX11_init 82 = .ok (.newarray .int, 2) := by decide +kernel
theorem dX11_init_84 : decode cX11_init 84 = .ok (.putfield 39, 3) := by decide +kernel
theorem dX11_init_87 : decode cX11_init 87 = .ok (.aload_n 0, 1) := by decide +kernel
theorem dX11_init_88 : decode cX11_init 88 = .ok (.bipush 6, 2) := by decide +kernel
theorem dX11_init_90 : decode cX11_init 90 = .ok (.newarray .int, 2) := by decide +kernel
theorem dX11_init_92 : decode cX11_init 92 = .ok (.putfield 42, 3) := by decide +kernel
theorem dX11_init_95 : decode cX11_init 95 = .ok (.aload_n 0, 1) := by decide +kernel
theorem dX11_init_96 : decode cX11_init 96 = .ok (.bipush 6, 2) := by decide +kernel
theorem dX11_init_98 : decode cX11_init 98 = .ok (.newarray .int, 2) := by decide +kernel
theorem dX11_init_100 : decode cX11_init 100 = .ok (.putfield 45, 3) := by decide +kernel
theorem dX11_init_103 : decode cX11_init 103 = .ok (.aload_n 0, 1) := by decide +kernel
theorem dX11_init_104 : decode cX11_init 104 = .ok (.bipush 6, 2) := by decide +kernel
theorem dX11_init_106 : decode cX11_init 106 = .ok (.newarray .int, 2) := by decide +kernel
theorem dX11_init_108 : decode cX11_init 108 = .ok (.putfield 48, 3) := by decide +kernel
theorem dX11_init_111 : decode cX11_init 111 = .ok (.aload_n 0, 1) := by decide +kernel
theorem dX11_init_112 : decode cX11_init 112 = .ok (.bipush 6, 2) := by decide +kernel
theorem dX11_init_114 : decode cX11_init 114 = .ok (.newarray .int, 2) := by decide +kernel
theorem dX11_init_116 : decode cX11_init 116 = .ok (.putfield 51, 3) := by decide +kernel
theorem dX11_init_119 : decode cX11_init 119 = .ok (.aload_n 0, 1) := by decide +kernel
theorem dX11_init_120 : decode cX11_init 120 = .ok (.bipush 6, 2) := by decide +kernel
theorem dX11_init_122 : decode cX11_init 122 = .ok (.newarray .int, 2) := by decide +kernel
theorem dX11_init_124 : decode cX11_init 124 = .ok (.putfield 54, 3) := by decide +kernel
theorem dX11_init_127 : decode cX11_init 127 = .ok (.aload_n 0, 1) := by decide +kernel
theorem dX11_init_128 : decode cX11_init 128 = .ok (.bipush 6, 2) := by decide +kernel
theorem dX11_init_130 : decode cX11_init 130 = .ok (.newarray .int, 2) := by decide +kernel
theorem dX11_init_132 : decode cX11_init 132 = .ok (.putfield 57, 3) := by decide +kernel
theorem dX11_init_135 : decode cX11_init 135 = .ok (.aload_n 0, 1) := by decide +kernel
theorem dX11_init_136 : decode cX11_init 136 = .ok (.bipush 6, 2) := by decide +kernel
theorem dX11_init_138 : decode cX11_init 138 = .ok (.newarray .int, 2) := by decide +kernel
theorem dX11_init_140 : decode cX11_init 140 = .ok (.putfield 60, 3) := by decide +kernel
theorem dX11_init_143 : decode cX11_init 143 = .ok (.aload_n 0, 1) := by decide +kernel
theorem dX11_init_144 : decode cX11_init 144 = .ok (.bipush 6, 2) := by decide +kernel
theorem dX11_init_146 : decode cX11_init 146 = .ok (.newarray .int, 2) := by decide +kernel
theorem dX11_init_148 : decode cX11_init 148 = .ok (.putfield 63, 3) := by decide +kernel
theorem dX11_init_151 : decode cX11_init 151 = .ok (.aload_n 0, 1) := by decide +kernel
theorem dX11_init_152 : decode cX11_init 152 = .ok (.bipush 6, 2) := by decide +kernel
theorem dX11_init_154 : decode cX11_init 154 = .ok (.newarray .int, 2) := by decide +kernel
theorem dX11_init_156 : decode cX11_init 156 = .ok (.putfield 66, 3) := by decide +kernel
theorem dX11_init_159 : decode cX11_init 159 = .ok (.aload_n 0, 1) := by decide +kernel
theorem dX11_init_160 : decode cX11_init 160 = .ok (.bipush 6, 2) := by decide +kernel
theorem dX11_init_162 : decode cX11_init 162 = .ok (.newarray .int, 2) := by decide +kernel
theorem dX11_init_164 : decode cX11_init 164 = .ok (.putfield 69, 3) := by decide +kernel
theorem dX11_init_167 : decode cX11_init 167 = .ok (.aload_n 0, 1) := by decide +kernel
theorem dX11_init_168 : decode cX11_init 168 = .ok (.bipush 6, 2) := by decide +kernel
theorem dX11_init_170 : decode cX11_init 170 = .ok (.newarray .int, 2) := by decide +kernel
theorem dX11_init_172 : decode cX11_init 172 = .ok (.putfield 72, 3) := by decide +kernel
theorem dX11_init_175 : decode cX11_init 175 = .ok (.aload_n 0, 1) := by decide +kernel
theorem dX11_init_176 : decode cX11_init 176 = .ok (.bipush 6, 2) := by decide +kernel
theorem dX11_init_178 : decode cX11_init 178 = .ok (.newarray .int, 2) := by decide +kernel
theorem dX11_init_180 : decode cX11_init 180 = .ok (.putfield 75, 3) := by decide +kernel
theorem dX11_init_183 : decode cX11_init 183 = .ok (.aload_n 0, 1) := by decide +kernel
theorem dX11_init_184 : decode cX11_init 184 = .ok (.bipush 6, 2) := by decide +kernel
theorem dX11_init_186 : decode cX11_init 186 = .ok (.newarray .int, 2) := by decide +kernel
theorem dX11_init_188 : decode cX11_init 188 = .ok (.putfield 78, 3) := by decide +kernel
theorem dX11_init_191 : decode cX11_init 191 = .ok (.aload_n 0, 1) := by decide +kernel
theorem dX11_init_192 : decode cX11_init 192 = .ok (.bipush 6, 2) := by decide +kernel
theorem dX11_init_194 : decode cX11_init 194 = .ok (.newarray .int, 2) := by decide +kernel
theorem dX11_init_196 : decode cX11_init 196 = .ok (.putfield 81, 3) := by decide +kernel
theorem dX11_init_199 : decode cX11_init 199 = .ok (.aload_n 0, 1) := by decide +kernel
theorem dX11_init_200 : decode cX11_init 200 = .ok (.bipush 10, 2) := by decide +kernel
theorem dX11_init_202 : decode cX11_init 202 = .ok (.putfield 84, 3) := by decide +kernel
theorem dX11_init_205 : decode cX11_init 205 = .ok (.aload_n 0, 1) := by decide +kernel
theorem dX11_init_206 : decode cX11_init 206 = .ok (.sipush 150, 3) := by decide +kernel
theorem dX11_init_209 : decode cX11_init 209 = .ok (.putfield 87, 3) := by decide +kernel
theorem dX11_init_212 : decode cX11_init 212 = .ok (.aload_n 0, 1) := by decide +kernel
theorem dX11_init_213 : decode cX11_init 213 = .ok (.iconst 2, 1) := by decide +kernel
theorem dX11_init_214 : decode cX11_init 214 = .ok (.putfield 90, 3) := by decide +kernel
theorem dX11_init_217 : decode cX11_init 217 = .ok (.aload_n 0, 1) := by decide +kernel
theorem dX11_init_218 : decode cX11_init 218 = .ok (.bipush 39, 2) := by decide +kernel
theorem dX11_init_220 : decode cX11_init 220 = .ok (.newarray .int, 2) := by decide +kernel
theorem dX11_init_222 : decode cX11_init 222 = .ok (.putfield 93, 3) := by decide +kernel
theorem dX11_init_225 : decode cX11_init 225 = .ok (.aload_n 0, 1) := by decide +kernel
theorem dX11_init_226 : decode cX11_init 226 = .ok (.bipush 39, 2) := by decide +kernel
theorem dX11_init_228 : decode cX11_init 228 = .ok (.newarray .int, 2) := by decide +kernel
theorem dX11_init_230 : decode cX11_init 230 = .ok (.putfield 96, 3) := by decide +kernel
theorem dX11_init_233 : decode cX11_init 233 = .ok (.aload_n 0, 1) := by decide +kernel
theorem dX11_init_234 : decode cX11_init 234 = .ok (.sipush 1560, 3) := by decide +kernel
theorem dX11_init_237 : decode cX11_init 237 = .ok (.newarray .int, 2) := by decide +kernel
theorem dX11_init_239 : decode cX11_init 239 = .ok (.putfield 99, 3) := by decide +kernel
theorem dX11_init_242 : decode cX11_init 242 = .ok (.aload_n 0, 1) := by decide +kernel
theorem dX11_init_243 : decode cX11_init 243 = .ok (.bipush 6, 2) := by decide +kernel
theorem dX11_init_245 : decode cX11_init 245 = .ok (.newarray .int, 2) := by decide +kernel
theorem dX11_init_247 : decode cX11_init 247 = .ok (.putfield 102, 3) := by decide +kernel
theorem dX11_init_250 : decode cX11_init 250 = .ok (.aload_n 0, 1) := by decide +kernel
theorem dX11_init_251 : decode cX11_init 251 = .ok (.bipush 6, 2) := by decide +kernel
theorem dX11_init_253 : decode cX11_init 253 = .ok (.newarray .int, 2) := by decide +kernel
theorem dX11_init_255 : decode cX11_init 255 = .ok (.putfield 105, 3) := by decide +kernel
theorem dX11_init_258 : decode cX11_init 258 = .ok (.aload_n 0, 1) := by decide +kernel
theorem dX11_init_259 : decode cX11_init 259 = .ok (.bipush 36, 2) := by decide +kernel
theorem dX11_init_261 : decode cX11_init 261 = .ok (.newarray .int, 2) := by decide +kernel
theorem dX11_init_263 : decode cX11_init 263 = .ok (.putfield 108, 3) := by decide +kernel
theorem dX11_init_266 : decode cX11_init 266 = .ok (.aload_n 0, 1) := by decide +kernel
theorem dX11_init_267 : decode cX11_init 267 = .ok (.bipush 64, 2) := by decide +kernel
theorem dX11_init_269 : decode cX11_init 269 = .ok (.newarray .int, 2) := by decide +kernel
theorem dX11_init_271 : decode cX11_init 271 = .ok (.putfield 111, 3) := by decide +kernel
theorem dX11_init_274 : decode cX11_init 274 = .ok (.aload_n 0, 1) := by decide +kernel
theorem dX11_init_275 : decode cX11_init 275 = .ok (.bipush 30, 2) := by decide +kernel
theorem dX11_init_277 : decode cX11_init 277 = .ok (.newarray .int, 2) := by decide +kernel
theorem dX11_init_279 : decode cX11_init 279 = .ok (.putfield 114, 3) := by decide +kernel
theorem dX11_init_282 : decode cX11_init 282 = .ok (.aload_n 0, 1) := by decide +kernel
theorem dX11_init_283 : decode cX11_init 283 = .ok (.bipush 30, 2) := by decide +kernel
theorem dX11_init_285 : decode cX11_init 285 = .ok (.newarray .int, 2) := by decide +kernel
theorem dX11_init_287 : decode cX11_init 287 = .ok (.putfield 117, 3) := by decide +kernel
theorem dX11_init_290 : decode cX11_init 290 = .ok (.aload_n 0, 1) := by decide +kernel
theorem dX11_init_291 : decode cX11_init 291 = .ok (.bipush 30, 2) := by decide +kernel
theorem dX11_init_293 : decode cX11_init 293 = .ok (.newarray .int, 2) := by decide +kernel
theorem dX11_init_295 : decode cX11_init 295 = .ok (.putfield 120, 3) := by decide +kernel
theorem dX11_init_298 : decode cX11_init 298 = .ok (.aload_n 0, 1) := by decide +kernel
theorem dX11_init_299 : decode cX11_init 299 = .ok (.bipush 30, 2) := by decide +kernel
theorem dX11_init_301 : decode cX11_init 301 = .ok (.newarray .boolean, 2) := by decide +kernel
theorem dX11_init_303 : decode cX11_init 303 = .ok (.putfield 123, 3) := by decide +kernel
theorem dX11_init_306 : decode cX11_init 306 = .ok (.aload_n 0, 1) := by decide +kernel
theorem dX11_init_307 : decode cX11_init 307 = .ok (.sipush 651, 3) := by decide +kernel
theorem dX11_init_310 : decode cX11_init 310 = .ok (.newarray .boolean, 2) := by decide +kernel
theorem dX11_init_312 : decode cX11_init 312 = .ok (.putfield 127, 3) := by decide +kernel
theorem dX11_init_315 : decode cX11_init 315 = .ok (.aload_n 0, 1) := by decide +kernel
theorem dX11_init_316 : decode cX11_init 316 = .ok (.bipush 31, 2) := by decide +kernel
theorem dX11_init_318 : decode cX11_init 318 = .ok (.newarray .boolean, 2) := by decide +kernel
theorem dX11_init_320 : decode cX11_init 320 = .ok (.putfield 130, 3) := by decide +kernel
theorem dX11_init_323 : decode cX11_init 323 = .ok (.aload_n 0, 1) := by decide +kernel
theorem dX11_init_324 : decode cX11_init 324 = .ok (.iconst 3, 1) := by decide +kernel
theorem dX11_init_325 : decode cX11_init 325 = .ok (.newarray .boolean, 2) := by decide +kernel
theorem dX11_init_327 : decode cX11_init 327 = .ok (.putfield 133, 3) := by decide +kernel
theorem dX11_init_330 : decode cX11_init 330 = .ok (.aload_n 0, 1) := by decide +kernel
theorem dX11_init_331 : decode cX11_init 331 = .ok (.bipush 117, 2) := by decide +kernel
theorem dX11_init_333 : decode cX11_init 333 = .ok (.newarray .int, 2) := by decide +kernel
theorem dX11_init_335 : decode cX11_init 335 = .ok (.putfield 136, 3) := by decide +kernel
theorem dX11_init_338 : decode cX11_init 338 = .ok (.return_, 1) := by decide +kernel
theorem dX11_isBox_0 : decode cX11_isBox 0 = .ok (.iload_n 0, 1) := by decide +kernel
theorem dX11_isBox_1 : decode cX11_isBox 1 = .ok (.ifCond .lt 12, 3) := by decide +kernel
theorem dX11_isBox_4 : decode cX11_isBox 4 = .ok (.iload_n 0, 1) := by decide +kernel
theorem dX11_isBox_5 : decode cX11_isBox 5 = .ok (.iconst 3, 1) := by decide +kernel
theorem dX11_isBox_6 : decode cX11_isBox 6 = .ok (.if_icmp .ge 7, 3) := by decide +kernel
theorem dX11_isBox_9 : decode cX11_isBox 9 = .ok (.iconst 1, 1) := by decide +kernel
theorem dX11_isBox_10 : decode cX11_isBox 10 = .ok (.goto 4, 3) := by decide +kernel
theorem dX11_isBox_13 : decode cX11_isBox 13 = .ok (.iconst 0, 1) := by decide +kernel
theorem dX11_isBox_14 : decode cX11_isBox 14 = .ok (.ireturn, 1) := by decide +kernel
theorem dX11_isCoat_0 : decode cX11_isCoat 0 = .ok (.iload_n 1, 1) := by decide +kernel
theorem dX11_isCoat_1 : decode cX11_isCoat 1 = .ok (.iconst 0, 1) := by decide +kernel
theorem dX11_isCoat_2 : decode cX11_isCoat 2 = .ok (.aload_n 0, 1) := by decide +kernel
theorem dX11_isCoat_3 : decode cX11_isCoat 3 = .ok (.getfield 390, 3) := by decide +kernel
theorem dX11_isCoat_6 : decode cX11_isCoat 6 = .ok (.iconst 1, 1) := by decide +kernel
theorem dX11_isCoat_7 : decode cX11_isCoat 7 = .ok (.isub, 1) := by decide +kernel
theorem dX11_isCoat_8 : decode cX11_isCoat 8 = .ok (.invokestatic 417, 3) := by decide +kernel
theorem dX11_isCoat_11 : decode cX11_isCoat 11 = .ok (.ireturn, 1) := by decide +kernel
theorem dX11_isDigit_0 : decode cX11_isDigit 0 = .ok (.iload_n 0, 1) := by decide +kernel
theorem dX11_isDigit_1 : decode cX11_isDigit 1 = .ok (.bipush 48, 2) := by decide +kernel
theorem dX11_isDigit_3 : decode cX11_isDigit 3 = .ok (.if_icmp .lt 13, 3) := by decide +kernel
theorem dX11_isDigit_6 : decode cX11_isDigit 6 = .ok (.iload_n 0, 1) := by decide +kernel
theorem dX11_isDigit_7 : decode cX11_isDigit 7 = .ok (.bipush 57, 2) := by decide +kernel
theorem dX11_isDigit_9 : decode cX11_isDigit 9 = .ok (.if_icmp .gt 7, 3) := by decide +kernel
theorem dX11_isDigit_12 : decode cX11_isDigit 12 = .ok (.iconst 1, 1) := by decide +kernel
theorem dX11_isDigit_13 : decode cX11_isDigit 13 = .ok (.goto 4, 3) := by decide +kernel
theorem dX11_isDigit_16 : decode cX11_isDigit 16 = .ok (.iconst 0, 1) := by decide +kernel
theorem dX11_isDigit_17 : decode cX11_isDigit 17 = .ok (.ireturn, 1) := by decide +kernel
theorem dX11_isFull_0 : decode cX11_isFull 0 = .ok (.aload_n 0, 1) := by decide +kernel
theorem dX11_isFull_1 : decode cX11_isFull 1 = .ok (.getfield 269, 3) := by decide +kernel
theorem dX11_isFull_4 : decode cX11_isFull 4 = .ok (.bipush 60, 2) := by decide +kernel
theorem dX11_isFull_6 : decode cX11_isFull 6 = .ok (.if_icmp .eq 12, 3) := by decide +kernel
theorem dX11_isFull_9 : decode cX11_isFull 9 = .ok (.aload_n 0, 1) := by decide +kernel
theorem dX11_isFull_10 : decode cX11_isFull 10 = .ok (.getfield 272, 3) := by decide +kernel
theorem dX11_isFull_13 : decode cX11_isFull 13 = .ok (.bipush 30, 2) := by decide +kernel
theorem dX11_isFull_15 : decode cX11_isFull 15 = .ok (.if_icmp .ne 7, 3) := by decide +kernel
theorem dX11_isFull_18 : decode cX11_isFull 18 = .ok (.iconst 1, 1) := by decide +kernel
theorem dX11_isFull_19 : decode cX11_isFull 19 = .ok (.goto 4, 3) := by decide +kernel
theorem dX11_isFull_22 : decode cX11_isFull 22 = .ok (.iconst 0, 1) := by decide +kernel
theorem dX11_isFull_23 : decode cX11_isFull 23 = .ok (.ireturn, 1) := by decide +kernel
theorem dX11_isIn_0 : decode cX11_isIn 0 = .ok (.iload_n 0, 1) := by decide +kernel
theorem dX11_isIn_1 : decode cX11_isIn 1 = .ok (.iload_n 1, 1) := by decide +kernel
theorem dX11_isIn_2 : decode cX11_isIn 2 = .ok (.if_icmp .lt 12, 3) := by decide +kernel
theorem dX11_isIn_5 : decode cX11_isIn 5 = .ok (.iload_n 0, 1) := by decide +kernel
theorem dX11_isIn_6 : decode cX11_isIn 6 = .ok (.iload_n 2, 1) := by decide +kernel
theorem dX11_isIn_7 : decode cX11_isIn 7 = .ok (.if_icmp .gt 7, 3) := by decide +kernel
theorem dX11_isIn_10 : decode cX11_isIn 10 = .ok (.iconst 1, 1) := by decide +kernel
theorem dX11_isIn_11 : decode cX11_isIn 11 = .ok (.goto 4, 3) := by decide +kernel
theorem dX11_isIn_14 : decode cX11_isIn 14 = .ok (.iconst 0, 1) := by decide +kernel
theorem dX11_isIn_15 : decode cX11_isIn 15 = .ok (.ireturn, 1) := by decide +kernel
theorem dX11_isLetter_0 : decode cX11_isLetter 0 = .ok (.iload_n 0, 1) := by decide +kernel
theorem dX11_isLetter_1 : decode cX11_isLetter 1 = .ok (.bipush 97, 2) := by decide +kernel
theorem dX11_isLetter_3 : decode cX11_isLetter 3 = .ok (.if_icmp .lt 13, 3) := by decide +kernel
theorem dX11_isLetter_6 : decode cX11_isLetter 6 = .ok (.iload_n 0, 1) := by decide +kernel
theorem dX11_isLetter_7 : decode cX11_isLetter 7 = .ok (.bipush 122, 2) := by decide +kernel
theorem dX11_isLetter_9 : decode cX11_isLetter 9 = .ok (.if_icmp .gt 7, 3) := by decide +kernel
theorem dX11_isLetter_12 : decode cX11_isLetter 12 = .ok (.iconst 1, 1) := by decide +kernel
theorem dX11_isLetter_13 : decode cX11_isLetter 13 = .ok (.goto 4, 3) := by decide +kernel
theorem dX11_isLetter_16 : decode cX11_isLetter 16 = .ok (.iconst 0, 1) := by decide +kernel
theorem dX11_isLetter_17 : decode cX11_isLetter 17 = .ok (.ireturn, 1) := by decide +kernel
theorem dX11_isMan_0 : decode cX11_isMan 0 = .ok (.iload_n 1, 1) := by decide +kernel
theorem dX11_isMan_1 : decode cX11_isMan 1 = .ok (.iconst 0, 1) := by decide +kernel
theorem dX11_isMan_2 : decode cX11_isMan 2 = .ok (.aload_n 0, 1) := by decide +kernel
theorem dX11_isMan_3 : decode cX11_isMan 3 = .ok (.getfield 387, 3) := by decide +kernel
theorem dX11_isMan_6 : decode cX11_isMan 6 = .ok (.iconst 1, 1) := by decide +kernel
theorem dX11_isMan_7 : decode cX11_isMan 7 = .ok (.isub, 1) := by decide +kernel
theorem dX11_isMan_8 : decode cX11_isMan 8 = .ok (.invokestatic 417, 3) := by decide +kernel
theorem dX11_isMan_11 : decode cX11_isMan 11 = .ok (.ireturn, 1) := by decide +kernel
theorem dX11_isName_0 : decode cX11_isName 0 = .ok (.aload_n 0, 1) := by decide +kernel
theorem dX11_isName_1 : decode cX11_isName 1 = .ok (.getfield 166, 3) := by decide +kernel
theorem dX11_isName_4 : decode cX11_isName 4 = .ok (.iconst 1, 1) := by decide +kernel
theorem dX11_isName_5 : decode cX11_isName 5 = .ok (.if_icmp .ne 14, 3) := by decide +kernel
theorem dX11_isName_8 : decode cX11_isName 8 = .ok (.aload_n 0, 1) := by decide +kernel
theorem dX11_isName_9 : decode cX11_isName 9 = .ok (.invokevirtual 224, 3) := by decide +kernel
theorem dX11_isName_12 : decode cX11_isName 12 = .ok (.ifCond .ne 7, 3) := by decide +kernel
theorem dX11_isName_15 : decode cX11_isName 15 = .ok (.iconst 1, 1) := by decide +kernel
theorem dX11_isName_16 : decode cX11_isName 16 = .ok (.goto 4, 3) := by decide +kernel
theorem dX11_isName_19 : decode cX11_isName 19 = .ok (.iconst 0, 1) := by decide +kernel
theorem dX11_isName_20 : decode cX11_isName 20 = .ok (.ireturn, 1) := by decide +kernel
theorem dX11_isOwn_0 : decode cX11_isOwn 0 = .ok (.aload_n 0, 1) := by decide +kernel
theorem dX11_isOwn_1 : decode cX11_isOwn 1 = .ok (.getfield 159, 3) := by decide +kernel
theorem dX11_isOwn_4 : decode cX11_isOwn 4 = .ok (.ldc2_w 182, 3) := by decide +kernel
theorem dX11_isOwn_7 : decode cX11_isOwn 7 = .ok (.lcmp, 1) := by decide +kernel
theorem dX11_isOwn_8 : decode cX11_isOwn 8 = .ok (.ifCond .eq 223, 3) := by decide +kernel
theorem dX11_isOwn_11 : decode cX11_isOwn 11 = .ok (.aload_n 0, 1) := by decide +kernel
theorem dX11_isOwn_12 : decode cX11_isOwn 12 = .ok (.getfield 159, 3) := by decide +kernel
theorem dX11_isOwn_15 : decode cX11_isOwn 15 = .ok (.ldc2_w 184, 3) := by decide +kernel
theorem dX11_isOwn_18 : decode cX11_isOwn 18 = .ok (.lcmp, 1) := by decide +kernel
theorem dX11_isOwn_19 : decode cX11_isOwn 19 = .ok (.ifCond .eq 212, 3) := by decide +kernel
theorem dX11_isOwn_22 : decode cX11_isOwn 22 = .ok (.aload_n 0, 1) := by decide +kernel
theorem dX11_isOwn_23 : decode cX11_isOwn 23 = .ok (.getfield 159, 3) := by decide +kernel
theorem dX11_isOwn_26 : decode cX11_isOwn 26 = .ok (.ldc2_w 186, 3) := by decide +kernel
theorem dX11_isOwn_29 : decode cX11_isOwn 29 = .ok (.lcmp, 1) := by decide +kernel
theorem dX11_isOwn_30 : decode cX11_isOwn 30 = .ok (.ifCond .eq 201, 3) := by decide +kernel
theorem dX11_isOwn_33 : decode cX11_isOwn 33 = .ok (.aload_n 0, 1) := by decide +kernel
theorem dX11_isOwn_34 : decode cX11_isOwn 34 = .ok (.getfield 159, 3) := by decide +kernel
theorem dX11_isOwn_37 : decode cX11_isOwn 37 = .ok (.ldc2_w 188, 3) := by decide +kernel
theorem dX11_isOwn_40 : decode cX11_isOwn 40 = .ok (.lcmp, 1) := by decide +kernel
theorem dX11_isOwn_41 : decode cX11_isOwn 41 = .ok (.ifCond .eq 190, 3) := by decide +kernel
theorem dX11_isOwn_44 : decode cX11_isOwn 44 = .ok (.aload_n 0, 1) := by decide +kernel
theorem dX11_isOwn_45 : decode cX11_isOwn 45 = .ok (.getfield 159, 3) := by decide +kernel
theorem dX11_isOwn_48 : decode cX11_isOwn 48 = .ok (.ldc2_w 190, 3) := by decide +kernel
theorem dX11_isOwn_51 : decode cX11_isOwn 51 = .ok (.lcmp, 1) := by decide +kernel
theorem dX11_isOwn_52 : decode cX11_isOwn 52 = .ok (.ifCond .eq 179, 3) := by decide +kernel
theorem dX11_isOwn_55 : decode cX11_isOwn 55 = .ok (.aload_n 0, 1) := by decide +kernel
theorem dX11_isOwn_56 : decode cX11_isOwn 56 = .ok (.getfield 159, 3) := by decide +kernel
theorem dX11_isOwn_59 : decode cX11_isOwn 59 = .ok (.ldc2_w 192, 3) := by decide +kernel
theorem dX11_isOwn_62 : decode cX11_isOwn 62 = .ok (.lcmp, 1) := by decide +kernel
theorem dX11_isOwn_63 : decode cX11_isOwn 63 = .ok (.ifCond .eq 168, 3) := by decide +kernel
theorem dX11_isOwn_66 : decode cX11_isOwn 66 = .ok (.aload_n 0, 1) := by decide +kernel
theorem dX11_isOwn_67 : decode cX11_isOwn 67 = .ok (.getfield 159, 3) := by decide +kernel
theorem dX11_isOwn_70 : decode cX11_isOwn 70 = .ok (.ldc2_w 194, 3) := by decide +kernel
theorem dX11_isOwn_73 : decode cX11_isOwn 73 = .ok (.lcmp, 1) := by decide +kernel
theorem dX11_isOwn_74 : decode cX11_isOwn 74 = .ok (.ifCond .eq 157, 3) := by decide +kernel
theorem dX11_isOwn_77 : decode cX11_isOwn 77 = .ok (.aload_n 0, 1) := by decide +kernel
theorem dX11_isOwn_78 : decode cX11_isOwn 78 = .ok (.getfield 159, 3) := by decide +kernel
theorem dX11_isOwn_81 : decode cX11_isOwn 81 = .ok (.ldc2_w 196, 3) := by decide +kernel
theorem dX11_isOwn_84 : decode cX11_isOwn 84 = .ok (.lcmp, 1) := by decide +kernel
theorem dX11_isOwn_85 : decode cX11_isOwn 85 = .ok (.ifCond .eq 146, 3) := by decide +kernel
theorem dX11_isOwn_88 : decode cX11_isOwn 88 = .ok (.aload_n 0, 1) := by decide +kernel
theorem dX11_isOwn_89 : decode cX11_isOwn 89 = .ok (.getfield 159, 3) := by decide +kernel
theorem dX11_isOwn_92 : decode cX11_isOwn 92 = .ok (.ldc2_w 198, 3) := by decide +kernel
theorem dX11_isOwn_95 : decode cX11_isOwn 95 = .ok (.lcmp, 1) := by decide +kernel
theorem dX11_isOwn_96 : decode cX11_isOwn 96 = .ok (.ifCond .eq 135, 3) := by decide +kernel
theorem dX11_isOwn_99 : decode cX11_isOwn 99 = .ok (.aload_n 0, 1) := by decide +kernel
theorem dX11_isOwn_100 : decode cX11_isOwn 100 = .ok (.getfield 159, 3) := by decide +kernel
theorem dX11_isOwn_103 : decode cX11_isOwn 103 = .ok (.ldc2_w 200, 3) := by decide +kernel
theorem dX11_isOwn_106 : decode cX11_isOwn 106 = .ok (.lcmp, 1) := by decide +kernel
theorem dX11_isOwn_107 : decode cX11_isOwn 107 = .ok (.ifCond .eq 124, 3) := by decide +kernel
theorem dX11_isOwn_110 : decode cX11_isOwn 110 = .ok (.aload_n 0, 1) := by decide +kernel
theorem dX11_isOwn_111 : decode cX11_isOwn 111 = .ok (.getfield 159, 3) := by decide +kernel
theorem dX11_isOwn_114 : decode cX11_isOwn 114 = .ok (.ldc2_w 202, 3) := by decide +kernel
theorem dX11_isOwn_117 : decode cX11_isOwn 117 = .ok (.lcmp, 1) := by decide +kernel
theorem dX11_isOwn_118 : decode cX11_isOwn 118 = .ok (.ifCond .eq 113, 3) := by decide +kernel
theorem dX11_isOwn_121 : decode cX11_isOwn 121 = .ok (.aload_n 0, 1) := by decide +kernel
theorem dX11_isOwn_122 : decode cX11_isOwn 122 = .ok (.getfield 159, 3) := by decide +kernel
theorem dX11_isOwn_125 : decode cX11_isOwn 125 = .ok (.ldc2_w 204, 3) := by decide +kernel
theorem dX11_isOwn_128 : decode cX11_isOwn 128 = .ok (.lcmp, 1) := by decide +kernel
theorem dX11_isOwn_129 : decode cX11_isOwn 129 = .ok (.ifCond .eq 102, 3) := by decide +kernel
theorem dX11_isOwn_132 : decode cX11_isOwn 132 = .ok (.aload_n 0, 1) := by decide +kernel
theorem dX11_isOwn_133 : decode cX11_isOwn 133 = .ok (.getfield 159, 3) := by decide +kernel
theorem dX11_isOwn_136 : decode cX11_isOwn 136 = .ok (.ldc2_w 206, 3) := by decide +kernel
theorem dX11_isOwn_139 : decode cX11_isOwn 139 = .ok (.lcmp, 1) := by decide +kernel
theorem dX11_isOwn_140 : decode cX11_isOwn 140 = .ok (.ifCond .eq 91, 3) := by decide +kernel
theorem dX11_isOwn_143 : decode cX11_isOwn 143 = .ok (.aload_n 0, 1) := by decide +kernel
theorem dX11_isOwn_144 : decode cX11_isOwn 144 = .ok (.getfield 159, 3) := by decide +kernel
theorem dX11_isOwn_147 : decode cX11_isOwn 147 = .ok (.ldc2_w 208, 3) := by decide +kernel
theorem dX11_isOwn_150 : decode cX11_isOwn 150 = .ok (.lcmp, 1) := by decide +kernel
theorem dX11_isOwn_151 : decode cX11_isOwn 151 = .ok (.ifCond .eq 80, 3) := by decide +kernel
theorem dX11_isOwn_154 : decode cX11_isOwn 154 = .ok (.aload_n 0, 1) := by decide +kernel
theorem dX11_isOwn_155 : decode cX11_isOwn 155 = .ok (.getfield 159, 3) := by decide +kernel
theorem dX11_isOwn_158 : decode cX11_isOwn 158 = .ok (.ldc2_w 210, 3) := by decide +kernel
theorem dX11_isOwn_161 : decode cX11_isOwn 161 = .ok (.lcmp, 1) := by decide +kernel
theorem dX11_isOwn_162 : decode cX11_isOwn 162 = .ok (.ifCond .eq 69, 3) := by decide +kernel
theorem dX11_isOwn_165 : decode cX11_isOwn 165 = .ok (.aload_n 0, 1) := by decide +kernel
theorem dX11_isOwn_166 : decode cX11_isOwn 166 = .ok (.getfield 159, 3) := by decide +kernel
theorem dX11_isOwn_169 : decode cX11_isOwn 169 = .ok (.ldc2_w 212, 3) := by decide +kernel
theorem dX11_isOwn_172 : decode cX11_isOwn 172 = .ok (.lcmp, 1) := by decide +kernel
theorem dX11_isOwn_173 : decode cX11_isOwn 173 = .ok (.ifCond .eq 58, 3) := by decide +kernel
theorem dX11_isOwn_176 : decode cX11_isOwn 176 = .ok (.aload_n 0, 1) := by decide +kernel
theorem dX11_isOwn_177 : decode cX11_isOwn 177 = .ok (.getfield 159, 3) := by decide +kernel
theorem dX11_isOwn_180 : decode cX11_isOwn 180 = .ok (.ldc2_w 214, 3) := by decide +kernel
theorem dX11_isOwn_183 : decode cX11_isOwn 183 = .ok (.lcmp, 1) := by decide +kernel
theorem dX11_isOwn_184 : decode cX11_isOwn 184 = .ok (.ifCond .eq 47, 3) := by decide +kernel
theorem dX11_isOwn_187 : decode cX11_isOwn 187 = .ok (.aload_n 0, 1) := by decide +kernel
theorem dX11_isOwn_188 : decode cX11_isOwn 188 = .ok (.getfield 159, 3) := by decide +kernel
theorem dX11_isOwn_191 : decode cX11_isOwn 191 = .ok (.ldc2_w 216, 3) := by decide +kernel
theorem dX11_isOwn_194 : decode cX11_isOwn 194 = .ok (.lcmp, 1) := by decide +kernel
theorem dX11_isOwn_195 : decode cX11_isOwn 195 = .ok (.ifCond .eq 36, 3) := by decide +kernel
theorem dX11_isOwn_198 : decode cX11_isOwn 198 = .ok (.aload_n 0, 1) := by decide +kernel
theorem dX11_isOwn_199 : decode cX11_isOwn 199 = .ok (.getfield 159, 3) := by decide +kernel
theorem dX11_isOwn_202 : decode cX11_isOwn 202 = .ok (.ldc2_w 218, 3) := by decide +kernel
theorem dX11_isOwn_205 : decode cX11_isOwn 205 = .ok (.lcmp, 1) := by decide +kernel
theorem dX11_isOwn_206 : decode cX11_isOwn 206 = .ok (.ifCond .eq 25, 3) := by decide +kernel
theorem dX11_isOwn_209 : decode cX11_isOwn 209 = .ok (.aload_n 0, 1) := by decide +kernel
theorem dX11_isOwn_210 : decode cX11_isOwn 210 = .ok (.getfield 159, 3) := by decide +kernel
theorem dX11_isOwn_213 : decode cX11_isOwn 213 = .ok (.ldc2_w 220, 3) := by decide +kernel
theorem dX11_isOwn_216 : decode cX11_isOwn 216 = .ok (.lcmp, 1) := by decide +kernel
theorem dX11_isOwn_217 : decode cX11_isOwn 217 = .ok (.ifCond .eq 14, 3) := by decide +kernel
theorem dX11_isOwn_220 : decode cX11_isOwn 220 = .ok (.aload_n 0, 1) := by decide +kernel
theorem dX11_isOwn_221 : decode cX11_isOwn 221 = .ok (.getfield 159, 3) := by decide +kernel
theorem dX11_isOwn_224 : decode cX11_isOwn 224 = .ok (.ldc2_w 222, 3) := by decide +kernel
theorem dX11_isOwn_227 : decode cX11_isOwn 227 = .ok (.lcmp, 1) := by decide +kernel
theorem dX11_isOwn_228 : decode cX11_isOwn 228 = .ok (.ifCond .ne 7, 3) := by decide +kernel
theorem dX11_isOwn_231 : decode cX11_isOwn 231 = .ok (.iconst 1, 1) := by decide +kernel
theorem dX11_isOwn_232 : decode cX11_isOwn 232 = .ok (.goto 4, 3) := by decide +kernel
theorem dX11_isOwn_235 : decode cX11_isOwn 235 = .ok (.iconst 0, 1) := by decide +kernel
theorem dX11_isOwn_236 : decode cX11_isOwn 236 = .ok (.ireturn, 1) := by decide +kernel
theorem dX11_isRest_0 : decode cX11_isRest 0 = .ok (.iconst 1, 1) := by decide +kernel
theorem dX11_isRest_1 : decode cX11_isRest 1 = .ok (.istore 6, 2) := by decide +kernel
theorem dX11_isRest_3 : decode cX11_isRest 3 = .ok (.iconst 0, 1) := by decide +kernel
theorem dX11_isRest_4 : decode cX11_isRest 4 = .ok (.istore 7, 2) := by decide +kernel
theorem dX11_isRest_6 : decode cX11_isRest 6 = .ok (.iload 7, 2) := by decide +kernel
theorem dX11_isRest_8 : decode cX11_isRest 8 = .ok (.aload_n 0, 1) := by decide +kernel
theorem dX11_isRest_9 : decode cX11_isRest 9 = .ok (.getfield 390, 3) := by decide +kernel
theorem dX11_isRest_12 : decode cX11_isRest 12 = .ok (.if_icmp .ge 73, 3) := by decide +kernel
theorem dX11_isRest_15 : decode cX11_isRest 15 = .ok (.iload 5, 2) := by decide +kernel
theorem dX11_isRest_17 : decode cX11_isRest 17 = .ok (.iload 7, 2) := by decide +kernel
theorem dX11_isRest_19 : decode cX11_isRest 19 = .ok (.ishr, 1) := by decide +kernel
theorem dX11_isRest_20 : decode cX11_isRest 20 = .ok (.iconst 1, 1) := by decide +kernel
theorem dX11_isRest_21 : decode cX11_isRest 21 = .ok (.iand, 1) := by decide +kernel
theorem dX11_isRest_22 : decode cX11_isRest 22 = .ok (.ifCond .ne 6, 3) := by decide +kernel
theorem dX11_isRest_25 : decode cX11_isRest 25 = .ok (.goto 54, 3) := by decide +kernel
theorem dX11_isRest_28 : decode cX11_isRest 28 = .ok (.iload 6, 2) := by decide +kernel
theorem dX11_isRest_30 : decode cX11_isRest 30 = .ok (.ifCond .eq 46, 3) := by decide +kernel
theorem dX11_isRest_33 : decode cX11_isRest 33 = .ok (.aload_n 0, 1) := by decide +kernel
theorem dX11_isRest_34 : decode cX11_isRest 34 = .ok (.iload_n 1, 1) := by decide +kernel
theorem dX11_isRest_35 : decode cX11_isRest 35 = .ok (.iload 7, 2) := by decide +kernel
theorem dX11_isRest_37 : decode cX11_isRest 37 = .ok (.iload 4, 2) := by decide +kernel
theorem dX11_isRest_39 : decode cX11_isRest 39 = .ok (.invokevirtual 508, 3) := by decide +kernel
theorem dX11_isRest_42 : decode cX11_isRest 42 = .ok (.aload_n 0, 1) := by decide +kernel
theorem dX11_isRest_43 : decode cX11_isRest 43 = .ok (.iload_n 1, 1) := by decide +kernel
theorem dX11_isRest_44 : decode cX11_isRest 44 = .ok (.iload_n 3, 1) := by decide +kernel
theorem dX11_isRest_45 : decode cX11_isRest 45 = .ok (.iload 4, 2) := by decide +kernel
theorem dX11_isRest_47 : decode cX11_isRest 47 = .ok (.invokevirtual 508, 3) := by decide +kernel
theorem dX11_isRest_50 : decode cX11_isRest 50 = .ok (.if_icmp .lt 26, 3) := by decide +kernel
theorem dX11_isRest_53 : decode cX11_isRest 53 = .ok (.aload_n 0, 1) := by decide +kernel
theorem dX11_isRest_54 : decode cX11_isRest 54 = .ok (.iload_n 2, 1) := by decide +kernel
theorem dX11_isRest_55 : decode cX11_isRest 55 = .ok (.iload 7, 2) := by decide +kernel
theorem dX11_isRest_57 : decode cX11_isRest 57 = .ok (.iload_n 3, 1) := by decide +kernel
theorem dX11_isRest_58 : decode cX11_isRest 58 = .ok (.invokevirtual 508, 3) := by decide +kernel
theorem dX11_isRest_61 : decode cX11_isRest 61 = .ok (.aload_n 0, 1) := by decide +kernel
theorem dX11_isRest_62 : decode cX11_isRest 62 = .ok (.iload_n 2, 1) := by decide +kernel
theorem dX11_isRest_63 : decode cX11_isRest 63 = .ok (.iload 4, 2) := by decide +kernel
theorem dX11_isRest_65 : decode cX11_isRest 65 = .ok (.iload_n 3, 1) := by decide +kernel
theorem dX11_isRest_66 : decode cX11_isRest 66 = .ok (.invokevirtual 508, 3) := by decide +kernel
theorem dX11_isRest_69 : decode cX11_isRest 69 = .ok (.if_icmp .lt 7, 3) := by decide +kernel
theorem dX11_isRest_72 : decode cX11_isRest 72 = .ok (.iconst 1, 1) := by decide +kernel
theorem dX11_isRest_73 : decode cX11_isRest 73 = .ok (.goto 4, 3) := by decide +kernel
theorem dX11_isRest_76 : decode cX11_isRest 76 = .ok (.iconst 0, 1) := by decide +kernel
theorem dX11_isRest_77 : decode cX11_isRest 77 = .ok (.istore 6, 2) := by decide +kernel
theorem dX11_isRest_79 : decode cX11_isRest 79 = .ok (.iinc 7 1, 3) := by decide +kernel
theorem dX11_isRest_82 : decode cX11_isRest 82 = .ok (.goto (-76), 3) := by decide +kernel
theorem dX11_isRest_85 : decode cX11_isRest 85 = .ok (.iload 6, 2) := by decide +kernel
theorem dX11_isRest_87 : decode cX11_isRest 87 = .ok (.ireturn, 1) := by decide +kernel
theorem dX11_isSewn_0 : decode cX11_isSewn 0 = .ok (.aload_n 0, 1) := by decide +kernel
theorem dX11_isSewn_1 : decode cX11_isSewn 1 = .ok (.invokevirtual 449, 3) := by decide +kernel
theorem dX11_isSewn_4 : decode cX11_isSewn 4 = .ok (.aload_n 0, 1) := by decide +kernel
theorem dX11_isSewn_5 : decode cX11_isSewn 5 = .ok (.getfield 96, 3) := by decide +kernel
theorem dX11_isSewn_8 : decode cX11_isSewn 8 = .ok (.bipush 12, 2) := by decide +kernel
theorem dX11_isSewn_10 : decode cX11_isSewn 10 = .ok (.iload_n 1, 1) := by decide +kernel
theorem dX11_isSewn_11 : decode cX11_isSewn 11 = .ok (.iadd, 1) := by decide +kernel
theorem dX11_isSewn_12 : decode cX11_isSewn 12 = .ok (.dup2, 1) := by decide +kernel
theorem dX11_isSewn_13 : decode cX11_isSewn 13 = .ok (.iaload, 1) := by decide +kernel
theorem dX11_isSewn_14 : decode cX11_isSewn 14 = .ok (.iload_n 3, 1) := by decide +kernel
theorem dX11_isSewn_15 : decode cX11_isSewn 15 = .ok (.isub, 1) := by decide +kernel
theorem dX11_isSewn_16 : decode cX11_isSewn 16 = .ok (.iastore, 1) := by decide +kernel
theorem dX11_isSewn_17 : decode cX11_isSewn 17 = .ok (.aload_n 0, 1) := by decide +kernel
theorem dX11_isSewn_18 : decode cX11_isSewn 18 = .ok (.getfield 96, 3) := by decide +kernel
theorem dX11_isSewn_21 : decode cX11_isSewn 21 = .ok (.bipush 18, 2) := by decide +kernel
theorem dX11_isSewn_23 : decode cX11_isSewn 23 = .ok (.iload_n 1, 1) := by decide +kernel
theorem dX11_isSewn_24 : decode cX11_isSewn 24 = .ok (.iadd, 1) := by decide +kernel
theorem dX11_isSewn_25 : decode cX11_isSewn 25 = .ok (.dup2, 1) := by decide +kernel
theorem dX11_isSewn_26 : decode cX11_isSewn 26 = .ok (.iaload, 1) := by decide +kernel
theorem dX11_isSewn_27 : decode cX11_isSewn 27 = .ok (.iload 4, 2) := by decide +kernel
theorem dX11_isSewn_29 : decode cX11_isSewn 29 = .ok (.isub, 1) := by decide +kernel
theorem dX11_isSewn_30 : decode cX11_isSewn 30 = .ok (.iastore, 1) := by decide +kernel
theorem dX11_isSewn_31 : decode cX11_isSewn 31 = .ok (.aload_n 0, 1) := by decide +kernel
theorem dX11_isSewn_32 : decode cX11_isSewn 32 = .ok (.iload_n 2, 1) := by decide +kernel
theorem dX11_isSewn_33 : decode cX11_isSewn 33 = .ok (.iload_n 1, 1) := by decide +kernel
theorem dX11_isSewn_34 : decode cX11_isSewn 34 = .ok (.invokevirtual 421, 3) := by decide +kernel
theorem dX11_isSewn_37 : decode cX11_isSewn 37 = .ok (.aload_n 0, 1) := by decide +kernel
theorem dX11_isSewn_38 : decode cX11_isSewn 38 = .ok (.getfield 84, 3) := by decide +kernel
theorem dX11_isSewn_41 : decode cX11_isSewn 41 = .ok (.if_icmp .gt 7, 3) := by decide +kernel
theorem dX11_isSewn_44 : decode cX11_isSewn 44 = .ok (.iconst 1, 1) := by decide +kernel
theorem dX11_isSewn_45 : decode cX11_isSewn 45 = .ok (.goto 4, 3) := by decide +kernel
theorem dX11_isSewn_48 : decode cX11_isSewn 48 = .ok (.iconst 0, 1) := by decide +kernel
theorem dX11_isSewn_49 : decode cX11_isSewn 49 = .ok (.ireturn, 1) := by decide +kernel
theorem dX11_isSign_0 : decode cX11_isSign 0 = .ok (.iload_n 0, 1) := by decide +kernel
theorem dX11_isSign_1 : decode cX11_isSign 1 = .ok (.bipush 59, 2) := by decide +kernel
theorem dX11_isSign_3 : decode cX11_isSign 3 = .ok (.if_icmp .eq 63, 3) := by decide +kernel
theorem dX11_isSign_6 : decode cX11_isSign 6 = .ok (.iload_n 0, 1) := by decide +kernel
theorem dX11_isSign_7 : decode cX11_isSign 7 = .ok (.bipush 40, 2) := by decide +kernel
theorem dX11_isSign_9 : decode cX11_isSign 9 = .ok (.if_icmp .eq 57, 3) := by decide +kernel
theorem dX11_isSign_12 : decode cX11_isSign 12 = .ok (.iload_n 0, 1) := by decide +kernel
theorem dX11_isSign_13 : decode cX11_isSign 13 = .ok (.bipush 41, 2) := by decide +kernel
theorem dX11_isSign_15 : decode cX11_isSign 15 = .ok (.if_icmp .eq 51, 3) := by decide +kernel
theorem dX11_isSign_18 : decode cX11_isSign 18 = .ok (.iload_n 0, 1) := by decide +kernel
theorem dX11_isSign_19 : decode cX11_isSign 19 = .ok (.bipush 60, 2) := by decide +kernel
theorem dX11_isSign_21 : decode cX11_isSign 21 = .ok (.if_icmp .eq 45, 3) := by decide +kernel
theorem dX11_isSign_24 : decode cX11_isSign 24 = .ok (.iload_n 0, 1) := by decide +kernel
theorem dX11_isSign_25 : decode cX11_isSign 25 = .ok (.bipush 62, 2) := by decide +kernel
theorem dX11_isSign_27 : decode cX11_isSign 27 = .ok (.if_icmp .eq 39, 3) := by decide +kernel
theorem dX11_isSign_30 : decode cX11_isSign 30 = .ok (.iload_n 0, 1) := by decide +kernel
theorem dX11_isSign_31 : decode cX11_isSign 31 = .ok (.bipush 61, 2) := by decide +kernel
theorem dX11_isSign_33 : decode cX11_isSign 33 = .ok (.if_icmp .eq 33, 3) := by decide +kernel
theorem dX11_isSign_36 : decode cX11_isSign 36 = .ok (.iload_n 0, 1) := by decide +kernel
theorem dX11_isSign_37 : decode cX11_isSign 37 = .ok (.bipush 43, 2) := by decide +kernel
theorem dX11_isSign_39 : decode cX11_isSign 39 = .ok (.if_icmp .eq 27, 3) := by decide +kernel
theorem dX11_isSign_42 : decode cX11_isSign 42 = .ok (.iload_n 0, 1) := by decide +kernel
theorem dX11_isSign_43 : decode cX11_isSign 43 = .ok (.bipush 45, 2) := by decide +kernel
theorem dX11_isSign_45 : decode cX11_isSign 45 = .ok (.if_icmp .eq 21, 3) := by decide +kernel
theorem dX11_isSign_48 : decode cX11_isSign 48 = .ok (.iload_n 0, 1) := by decide +kernel
theorem dX11_isSign_49 : decode cX11_isSign 49 = .ok (.bipush 42, 2) := by decide +kernel
theorem dX11_isSign_51 : decode cX11_isSign 51 = .ok (.if_icmp .eq 15, 3) := by decide +kernel
theorem dX11_isSign_54 : decode cX11_isSign 54 = .ok (.iload_n 0, 1) := by decide +kernel
theorem dX11_isSign_55 : decode cX11_isSign 55 = .ok (.bipush 47, 2) := by decide +kernel
theorem dX11_isSign_57 : decode cX11_isSign 57 = .ok (.if_icmp .eq 9, 3) := by decide +kernel
theorem dX11_isSign_60 : decode cX11_isSign 60 = .ok (.iload_n 0, 1) := by decide +kernel
theorem dX11_isSign_61 : decode cX11_isSign 61 = .ok (.bipush 37, 2) := by decide +kernel
theorem dX11_isSign_63 : decode cX11_isSign 63 = .ok (.if_icmp .ne 7, 3) := by decide +kernel
theorem dX11_isSign_66 : decode cX11_isSign 66 = .ok (.iconst 1, 1) := by decide +kernel
theorem dX11_isSign_67 : decode cX11_isSign 67 = .ok (.goto 4, 3) := by decide +kernel
theorem dX11_isSign_70 : decode cX11_isSign 70 = .ok (.iconst 0, 1) := by decide +kernel
theorem dX11_isSign_71 : decode cX11_isSign 71 = .ok (.ireturn, 1) := by decide +kernel
theorem dX11_isWord_0 : decode cX11_isWord 0 = .ok (.aload_n 0, 1) := by decide +kernel
theorem dX11_isWord_1 : decode cX11_isWord 1 = .ok (.getfield 166, 3) := by decide +kernel
theorem dX11_isWord_4 : decode cX11_isWord 4 = .ok (.iconst 1, 1) := by decide +kernel
theorem dX11_isWord_5 : decode cX11_isWord 5 = .ok (.if_icmp .ne 16, 3) := by decide +kernel
theorem dX11_isWord_8 : decode cX11_isWord 8 = .ok (.aload_n 0, 1) := by decide +kernel
theorem dX11_isWord_9 : decode cX11_isWord 9 = .ok (.getfield 159, 3) := by decide +kernel
theorem dX11_isWord_12 : decode cX11_isWord 12 = .ok (.lload_n 1, 1) := by decide +kernel
theorem dX11_isWord_13 : decode cX11_isWord 13 = .ok (.lcmp, 1) := by decide +kernel
theorem dX11_isWord_14 : decode cX11_isWord 14 = .ok (.ifCond .ne 7, 3) := by decide +kernel
theorem dX11_isWord_17 : decode cX11_isWord 17 = .ok (.iconst 1, 1) := by decide +kernel
theorem dX11_isWord_18 : decode cX11_isWord 18 = .ok (.goto 4, 3) := by decide +kernel
theorem dX11_isWord_21 : decode cX11_isWord 21 = .ok (.iconst 0, 1) := by decide +kernel
theorem dX11_isWord_22 : decode cX11_isWord 22 = .ok (.ireturn, 1) := by decide +kernel
theorem dX11_keepAir_0 : decode cX11_keepAir 0 = .ok (.iconst 0, 1) := by decide +kernel
theorem dX11_keepAir_1 : decode cX11_keepAir 1 = .ok (.istore_n 1, 1) := by decide +kernel
theorem dX11_keepAir_2 : decode cX11_keepAir 2 = .ok (.iload_n 1, 1) := by decide +kernel
theorem dX11_keepAir_3 : decode cX11_keepAir 3 = .ok (.bipush 39, 2) := by decide +kernel
theorem dX11_keepAir_5 : decode cX11_keepAir 5 = .ok (.if_icmp .ge 21, 3) := by decide +kernel
theorem dX11_keepAir_8 : decode cX11_keepAir 8 = .ok (.aload_n 0, 1) := by decide +kernel
theorem dX11_keepAir_9 : decode cX11_keepAir 9 = .ok (.getfield 93, 3) := by decide +kernel
theorem dX11_keepAir_12 : decode cX11_keepAir 12 = .ok (.iload_n 1, 1) := by decide +kernel
theorem dX11_keepAir_13 : decode cX11_keepAir 13 = .ok (.aload_n 0, 1) := by decide +kernel
theorem dX11_keepAir_14 : decode cX11_keepAir 14 = .ok (.getfield 96, 3) := by decide +kernel
theorem dX11_keepAir_17 : decode cX11_keepAir 17 = .ok (.iload_n 1, 1) := by decide +kernel
theorem dX11_keepAir_18 : decode cX11_keepAir 18 = .ok (.iaload, 1) := by decide +kernel
theorem dX11_keepAir_19 : decode cX11_keepAir 19 = .ok (.iastore, 1) := by decide +kernel
theorem dX11_keepAir_20 : decode cX11_keepAir 20 = .ok (.iinc 1 1, 3) := by decide +kernel
theorem dX11_keepAir_23 : decode cX11_keepAir 23 = .ok (.goto (-21), 3) := by decide +kernel
theorem dX11_keepAir_26 : decode cX11_keepAir 26 = .ok (.return_, 1) := by decide +kernel
theorem dX11_later_0 : decode cX11_later 0 = .ok (.iload_n 1, 1) := by decide +kernel
theorem dX11_later_1 : decode cX11_later 1 = .ok (.ifCond .lt 22, 3) := by decide +kernel
theorem dX11_later_4 : decode cX11_later 4 = .ok (.iload_n 1, 1) := by decide +kernel
theorem dX11_later_5 : decode cX11_later 5 = .ok (.sipush 1000, 3) := by decide +kernel
theorem dX11_later_8 : decode cX11_later 8 = .ok (.if_icmp .gt 15, 3) := by decide +kernel
theorem dX11_later_11 : decode cX11_later 11 = .ok (.aload_n 0, 1) := by decide +kernel
theorem dX11_later_12 : decode cX11_later 12 = .ok (.getfield 527, 3) := by decide +kernel
theorem dX11_later_15 : decode cX11_later 15 = .ok (.iload_n 1, 1) := by decide +kernel
theorem dX11_later_16 : decode cX11_later 16 = .ok (.iadd, 1) := by decide +kernel
theorem dX11_later_17 : decode cX11_later 17 = .ok (.ldc_w 530, 3) := by decide +kernel
theorem dX11_later_20 : decode cX11_later 20 = .ok (.if_icmp .le 5, 3) := by decide +kernel
theorem dX11_later_23 : decode cX11_later 23 = .ok (.iconst (-1), 1) := by decide +kernel
theorem dX11_later_24 : decode cX11_later 24 = .ok (.ireturn, 1) := by decide +kernel
theorem dX11_later_25 : decode cX11_later 25 = .ok (.aload_n 0, 1) := by decide +kernel
theorem dX11_later_26 : decode cX11_later 26 = .ok (.dup, 1) := by decide +kernel
theorem dX11_later_27 : decode cX11_later 27 = .ok (.getfield 527, 3) := by decide +kernel
theorem dX11_later_30 : decode cX11_later 30 = .ok (.iload_n 1, 1) := by decide +kernel
theorem dX11_later_31 : decode cX11_later 31 = .ok (.iadd, 1) := by decide +kernel
theorem dX11_later_32 : decode cX11_later 32 = .ok (.putfield 527, 3) := by decide +kernel
theorem dX11_later_35 : decode cX11_later 35 = .ok (.aload_n 0, 1) := by decide +kernel
theorem dX11_later_36 : decode cX11_later 36 = .ok (.getfield 527, 3) := by decide +kernel
theorem dX11_later_39 : decode cX11_later 39 = .ok (.ireturn, 1) := by decide +kernel
theorem dX11_law_0 : decode cX11_law 0 = .ok (.iload_n 1, 1) := by decide +kernel
theorem dX11_law_1 : decode cX11_law 1 = .ok (.iconst 0, 1) := by decide +kernel
theorem dX11_law_2 : decode cX11_law 2 = .ok (.sipush 999, 3) := by decide +kernel
theorem dX11_law_5 : decode cX11_law 5 = .ok (.invokestatic 417, 3) := by decide +kernel
theorem dX11_law_8 : decode cX11_law 8 = .ok (.ifCond .ne 5, 3) := by decide +kernel
theorem dX11_law_11 : decode cX11_law 11 = .ok (.iconst (-1), 1) := by decide +kernel
theorem dX11_law_12 : decode cX11_law 12 = .ok (.ireturn, 1) := by decide +kernel
theorem dX11_law_13 : decode cX11_law 13 = .ok (.aload_n 0, 1) := by decide +kernel
theorem dX11_law_14 : decode cX11_law 14 = .ok (.invokevirtual 449, 3) := by decide +kernel
theorem dX11_law_17 : decode cX11_law 17 = .ok (.iconst 0, 1) := by decide +kernel
theorem dX11_law_18 : decode cX11_law 18 = .ok (.istore_n 2, 1) := by decide +kernel
theorem dX11_law_19 : decode cX11_law 19 = .ok (.iconst 0, 1) := by decide +kernel
theorem dX11_law_20 : decode cX11_law 20 = .ok (.istore_n 3, 1) := by decide +kernel
theorem dX11_law_21 : decode cX11_law 21 = .ok (.iload_n 3, 1) := by decide +kernel
theorem dX11_law_22 : decode cX11_law 22 = .ok (.aload_n 0, 1) := by decide +kernel
theorem dX11_law_23 : decode cX11_law 23 = .ok (.getfield 387, 3) := by decide +kernel
theorem dX11_law_26 : decode cX11_law 26 = .ok (.if_icmp .ge 37, 3) := by decide +kernel
theorem dX11_law_29 : decode cX11_law 29 = .ok (.iload_n 2, 1) := by decide +kernel
theorem dX11_law_30 : decode cX11_law 30 = .ok (.aload_n 0, 1) := by decide +kernel
theorem dX11_law_31 : decode cX11_law 31 = .ok (.iload_n 3, 1) := by decide +kernel
theorem dX11_law_32 : decode cX11_law 32 = .ok (.invokevirtual 521, 3) := by decide +kernel
theorem dX11_law_35 : decode cX11_law 35 = .ok (.ifCond .lt 16, 3) := by decide +kernel
theorem dX11_law_38 : decode cX11_law 38 = .ok (.aload_n 0, 1) := by decide +kernel
theorem dX11_law_39 : decode cX11_law 39 = .ok (.iload_n 3, 1) := by decide +kernel
theorem dX11_law_40 : decode cX11_law 40 = .ok (.invokevirtual 521, 3) := by decide +kernel
theorem dX11_law_43 : decode cX11_law 43 = .ok (.iload_n 1, 1) := by decide +kernel
theorem dX11_law_44 : decode cX11_law 44 = .ok (.if_icmp .gt 7, 3) := by decide +kernel
theorem dX11_law_47 : decode cX11_law 47 = .ok (.iconst 1, 1) := by decide +kernel
theorem dX11_law_48 : decode cX11_law 48 = .ok (.goto 4, 3) := by decide +kernel
theorem dX11_law_51 : decode cX11_law 51 = .ok (.iconst 0, 1) := by decide +kernel
theorem dX11_law_52 : decode cX11_law 52 = .ok (.invokestatic 310, 3) := by decide +kernel
theorem dX11_law_55 : decode cX11_law 55 = .ok (.iadd, 1) := by decide +kernel
theorem dX11_law_56 : decode cX11_law 56 = .ok (.istore_n 2, 1) := by decide +kernel
theorem dX11_law_57 : decode cX11_law 57 = .ok (.iinc 3 1, 3) := by decide +kernel
theorem dX11_law_60 : decode cX11_law 60 = .ok (.goto (-39), 3) := by decide +kernel
theorem dX11_law_63 : decode cX11_law 63 = .ok (.iload_n 2, 1) := by decide +kernel
theorem dX11_law_64 : decode cX11_law 64 = .ok (.ireturn, 1) := by decide +kernel
theorem dX11_layColours_0 : decode cX11_layColours 0 = .ok (.iload_n 2, 1) := by decide +kernel
theorem dX11_layColours_1 : decode cX11_layColours 1 = .ok (.istore_n 3, 1) := by decide +kernel
theorem dX11_layColours_2 : decode cX11_layColours 2 = .ok (.aload_n 0, 1) := by decide +kernel
theorem dX11_layColours_3 : decode cX11_layColours 3 = .ok (.getfield 387, 3) := by decide +kernel
theorem dX11_layColours_6 : decode cX11_layColours 6 = .ok (.iconst 1, 1) := by decide +kernel
theorem dX11_layColours_7 : decode cX11_layColours 7 = .ok (.isub, 1) := by decide +kernel
theorem dX11_layColours_8 : decode cX11_layColours 8 = .ok (.istore 4, 2) := by decide +kernel
theorem dX11_layColours_10 : decode cX11_layColours 10 = .ok (.iload 4, 2) := by decide +kernel
theorem dX11_layColours_12 : decode cX11_layColours 12 = .ok (.ifCond .lt 23, 3) := by decide +kernel
theorem dX11_layColours_15 : decode cX11_layColours 15 = .ok (.aload_n 0, 1) := by decide +kernel
theorem dX11_layColours_16 : decode cX11_layColours 16 = .ok (.getfield 105, 3) := by decide +kernel
theorem dX11_layColours_19 : decode cX11_layColours 19 = .ok (.iload 4, 2) := by decide +kernel
theorem dX11_layColours_21 : decode cX11_layColours 21 = .ok (.iload_n 3, 1) := by decide +kernel
theorem dX11_layColours_22 : decode cX11_layColours 22 = .ok (.iload_n 1, 1) := by decide +kernel
theorem dX11_layColours_23 : decode cX11_layColours 23 = .ok (.irem, 1) := by decide +kernel
theorem dX11_layColours_24 : decode cX11_layColours 24 = .ok (.iastore, 1) := by decide +kernel
theorem dX11_layColours_25 : decode cX11_layColours 25 = .ok (.iload_n 3, 1) := by decide +kernel
theorem dX11_layColours_26 : decode cX11_layColours 26 = .ok (.iload_n 1, 1) := by decide +kernel
theorem dX11_layColours_27 : decode cX11_layColours 27 = .ok (.idiv, 1) := by decide +kernel
theorem dX11_layColours_28 : decode cX11_layColours 28 = .ok (.istore_n 3, 1) := by decide +kernel
theorem dX11_layColours_29 : decode cX11_layColours 29 = .ok (.iinc 4 (-1), 3) := by decide +kernel
theorem dX11_layColours_32 : decode cX11_layColours 32 = .ok (.goto (-22), 3) := by decide +kernel
theorem dX11_layColours_35 : decode cX11_layColours 35 = .ok (.iconst 1, 1) := by decide +kernel
theorem dX11_layColours_36 : decode cX11_layColours 36 = .ok (.istore 4, 2) := by decide +kernel
theorem dX11_layColours_38 : decode cX11_layColours 38 = .ok (.iconst 0, 1) := by decide +kernel
theorem dX11_layColours_39 : decode cX11_layColours 39 = .ok (.istore 5, 2) := by decide +kernel
theorem dX11_layColours_41 : decode cX11_layColours 41 = .ok (.iload 5, 2) := by decide +kernel
theorem dX11_layColours_43 : decode cX11_layColours 43 = .ok (.aload_n 0, 1) := by decide +kernel
theorem dX11_layColours_44 : decode cX11_layColours 44 = .ok (.getfield 387, 3) := by decide +kernel
theorem dX11_layColours_47 : decode cX11_layColours 47 = .ok (.if_icmp .ge 65, 3) := by decide +kernel
theorem dX11_layColours_50 : decode cX11_layColours 50 = .ok (.iconst 0, 1) := by decide +kernel
theorem dX11_layColours_51 : decode cX11_layColours 51 = .ok (.istore 6, 2) := by decide +kernel
theorem dX11_layColours_53 : decode cX11_layColours 53 = .ok (.iload 6, 2) := by decide +kernel
theorem dX11_layColours_55 : decode cX11_layColours 55 = .ok (.iload 5, 2) := by decide +kernel
theorem dX11_layColours_57 : decode cX11_layColours 57 = .ok (.if_icmp .ge 49, 3) := by decide +kernel
theorem dX11_layColours_60 : decode cX11_layColours 60 = .ok (.iload 4, 2) := by decide +kernel
theorem dX11_layColours_62 : decode cX11_layColours 62 = .ok (.ifCond .eq 35, 3) := by decide +kernel
