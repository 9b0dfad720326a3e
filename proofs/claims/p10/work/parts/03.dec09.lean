theorem dX4_copy_25 : decode cX4_copy 25 = .ok (.iconst 0, 1) := by decide +kernel
theorem dX4_copy_26 : decode cX4_copy 26 = .ok (.sipush 300, 3) := by decide +kernel
theorem dX4_copy_29 : decode cX4_copy 29 = .ok (.invokestatic 31, 3) := by decide +kernel
theorem dX4_copy_32 : decode cX4_copy 32 = .ok (.aload_n 0, 1) := by decide +kernel
theorem dX4_copy_33 : decode cX4_copy 33 = .ok (.aload_n 1, 1) := by decide +kernel
theorem dX4_copy_34 : decode cX4_copy 34 = .ok (.getfield 24, 3) := by decide +kernel
theorem dX4_copy_37 : decode cX4_copy 37 = .ok (.putfield 24, 3) := by decide +kernel
theorem dX4_copy_40 : decode cX4_copy 40 = .ok (.aload_n 0, 1) := by decide +kernel
theorem dX4_copy_41 : decode cX4_copy 41 = .ok (.aload_n 1, 1) := by decide +kernel
theorem dX4_copy_42 : decode cX4_copy 42 = .ok (.getfield 28, 3) := by decide +kernel
theorem dX4_copy_45 : decode cX4_copy 45 = .ok (.putfield 28, 3) := by decide +kernel
theorem dX4_copy_48 : decode cX4_copy 48 = .ok (.return_, 1) := by decide +kernel
theorem dX4_init_0 : decode cX4_init 0 = .ok (.aload_n 0, 1) := by decide +kernel
theorem dX4_init_1 : decode cX4_init 1 = .ok (.invokespecial 3, 3) := by decide +kernel
theorem dX4_init_4 : decode cX4_init 4 = .ok (.aload_n 0, 1) := by decide +kernel
theorem dX4_init_5 : decode cX4_init 5 = .ok (.sipush 300, 3) := by decide +kernel
theorem dX4_init_8 : decode cX4_init 8 = .ok (.newarray .int, 2) := by decide +kernel
theorem dX4_init_10 : decode cX4_init 10 = .ok (.putfield 11, 3) := by decide +kernel
theorem dX4_init_13 : decode cX4_init 13 = .ok (.aload_n 0, 1) := by decide +kernel
theorem dX4_init_14 : decode cX4_init 14 = .ok (.sipush 300, 3) := by decide +kernel
theorem dX4_init_17 : decode cX4_init 17 = .ok (.newarray .int, 2) := by decide +kernel
theorem dX4_init_19 : decode cX4_init 19 = .ok (.putfield 15, 3) := by decide +kernel
theorem dX4_init_22 : decode cX4_init 22 = .ok (.aload_n 0, 1) := by decide +kernel
theorem dX4_init_23 : decode cX4_init 23 = .ok (.bipush 30, 2) := by decide +kernel
theorem dX4_init_25 : decode cX4_init 25 = .ok (.newarray .int, 2) := by decide +kernel
theorem dX4_init_27 : decode cX4_init 27 = .ok (.putfield 18, 3) := by decide +kernel
theorem dX4_init_30 : decode cX4_init 30 = .ok (.aload_n 0, 1) := by decide +kernel
theorem dX4_init_31 : decode cX4_init 31 = .ok (.bipush 6, 2) := by decide +kernel
theorem dX4_init_33 : decode cX4_init 33 = .ok (.newarray .int, 2) := by decide +kernel
theorem dX4_init_35 : decode cX4_init 35 = .ok (.putfield 21, 3) := by decide +kernel
theorem dX4_init_38 : decode cX4_init 38 = .ok (.return_, 1) := by decide +kernel
theorem dX4_joined_0 : decode cX4_joined 0 = .ok (.iload_n 0, 1) := by decide +kernel
theorem dX4_joined_1 : decode cX4_joined 1 = .ok (.lookupswitch 188 #[(37, 115), (42, 99), (43, 91), (45, 95), (47, 103), (60, 127), (61, 149), (62, 138), (113, 174), (114, 160)], 91) := by decide +kernel
theorem dX4_joined_92 : decode cX4_joined 92 = .ok (.iload_n 1, 1) := by decide +kernel
theorem dX4_joined_93 : decode cX4_joined 93 = .ok (.iload_n 2, 1) := by decide +kernel
theorem dX4_joined_94 : decode cX4_joined 94 = .ok (.iadd, 1) := by decide +kernel
theorem dX4_joined_95 : decode cX4_joined 95 = .ok (.ireturn, 1) := by decide +kernel
theorem dX4_joined_96 : decode cX4_joined 96 = .ok (.iload_n 1, 1) := by decide +kernel
theorem dX4_joined_97 : decode cX4_joined 97 = .ok (.iload_n 2, 1) := by decide +kernel
theorem dX4_joined_98 : decode cX4_joined 98 = .ok (.isub, 1) := by decide +kernel
theorem dX4_joined_99 : decode cX4_joined 99 = .ok (.ireturn, 1) := by decide +kernel
theorem dX4_joined_100 : decode cX4_joined 100 = .ok (.iload_n 1, 1) := by decide +kernel
theorem dX4_joined_101 : decode cX4_joined 101 = .ok (.iload_n 2, 1) := by decide +kernel
theorem dX4_joined_102 : decode cX4_joined 102 = .ok (.imul, 1) := by decide +kernel
theorem dX4_joined_103 : decode cX4_joined 103 = .ok (.ireturn, 1) := by decide +kernel
theorem dX4_joined_104 : decode cX4_joined 104 = .ok (.iload_n 2, 1) := by decide +kernel
theorem dX4_joined_105 : decode cX4_joined 105 = .ok (.ifCond .ne 7, 3) := by decide +kernel
theorem dX4_joined_108 : decode cX4_joined 108 = .ok (.iconst 0, 1) := by decide +kernel
theorem dX4_joined_109 : decode cX4_joined 109 = .ok (.goto 6, 3) := by decide +kernel
theorem dX4_joined_112 : decode cX4_joined 112 = .ok (.iload_n 1, 1) := by decide +kernel
theorem dX4_joined_113 : decode cX4_joined 113 = .ok (.iload_n 2, 1) := by decide +kernel
theorem dX4_joined_114 : decode cX4_joined 114 = .ok (.idiv, 1) := by decide +kernel
theorem dX4_joined_115 : decode cX4_joined 115 = .ok (.ireturn, 1) := by decide +kernel
theorem dX4_joined_116 : decode cX4_joined 116 = .ok (.iload_n 2, 1) := by decide +kernel
theorem dX4_joined_117 : decode cX4_joined 117 = .ok (.ifCond .ne 7, 3) := by decide +kernel
theorem dX4_joined_120 : decode cX4_joined 120 = .ok (.iconst 0, 1) := by decide +kernel
theorem dX4_joined_121 : decode cX4_joined 121 = .ok (.goto 6, 3) := by decide +kernel
theorem dX4_joined_124 : decode cX4_joined 124 = .ok (.iload_n 1, 1) := by decide +kernel
theorem dX4_joined_125 : decode cX4_joined 125 = .ok (.iload_n 2, 1) := by decide +kernel
theorem dX4_joined_126 : decode cX4_joined 126 = .ok (.irem, 1) := by decide +kernel
theorem dX4_joined_127 : decode cX4_joined 127 = .ok (.ireturn, 1) := by decide +kernel
theorem dX4_joined_128 : decode cX4_joined 128 = .ok (.iload_n 1, 1) := by decide +kernel
theorem dX4_joined_129 : decode cX4_joined 129 = .ok (.iload_n 2, 1) := by decide +kernel
theorem dX4_joined_130 : decode cX4_joined 130 = .ok (.if_icmp .ge 7, 3) := by decide +kernel
theorem dX4_joined_133 : decode cX4_joined 133 = .ok (.iconst 1, 1) := by decide +kernel
theorem dX4_joined_134 : decode cX4_joined 134 = .ok (.goto 4, 3) := by decide +kernel
theorem dX4_joined_137 : decode cX4_joined 137 = .ok (.iconst 0, 1) := by decide +kernel
theorem dX4_joined_138 : decode cX4_joined 138 = .ok (.ireturn, 1) := by decide +kernel
theorem dX4_joined_139 : decode cX4_joined 139 = .ok (.iload_n 1, 1) := by decide +kernel
theorem dX4_joined_140 : decode cX4_joined 140 = .ok (.iload_n 2, 1) := by decide +kernel
theorem dX4_joined_141 : decode cX4_joined 141 = .ok (.if_icmp .le 7, 3) := by decide +kernel
theorem dX4_joined_144 : decode cX4_joined 144 = .ok (.iconst 1, 1) := by decide +kernel
theorem dX4_joined_145 : decode cX4_joined 145 = .ok (.goto 4, 3) := by decide +kernel
theorem dX4_joined_148 : decode cX4_joined 148 = .ok (.iconst 0, 1) := by decide +kernel
theorem dX4_joined_149 : decode cX4_joined 149 = .ok (.ireturn, 1) := by decide +kernel
theorem dX4_joined_150 : decode cX4_joined 150 = .ok (.iload_n 1, 1) := by decide +kernel
theorem dX4_joined_151 : decode cX4_joined 151 = .ok (.iload_n 2, 1) := by decide +kernel
theorem dX4_joined_152 : decode cX4_joined 152 = .ok (.if_icmp .ne 7, 3) := by decide +kernel
theorem dX4_joined_155 : decode cX4_joined 155 = .ok (.iconst 1, 1) := by decide +kernel
theorem dX4_joined_156 : decode cX4_joined 156 = .ok (.goto 4, 3) := by decide +kernel
theorem dX4_joined_159 : decode cX4_joined 159 = .ok (.iconst 0, 1) := by decide +kernel
theorem dX4_joined_160 : decode cX4_joined 160 = .ok (.ireturn, 1) := by decide +kernel
theorem dX4_joined_161 : decode cX4_joined 161 = .ok (.iload_n 1, 1) := by decide +kernel
theorem dX4_joined_162 : decode cX4_joined 162 = .ok (.ifCond .eq 11, 3) := by decide +kernel
theorem dX4_joined_165 : decode cX4_joined 165 = .ok (.iload_n 2, 1) := by decide +kernel
theorem dX4_joined_166 : decode cX4_joined 166 = .ok (.ifCond .eq 7, 3) := by decide +kernel
theorem dX4_joined_169 : decode cX4_joined 169 = .ok (.iconst 1, 1) := by decide +kernel
theorem dX4_joined_170 : decode cX4_joined 170 = .ok (.goto 4, 3) := by decide +kernel
theorem dX4_joined_173 : decode cX4_joined 173 = .ok (.iconst 0, 1) := by decide +kernel
theorem dX4_joined_174 : decode cX4_joined 174 = .ok (.ireturn, 1) := by decide +kernel
theorem dX4_joined_175 : decode cX4_joined 175 = .ok (.iload_n 1, 1) := by decide +kernel
theorem dX4_joined_176 : decode cX4_joined 176 = .ok (.ifCond .ne 7, 3) := by decide +kernel
theorem dX4_joined_179 : decode cX4_joined 179 = .ok (.iload_n 2, 1) := by decide +kernel
theorem dX4_joined_180 : decode cX4_joined 180 = .ok (.ifCond .eq 7, 3) := by decide +kernel
theorem dX4_joined_183 : decode cX4_joined 183 = .ok (.iconst 1, 1) := by decide +kernel
theorem dX4_joined_184 : decode cX4_joined 184 = .ok (.goto 4, 3) := by decide +kernel
theorem dX4_joined_187 : decode cX4_joined 187 = .ok (.iconst 0, 1) := by decide +kernel
theorem dX4_joined_188 : decode cX4_joined 188 = .ok (.ireturn, 1) := by decide +kernel
theorem dX4_joined_189 : decode cX4_joined 189 = .ok (.iconst 0, 1) := by decide +kernel
theorem dX4_joined_190 : decode cX4_joined 190 = .ok (.ireturn, 1) := by decide +kernel
theorem dX4_worth_0 : decode cX4_worth 0 = .ok (.aload_n 0, 1) := by decide +kernel
theorem dX4_worth_1 : decode cX4_worth 1 = .ok (.getfield 21, 3) := by decide +kernel
theorem dX4_worth_4 : decode cX4_worth 4 = .ok (.iconst 0, 1) := by decide +kernel
theorem dX4_worth_5 : decode cX4_worth 5 = .ok (.iconst 0, 1) := by decide +kernel
theorem dX4_worth_6 : decode cX4_worth 6 = .ok (.iload_n 2, 1) := by decide +kernel
theorem dX4_worth_7 : decode cX4_worth 7 = .ok (.iload 4, 2) := by decide +kernel
theorem dX4_worth_9 : decode cX4_worth 9 = .ok (.isub, 1) := by decide +kernel
theorem dX4_worth_10 : decode cX4_worth 10 = .ok (.invokestatic 37, 3) := by decide +kernel
theorem dX4_worth_13 : decode cX4_worth 13 = .ok (.iastore, 1) := by decide +kernel
theorem dX4_worth_14 : decode cX4_worth 14 = .ok (.aload_n 0, 1) := by decide +kernel
theorem dX4_worth_15 : decode cX4_worth 15 = .ok (.getfield 21, 3) := by decide +kernel
theorem dX4_worth_18 : decode cX4_worth 18 = .ok (.iconst 1, 1) := by decide +kernel
theorem dX4_worth_19 : decode cX4_worth 19 = .ok (.iconst 0, 1) := by decide +kernel
theorem dX4_worth_20 : decode cX4_worth 20 = .ok (.iload 4, 2) := by decide +kernel
theorem dX4_worth_22 : decode cX4_worth 22 = .ok (.iload_n 2, 1) := by decide +kernel
theorem dX4_worth_23 : decode cX4_worth 23 = .ok (.isub, 1) := by decide +kernel
theorem dX4_worth_24 : decode cX4_worth 24 = .ok (.invokestatic 37, 3) := by decide +kernel
theorem dX4_worth_27 : decode cX4_worth 27 = .ok (.iastore, 1) := by decide +kernel
theorem dX4_worth_28 : decode cX4_worth 28 = .ok (.aload_n 0, 1) := by decide +kernel
theorem dX4_worth_29 : decode cX4_worth 29 = .ok (.getfield 21, 3) := by decide +kernel
theorem dX4_worth_32 : decode cX4_worth 32 = .ok (.iconst 2, 1) := by decide +kernel
theorem dX4_worth_33 : decode cX4_worth 33 = .ok (.iconst 0, 1) := by decide +kernel
theorem dX4_worth_34 : decode cX4_worth 34 = .ok (.iload_n 1, 1) := by decide +kernel
theorem dX4_worth_35 : decode cX4_worth 35 = .ok (.iload_n 3, 1) := by decide +kernel
theorem dX4_worth_36 : decode cX4_worth 36 = .ok (.isub, 1) := by decide +kernel
theorem dX4_worth_37 : decode cX4_worth 37 = .ok (.invokestatic 37, 3) := by decide +kernel
theorem dX4_worth_40 : decode cX4_worth 40 = .ok (.iastore, 1) := by decide +kernel
theorem dX4_worth_41 : decode cX4_worth 41 = .ok (.aload_n 0, 1) := by decide +kernel
theorem dX4_worth_42 : decode cX4_worth 42 = .ok (.getfield 21, 3) := by decide +kernel
theorem dX4_worth_45 : decode cX4_worth 45 = .ok (.iconst 3, 1) := by decide +kernel
theorem dX4_worth_46 : decode cX4_worth 46 = .ok (.iconst 0, 1) := by decide +kernel
theorem dX4_worth_47 : decode cX4_worth 47 = .ok (.iload_n 3, 1) := by decide +kernel
theorem dX4_worth_48 : decode cX4_worth 48 = .ok (.iload_n 1, 1) := by decide +kernel
theorem dX4_worth_49 : decode cX4_worth 49 = .ok (.isub, 1) := by decide +kernel
theorem dX4_worth_50 : decode cX4_worth 50 = .ok (.invokestatic 37, 3) := by decide +kernel
theorem dX4_worth_53 : decode cX4_worth 53 = .ok (.iastore, 1) := by decide +kernel
theorem dX4_worth_54 : decode cX4_worth 54 = .ok (.aload_n 0, 1) := by decide +kernel
theorem dX4_worth_55 : decode cX4_worth 55 = .ok (.getfield 21, 3) := by decide +kernel
theorem dX4_worth_58 : decode cX4_worth 58 = .ok (.iconst 4, 1) := by decide +kernel
theorem dX4_worth_59 : decode cX4_worth 59 = .ok (.iload 5, 2) := by decide +kernel
theorem dX4_worth_61 : decode cX4_worth 61 = .ok (.iastore, 1) := by decide +kernel
theorem dX4_worth_62 : decode cX4_worth 62 = .ok (.aload_n 0, 1) := by decide +kernel
theorem dX4_worth_63 : decode cX4_worth 63 = .ok (.getfield 21, 3) := by decide +kernel
theorem dX4_worth_66 : decode cX4_worth 66 = .ok (.iconst 5, 1) := by decide +kernel
theorem dX4_worth_67 : decode cX4_worth 67 = .ok (.iload 6, 2) := by decide +kernel
theorem dX4_worth_69 : decode cX4_worth 69 = .ok (.iastore, 1) := by decide +kernel
theorem dX4_worth_70 : decode cX4_worth 70 = .ok (.aload_n 0, 1) := by decide +kernel
theorem dX4_worth_71 : decode cX4_worth 71 = .ok (.getfield 24, 3) := by decide +kernel
theorem dX4_worth_74 : decode cX4_worth 74 = .ok (.ifCond .ne 44, 3) := by decide +kernel
theorem dX4_worth_77 : decode cX4_worth 77 = .ok (.sipush 999, 3) := by decide +kernel
theorem dX4_worth_80 : decode cX4_worth 80 = .ok (.aload_n 0, 1) := by decide +kernel
theorem dX4_worth_81 : decode cX4_worth 81 = .ok (.getfield 21, 3) := by decide +kernel
theorem dX4_worth_84 : decode cX4_worth 84 = .ok (.iconst 0, 1) := by decide +kernel
theorem dX4_worth_85 : decode cX4_worth 85 = .ok (.iaload, 1) := by decide +kernel
theorem dX4_worth_86 : decode cX4_worth 86 = .ok (.iconst 3, 1) := by decide +kernel
theorem dX4_worth_87 : decode cX4_worth 87 = .ok (.imul, 1) := by decide +kernel
theorem dX4_worth_88 : decode cX4_worth 88 = .ok (.aload_n 0, 1) := by decide +kernel
theorem dX4_worth_89 : decode cX4_worth 89 = .ok (.getfield 21, 3) := by decide +kernel
theorem dX4_worth_92 : decode cX4_worth 92 = .ok (.iconst 1, 1) := by decide +kernel
theorem dX4_worth_93 : decode cX4_worth 93 = .ok (.iaload, 1) := by decide +kernel
theorem dX4_worth_94 : decode cX4_worth 94 = .ok (.iadd, 1) := by decide +kernel
theorem dX4_worth_95 : decode cX4_worth 95 = .ok (.aload_n 0, 1) := by decide +kernel
theorem dX4_worth_96 : decode cX4_worth 96 = .ok (.getfield 21, 3) := by decide +kernel
theorem dX4_worth_99 : decode cX4_worth 99 = .ok (.iconst 2, 1) := by decide +kernel
theorem dX4_worth_100 : decode cX4_worth 100 = .ok (.iaload, 1) := by decide +kernel
theorem dX4_worth_101 : decode cX4_worth 101 = .ok (.iconst 2, 1) := by decide +kernel
theorem dX4_worth_102 : decode cX4_worth 102 = .ok (.imul, 1) := by decide +kernel
theorem dX4_worth_103 : decode cX4_worth 103 = .ok (.iadd, 1) := by decide +kernel
theorem dX4_worth_104 : decode cX4_worth 104 = .ok (.aload_n 0, 1) := by decide +kernel
theorem dX4_worth_105 : decode cX4_worth 105 = .ok (.getfield 21, 3) := by decide +kernel
theorem dX4_worth_108 : decode cX4_worth 108 = .ok (.iconst 3, 1) := by decide +kernel
theorem dX4_worth_109 : decode cX4_worth 109 = .ok (.iaload, 1) := by decide +kernel
theorem dX4_worth_110 : decode cX4_worth 110 = .ok (.iadd, 1) := by decide +kernel
theorem dX4_worth_111 : decode cX4_worth 111 = .ok (.iload 5, 2) := by decide +kernel
theorem dX4_worth_113 : decode cX4_worth 113 = .ok (.iadd, 1) := by decide +kernel
theorem dX4_worth_114 : decode cX4_worth 114 = .ok (.invokestatic 43, 3) := by decide +kernel
theorem dX4_worth_117 : decode cX4_worth 117 = .ok (.ireturn, 1) := by decide +kernel
theorem dX4_worth_118 : decode cX4_worth 118 = .ok (.iconst 0, 1) := by decide +kernel
theorem dX4_worth_119 : decode cX4_worth 119 = .ok (.istore 7, 2) := by decide +kernel
theorem dX4_worth_121 : decode cX4_worth 121 = .ok (.iconst 0, 1) := by decide +kernel
theorem dX4_worth_122 : decode cX4_worth 122 = .ok (.istore 8, 2) := by decide +kernel
theorem dX4_worth_124 : decode cX4_worth 124 = .ok (.iload 8, 2) := by decide +kernel
theorem dX4_worth_126 : decode cX4_worth 126 = .ok (.aload_n 0, 1) := by decide +kernel
theorem dX4_worth_127 : decode cX4_worth 127 = .ok (.getfield 24, 3) := by decide +kernel
theorem dX4_worth_130 : decode cX4_worth 130 = .ok (.if_icmp .ge 175, 3) := by decide +kernel
theorem dX4_worth_133 : decode cX4_worth 133 = .ok (.iload 8, 2) := by decide +kernel
theorem dX4_worth_135 : decode cX4_worth 135 = .ok (.sipush 300, 3) := by decide +kernel
theorem dX4_worth_138 : decode cX4_worth 138 = .ok (.if_icmp .ge 167, 3) := by decide +kernel
theorem dX4_worth_141 : decode cX4_worth 141 = .ok (.aload_n 0, 1) := by decide +kernel
theorem dX4_worth_142 : decode cX4_worth 142 = .ok (.getfield 11, 3) := by decide +kernel
theorem dX4_worth_145 : decode cX4_worth 145 = .ok (.iload 8, 2) := by decide +kernel
theorem dX4_worth_147 : decode cX4_worth 147 = .ok (.iaload, 1) := by decide +kernel
theorem dX4_worth_148 : decode cX4_worth 148 = .ok (.istore 9, 2) := by decide +kernel
theorem dX4_worth_150 : decode cX4_worth 150 = .ok (.iload 9, 2) := by decide +kernel
theorem dX4_worth_152 : decode cX4_worth 152 = .ok (.iconst 2, 1) := by decide +kernel
theorem dX4_worth_153 : decode cX4_worth 153 = .ok (.if_icmp .eq 17, 3) := by decide +kernel
theorem dX4_worth_156 : decode cX4_worth 156 = .ok (.iload 9, 2) := by decide +kernel
theorem dX4_worth_158 : decode cX4_worth 158 = .ok (.bipush 116, 2) := by decide +kernel
theorem dX4_worth_160 : decode cX4_worth 160 = .ok (.if_icmp .lt 56, 3) := by decide +kernel
theorem dX4_worth_163 : decode cX4_worth 163 = .ok (.iload 9, 2) := by decide +kernel
theorem dX4_worth_165 : decode cX4_worth 165 = .ok (.bipush 122, 2) := by decide +kernel
theorem dX4_worth_167 : decode cX4_worth 167 = .ok (.if_icmp .ge 49, 3) := by decide +kernel
theorem dX4_worth_170 : decode cX4_worth 170 = .ok (.iload 7, 2) := by decide +kernel
theorem dX4_worth_172 : decode cX4_worth 172 = .ok (.bipush 30, 2) := by decide +kernel
theorem dX4_worth_174 : decode cX4_worth 174 = .ok (.if_icmp .ge 125, 3) := by decide +kernel
theorem dX4_worth_177 : decode cX4_worth 177 = .ok (.aload_n 0, 1) := by decide +kernel
theorem dX4_worth_178 : decode cX4_worth 178 = .ok (.getfield 18, 3) := by decide +kernel
theorem dX4_worth_181 : decode cX4_worth 181 = .ok (.iload 7, 2) := by decide +kernel
theorem dX4_worth_183 : decode cX4_worth 183 = .ok (.iload 9, 2) := by decide +kernel
theorem dX4_worth_185 : decode cX4_worth 185 = .ok (.iconst 2, 1) := by decide +kernel
theorem dX4_worth_186 : decode cX4_worth 186 = .ok (.if_icmp .ne 13, 3) := by decide +kernel
theorem dX4_worth_189 : decode cX4_worth 189 = .ok (.aload_n 0, 1) := by decide +kernel
theorem dX4_worth_190 : decode cX4_worth 190 = .ok (.getfield 15, 3) := by decide +kernel
theorem dX4_worth_193 : decode cX4_worth 193 = .ok (.iload 8, 2) := by decide +kernel
theorem dX4_worth_195 : decode cX4_worth 195 = .ok (.iaload, 1) := by decide +kernel
theorem dX4_worth_196 : decode cX4_worth 196 = .ok (.goto 13, 3) := by decide +kernel
theorem dX4_worth_199 : decode cX4_worth 199 = .ok (.aload_n 0, 1) := by decide +kernel
theorem dX4_worth_200 : decode cX4_worth 200 = .ok (.getfield 21, 3) := by decide +kernel
theorem dX4_worth_203 : decode cX4_worth 203 = .ok (.iload 9, 2) := by decide +kernel
theorem dX4_worth_205 : decode cX4_worth 205 = .ok (.bipush 116, 2) := by decide +kernel
theorem dX4_worth_207 : decode cX4_worth 207 = .ok (.isub, 1) := by decide +kernel
theorem dX4_worth_208 : decode cX4_worth 208 = .ok (.iaload, 1) := by decide +kernel
theorem dX4_worth_209 : decode cX4_worth 209 = .ok (.iastore, 1) := by decide +kernel
theorem dX4_worth_210 : decode cX4_worth 210 = .ok (.iinc 7 1, 3) := by decide +kernel
theorem dX4_worth_213 : decode cX4_worth 213 = .ok (.goto 86, 3) := by decide +kernel
theorem dX4_worth_216 : decode cX4_worth 216 = .ok (.iload 9, 2) := by decide +kernel
theorem dX4_worth_218 : decode cX4_worth 218 = .ok (.bipush 115, 2) := by decide +kernel
theorem dX4_worth_220 : decode cX4_worth 220 = .ok (.if_icmp .ne 38, 3) := by decide +kernel
theorem dX4_worth_223 : decode cX4_worth 223 = .ok (.iload 7, 2) := by decide +kernel
theorem dX4_worth_225 : decode cX4_worth 225 = .ok (.iconst 1, 1) := by decide +kernel
theorem dX4_worth_226 : decode cX4_worth 226 = .ok (.if_icmp .lt 32, 3) := by decide +kernel
theorem dX4_worth_229 : decode cX4_worth 229 = .ok (.aload_n 0, 1) := by decide +kernel
theorem dX4_worth_230 : decode cX4_worth 230 = .ok (.getfield 18, 3) := by decide +kernel
theorem dX4_worth_233 : decode cX4_worth 233 = .ok (.iload 7, 2) := by decide +kernel
theorem dX4_worth_235 : decode cX4_worth 235 = .ok (.iconst 1, 1) := by decide +kernel
theorem dX4_worth_236 : decode cX4_worth 236 = .ok (.isub, 1) := by decide +kernel
theorem dX4_worth_237 : decode cX4_worth 237 = .ok (.aload_n 0, 1) := by decide +kernel
theorem dX4_worth_238 : decode cX4_worth 238 = .ok (.getfield 18, 3) := by decide +kernel
theorem dX4_worth_241 : decode cX4_worth 241 = .ok (.iload 7, 2) := by decide +kernel
theorem dX4_worth_243 : decode cX4_worth 243 = .ok (.iconst 1, 1) := by decide +kernel
theorem dX4_worth_244 : decode cX4_worth 244 = .ok (.isub, 1) := by decide +kernel
theorem dX4_worth_245 : decode cX4_worth 245 = .ok (.iaload, 1) := by decide +kernel
theorem dX4_worth_246 : decode cX4_worth 246 = .ok (.ifCond .ne 7, 3) := by decide +kernel
theorem dX4_worth_249 : decode cX4_worth 249 = .ok (.iconst 1, 1) := by decide +kernel
theorem dX4_worth_250 : decode cX4_worth 250 = .ok (.goto 4, 3) := by decide +kernel
theorem dX4_worth_253 : decode cX4_worth 253 = .ok (.iconst 0, 1) := by decide +kernel
theorem dX4_worth_254 : decode cX4_worth 254 = .ok (.iastore, 1) := by decide +kernel
theorem dX4_worth_255 : decode cX4_worth 255 = .ok (.goto 44, 3) := by decide +kernel
theorem dX4_worth_258 : decode cX4_worth 258 = .ok (.iload 7, 2) := by decide +kernel
theorem dX4_worth_260 : decode cX4_worth 260 = .ok (.iconst 2, 1) := by decide +kernel
theorem dX4_worth_261 : decode cX4_worth 261 = .ok (.if_icmp .lt 38, 3) := by decide +kernel
theorem dX4_worth_264 : decode cX4_worth 264 = .ok (.aload_n 0, 1) := by decide +kernel
theorem dX4_worth_265 : decode cX4_worth 265 = .ok (.getfield 18, 3) := by decide +kernel
theorem dX4_worth_268 : decode cX4_worth 268 = .ok (.iload 7, 2) := by decide +kernel
theorem dX4_worth_270 : decode cX4_worth 270 = .ok (.iconst 2, 1) := by decide +kernel
theorem dX4_worth_271 : decode cX4_worth 271 = .ok (.isub, 1) := by decide +kernel
theorem dX4_worth_272 : decode cX4_worth 272 = .ok (.iload 9, 2) := by decide +kernel
theorem dX4_worth_274 : decode cX4_worth 274 = .ok (.aload_n 0, 1) := by decide +kernel
theorem dX4_worth_275 : decode cX4_worth 275 = .ok (.getfield 18, 3) := by decide +kernel
theorem dX4_worth_278 : decode cX4_worth 278 = .ok (.iload 7, 2) := by decide +kernel
theorem dX4_worth_280 : decode cX4_worth 280 = .ok (.iconst 2, 1) := by decide +kernel
theorem dX4_worth_281 : decode cX4_worth 281 = .ok (.isub, 1) := by decide +kernel
theorem dX4_worth_282 : decode cX4_worth 282 = .ok (.iaload, 1) := by decide +kernel
theorem dX4_worth_283 : decode cX4_worth 283 = .ok (.aload_n 0, 1) := by decide +kernel
theorem dX4_worth_284 : decode cX4_worth 284 = .ok (.getfield 18, 3) := by decide +kernel
theorem dX4_worth_287 : decode cX4_worth 287 = .ok (.iload 7, 2) := by decide +kernel
theorem dX4_worth_289 : decode cX4_worth 289 = .ok (.iconst 1, 1) := by decide +kernel
theorem dX4_worth_290 : decode cX4_worth 290 = .ok (.isub, 1) := by decide +kernel
theorem dX4_worth_291 : decode cX4_worth 291 = .ok (.iaload, 1) := by decide +kernel
theorem dX4_worth_292 : decode cX4_worth 292 = .ok (.invokestatic 46, 3) := by decide +kernel
theorem dX4_worth_295 : decode cX4_worth 295 = .ok (.iastore, 1) := by decide +kernel
theorem dX4_worth_296 : decode cX4_worth 296 = .ok (.iinc 7 (-1), 3) := by decide +kernel
theorem dX4_worth_299 : decode cX4_worth 299 = .ok (.iinc 8 1, 3) := by decide +kernel
theorem dX4_worth_302 : decode cX4_worth 302 = .ok (.goto (-178), 3) := by decide +kernel
theorem dX4_worth_305 : decode cX4_worth 305 = .ok (.iconst 0, 1) := by decide +kernel
theorem dX4_worth_306 : decode cX4_worth 306 = .ok (.sipush 999, 3) := by decide +kernel
theorem dX4_worth_309 : decode cX4_worth 309 = .ok (.aload_n 0, 1) := by decide +kernel
theorem dX4_worth_310 : decode cX4_worth 310 = .ok (.getfield 18, 3) := by decide +kernel
theorem dX4_worth_313 : decode cX4_worth 313 = .ok (.iconst 0, 1) := by decide +kernel
theorem dX4_worth_314 : decode cX4_worth 314 = .ok (.iaload, 1) := by decide +kernel
theorem dX4_worth_315 : decode cX4_worth 315 = .ok (.invokestatic 43, 3) := by decide +kernel
theorem dX4_worth_318 : decode cX4_worth 318 = .ok (.invokestatic 37, 3) := by decide +kernel
theorem dX4_worth_321 : decode cX4_worth 321 = .ok (.ireturn, 1) := by decide +kernel
theorem dX5_fillBox_0 : decode cX5_fillBox 0 = .ok (.iload_n 1, 1) := by decide +kernel
theorem dX5_fillBox_1 : decode cX5_fillBox 1 = .ok (.ifCond .lt 8, 3) := by decide +kernel
theorem dX5_fillBox_4 : decode cX5_fillBox 4 = .ok (.iload_n 1, 1) := by decide +kernel
theorem dX5_fillBox_5 : decode cX5_fillBox 5 = .ok (.iconst 3, 1) := by decide +kernel
theorem dX5_fillBox_6 : decode cX5_fillBox 6 = .ok (.if_icmp .lt 5, 3) := by decide +kernel
theorem dX5_fillBox_9 : decode cX5_fillBox 9 = .ok (.iconst 0, 1) := by decide +kernel
theorem dX5_fillBox_10 : decode cX5_fillBox 10 = .ok (.ireturn, 1) := by decide +kernel
theorem dX5_fillBox_11 : decode cX5_fillBox 11 = .ok (.aload_n 0, 1) := by decide +kernel
theorem dX5_fillBox_12 : decode cX5_fillBox 12 = .ok (.getfield 20, 3) := by decide +kernel
theorem dX5_fillBox_15 : decode cX5_fillBox 15 = .ok (.aload_n 0, 1) := by decide +kernel
theorem dX5_fillBox_16 : decode cX5_fillBox 16 = .ok (.getfield 17, 3) := by decide +kernel
theorem dX5_fillBox_19 : decode cX5_fillBox 19 = .ok (.iload_n 1, 1) := by decide +kernel
theorem dX5_fillBox_20 : decode cX5_fillBox 20 = .ok (.invokevirtual 24, 3) := by decide +kernel
theorem dX5_fillBox_23 : decode cX5_fillBox 23 = .ok (.aload_n 0, 1) := by decide +kernel
theorem dX5_fillBox_24 : decode cX5_fillBox 24 = .ok (.dup, 1) := by decide +kernel
theorem dX5_fillBox_25 : decode cX5_fillBox 25 = .ok (.getfield 28, 3) := by decide +kernel
theorem dX5_fillBox_28 : decode cX5_fillBox 28 = .ok (.iconst 1, 1) := by decide +kernel
theorem dX5_fillBox_29 : decode cX5_fillBox 29 = .ok (.iload_n 1, 1) := by decide +kernel
theorem dX5_fillBox_30 : decode cX5_fillBox 30 = .ok (.ishl, 1) := by decide +kernel
theorem dX5_fillBox_31 : decode cX5_fillBox 31 = .ok (.ior, 1) := by decide +kernel
theorem dX5_fillBox_32 : decode cX5_fillBox 32 = .ok (.putfield 28, 3) := by decide +kernel
theorem dX5_fillBox_35 : decode cX5_fillBox 35 = .ok (.iconst 1, 1) := by decide +kernel
theorem dX5_fillBox_36 : decode cX5_fillBox 36 = .ok (.ireturn, 1) := by decide +kernel
theorem dX5_forgetActs_0 : decode cX5_forgetActs 0 = .ok (.aload_n 0, 1) := by decide +kernel
theorem dX5_forgetActs_1 : decode cX5_forgetActs 1 = .ok (.iconst 0, 1) := by decide +kernel
theorem dX5_forgetActs_2 : decode cX5_forgetActs 2 = .ok (.putfield 35, 3) := by decide +kernel
theorem dX5_forgetActs_5 : decode cX5_forgetActs 5 = .ok (.aload_n 0, 1) := by decide +kernel
theorem dX5_forgetActs_6 : decode cX5_forgetActs 6 = .ok (.iconst 0, 1) := by decide +kernel
theorem dX5_forgetActs_7 : decode cX5_forgetActs 7 = .ok (.putfield 38, 3) := by decide +kernel
theorem dX5_forgetActs_10 : decode cX5_forgetActs 10 = .ok (.aload_n 0, 1) := by decide +kernel
theorem dX5_forgetActs_11 : decode cX5_forgetActs 11 = .ok (.iconst 0, 1) := by decide +kernel
theorem dX5_forgetActs_12 : decode cX5_forgetActs 12 = .ok (.putfield 41, 3) := by decide +kernel
theorem dX5_forgetActs_15 : decode cX5_forgetActs 15 = .ok (.aload_n 0, 1) := by decide +kernel
theorem dX5_forgetActs_16 : decode cX5_forgetActs 16 = .ok (.getfield 20, 3) := by decide +kernel
theorem dX5_forgetActs_19 : decode cX5_forgetActs 19 = .ok (.aload_n 0, 1) := by decide +kernel
theorem dX5_forgetActs_20 : decode cX5_forgetActs 20 = .ok (.getfield 13, 3) := by decide +kernel
theorem dX5_forgetActs_23 : decode cX5_forgetActs 23 = .ok (.iconst 0, 1) := by decide +kernel
theorem dX5_forgetActs_24 : decode cX5_forgetActs 24 = .ok (.invokevirtual 24, 3) := by decide +kernel
theorem dX5_forgetActs_27 : decode cX5_forgetActs 27 = .ok (.return_, 1) := by decide +kernel
theorem dX5_forgetAll_0 : decode cX5_forgetAll 0 = .ok (.aload_n 0, 1) := by decide +kernel
theorem dX5_forgetAll_1 : decode cX5_forgetAll 1 = .ok (.iconst 0, 1) := by decide +kernel
theorem dX5_forgetAll_2 : decode cX5_forgetAll 2 = .ok (.putfield 28, 3) := by decide +kernel
theorem dX5_forgetAll_5 : decode cX5_forgetAll 5 = .ok (.aload_n 0, 1) := by decide +kernel
theorem dX5_forgetAll_6 : decode cX5_forgetAll 6 = .ok (.invokevirtual 32, 3) := by decide +kernel
theorem dX5_forgetAll_9 : decode cX5_forgetAll 9 = .ok (.return_, 1) := by decide +kernel
theorem dX5_init_0 : decode cX5_init 0 = .ok (.aload_n 0, 1) := by decide +kernel
theorem dX5_init_1 : decode cX5_init 1 = .ok (.invokespecial 3, 3) := by decide +kernel
theorem dX5_init_4 : decode cX5_init 4 = .ok (.aload_n 0, 1) := by decide +kernel
theorem dX5_init_5 : decode cX5_init 5 = .ok (.sipush 1804, 3) := by decide +kernel
theorem dX5_init_8 : decode cX5_init 8 = .ok (.newarray .int, 2) := by decide +kernel
theorem dX5_init_10 : decode cX5_init 10 = .ok (.putfield 13, 3) := by decide +kernel
theorem dX5_init_13 : decode cX5_init 13 = .ok (.aload_n 0, 1) := by decide +kernel
theorem dX5_init_14 : decode cX5_init 14 = .ok (.sipush 132, 3) := by decide +kernel
theorem dX5_init_17 : decode cX5_init 17 = .ok (.newarray .int, 2) := by decide +kernel
theorem dX5_init_19 : decode cX5_init 19 = .ok (.putfield 17, 3) := by decide +kernel
theorem dX5_init_22 : decode cX5_init 22 = .ok (.aload_n 0, 1) := by decide +kernel
theorem dX5_init_23 : decode cX5_init 23 = .ok (.aload_n 1, 1) := by decide +kernel
theorem dX5_init_24 : decode cX5_init 24 = .ok (.putfield 20, 3) := by decide +kernel
theorem dX5_init_27 : decode cX5_init 27 = .ok (.aload_n 1, 1) := by decide +kernel
theorem dX5_init_28 : decode cX5_init 28 = .ok (.aload_n 0, 1) := by decide +kernel
theorem dX5_init_29 : decode cX5_init 29 = .ok (.getfield 13, 3) := by decide +kernel
theorem dX5_init_32 : decode cX5_init 32 = .ok (.iconst 0, 1) := by decide +kernel
theorem dX5_init_33 : decode cX5_init 33 = .ok (.invokevirtual 24, 3) := by decide +kernel
theorem dX5_init_36 : decode cX5_init 36 = .ok (.return_, 1) := by decide +kernel
theorem dX5_keepAct_0 : decode cX5_keepAct 0 = .ok (.aload_n 0, 1) := by decide +kernel
theorem dX5_keepAct_1 : decode cX5_keepAct 1 = .ok (.iconst 0, 1) := by decide +kernel
theorem dX5_keepAct_2 : decode cX5_keepAct 2 = .ok (.putfield 41, 3) := by decide +kernel
theorem dX5_keepAct_5 : decode cX5_keepAct 5 = .ok (.aload_n 0, 1) := by decide +kernel
theorem dX5_keepAct_6 : decode cX5_keepAct 6 = .ok (.getfield 38, 3) := by decide +kernel
theorem dX5_keepAct_9 : decode cX5_keepAct 9 = .ok (.bipush 40, 2) := by decide +kernel
theorem dX5_keepAct_11 : decode cX5_keepAct 11 = .ok (.if_icmp .ge 16, 3) := by decide +kernel
theorem dX5_keepAct_14 : decode cX5_keepAct 14 = .ok (.aload_n 0, 1) := by decide +kernel
theorem dX5_keepAct_15 : decode cX5_keepAct 15 = .ok (.dup, 1) := by decide +kernel
theorem dX5_keepAct_16 : decode cX5_keepAct 16 = .ok (.getfield 38, 3) := by decide +kernel
theorem dX5_keepAct_19 : decode cX5_keepAct 19 = .ok (.iconst 1, 1) := by decide +kernel
theorem dX5_keepAct_20 : decode cX5_keepAct 20 = .ok (.iadd, 1) := by decide +kernel
theorem dX5_keepAct_21 : decode cX5_keepAct 21 = .ok (.putfield 38, 3) := by decide +kernel
theorem dX5_keepAct_24 : decode cX5_keepAct 24 = .ok (.goto 16, 3) := by decide +kernel
theorem dX5_keepAct_27 : decode cX5_keepAct 27 = .ok (.aload_n 0, 1) := by decide +kernel
theorem dX5_keepAct_28 : decode cX5_keepAct 28 = .ok (.aload_n 0, 1) := by decide +kernel
theorem dX5_keepAct_29 : decode cX5_keepAct 29 = .ok (.getfield 35, 3) := by decide +kernel
theorem dX5_keepAct_32 : decode cX5_keepAct 32 = .ok (.iconst 1, 1) := by decide +kernel
theorem dX5_keepAct_33 : decode cX5_keepAct 33 = .ok (.iadd, 1) := by decide +kernel
theorem dX5_keepAct_34 : decode cX5_keepAct 34 = .ok (.bipush 41, 2) := by decide +kernel
theorem dX5_keepAct_36 : decode cX5_keepAct 36 = .ok (.irem, 1) := by decide +kernel
theorem dX5_keepAct_37 : decode cX5_keepAct 37 = .ok (.putfield 35, 3) := by decide +kernel
theorem dX5_keepAct_40 : decode cX5_keepAct 40 = .ok (.aload_n 0, 1) := by decide +kernel
theorem dX5_keepAct_41 : decode cX5_keepAct 41 = .ok (.getfield 20, 3) := by decide +kernel
theorem dX5_keepAct_44 : decode cX5_keepAct 44 = .ok (.aload_n 0, 1) := by decide +kernel
theorem dX5_keepAct_45 : decode cX5_keepAct 45 = .ok (.getfield 13, 3) := by decide +kernel
theorem dX5_keepAct_48 : decode cX5_keepAct 48 = .ok (.aload_n 0, 1) := by decide +kernel
theorem dX5_keepAct_49 : decode cX5_keepAct 49 = .ok (.getfield 35, 3) := by decide +kernel
theorem dX5_keepAct_52 : decode cX5_keepAct 52 = .ok (.aload_n 0, 1) := by decide +kernel
theorem dX5_keepAct_53 : decode cX5_keepAct 53 = .ok (.getfield 38, 3) := by decide +kernel
theorem dX5_keepAct_56 : decode cX5_keepAct 56 = .ok (.iadd, 1) := by decide +kernel
theorem dX5_keepAct_57 : decode cX5_keepAct 57 = .ok (.bipush 41, 2) := by decide +kernel
theorem dX5_keepAct_59 : decode cX5_keepAct 59 = .ok (.irem, 1) := by decide +kernel
theorem dX5_keepAct_60 : decode cX5_keepAct 60 = .ok (.invokevirtual 24, 3) := by decide +kernel
theorem dX5_keepAct_63 : decode cX5_keepAct 63 = .ok (.return_, 1) := by decide +kernel
theorem dX5_stepBack_0 : decode cX5_stepBack 0 = .ok (.aload_n 0, 1) := by decide +kernel
theorem dX5_stepBack_1 : decode cX5_stepBack 1 = .ok (.getfield 38, 3) := by decide +kernel
theorem dX5_stepBack_4 : decode cX5_stepBack 4 = .ok (.ifCond .ne 5, 3) := by decide +kernel
theorem dX5_stepBack_7 : decode cX5_stepBack 7 = .ok (.iconst 0, 1) := by decide +kernel
theorem dX5_stepBack_8 : decode cX5_stepBack 8 = .ok (.ireturn, 1) := by decide +kernel
theorem dX5_stepBack_9 : decode cX5_stepBack 9 = .ok (.aload_n 0, 1) := by decide +kernel
theorem dX5_stepBack_10 : decode cX5_stepBack 10 = .ok (.dup, 1) := by decide +kernel
theorem dX5_stepBack_11 : decode cX5_stepBack 11 = .ok (.getfield 38, 3) := by decide +kernel
theorem dX5_stepBack_14 : decode cX5_stepBack 14 = .ok (.iconst 1, 1) := by decide +kernel
theorem dX5_stepBack_15 : decode cX5_stepBack 15 = .ok (.isub, 1) := by decide +kernel
theorem dX5_stepBack_16 : decode cX5_stepBack 16 = .ok (.putfield 38, 3) := by decide +kernel
theorem dX5_stepBack_19 : decode cX5_stepBack 19 = .ok (.aload_n 0, 1) := by decide +kernel
theorem dX5_stepBack_20 : decode cX5_stepBack 20 = .ok (.dup, 1) := by decide +kernel
theorem dX5_stepBack_21 : decode cX5_stepBack 21 = .ok (.getfield 41, 3) := by decide +kernel
theorem dX5_stepBack_24 : decode cX5_stepBack 24 = .ok (.iconst 1, 1) := by decide +kernel
theorem dX5_stepBack_25 : decode cX5_stepBack 25 = .ok (.iadd, 1) := by decide +kernel
theorem dX5_stepBack_26 : decode cX5_stepBack 26 = .ok (.putfield 41, 3) := by decide +kernel
theorem dX5_stepBack_29 : decode cX5_stepBack 29 = .ok (.aload_n 0, 1) := by decide +kernel
theorem dX5_stepBack_30 : decode cX5_stepBack 30 = .ok (.getfield 20, 3) := by decide +kernel
theorem dX5_stepBack_33 : decode cX5_stepBack 33 = .ok (.aload_n 0, 1) := by decide +kernel
theorem dX5_stepBack_34 : decode cX5_stepBack 34 = .ok (.getfield 13, 3) := by decide +kernel
theorem dX5_stepBack_37 : decode cX5_stepBack 37 = .ok (.aload_n 0, 1) := by decide +kernel
theorem dX5_stepBack_38 : decode cX5_stepBack 38 = .ok (.getfield 35, 3) := by decide +kernel
theorem dX5_stepBack_41 : decode cX5_stepBack 41 = .ok (.aload_n 0, 1) := by decide +kernel
theorem dX5_stepBack_42 : decode cX5_stepBack 42 = .ok (.getfield 38, 3) := by decide +kernel
theorem dX5_stepBack_45 : decode cX5_stepBack 45 = .ok (.iadd, 1) := by decide +kernel
theorem dX5_stepBack_46 : decode cX5_stepBack 46 = .ok (.bipush 41, 2) := by decide +kernel
theorem dX5_stepBack_48 : decode cX5_stepBack 48 = .ok (.irem, 1) := by decide +kernel
theorem dX5_stepBack_49 : decode cX5_stepBack 49 = .ok (.invokevirtual 44, 3) := by decide +kernel
theorem dX5_stepBack_52 : decode cX5_stepBack 52 = .ok (.iconst 1, 1) := by decide +kernel
theorem dX5_stepBack_53 : decode cX5_stepBack 53 = .ok (.ireturn, 1) := by decide +kernel
theorem dX5_stepOn_0 : decode cX5_stepOn 0 = .ok (.aload_n 0, 1) := by decide +kernel
theorem dX5_stepOn_1 : decode cX5_stepOn 1 = .ok (.getfield 41, 3) := by decide +kernel
theorem dX5_stepOn_4 : decode cX5_stepOn 4 = .ok (.ifCond .ne 5, 3) := by decide +kernel
theorem dX5_stepOn_7 : decode cX5_stepOn 7 = .ok (.iconst 0, 1) := by decide +kernel
theorem dX5_stepOn_8 : decode cX5_stepOn 8 = .ok (.ireturn, 1) := by decide +kernel
theorem dX5_stepOn_9 : decode cX5_stepOn 9 = .ok (.aload_n 0, 1) := by decide +kernel
theorem dX5_stepOn_10 : decode cX5_stepOn 10 = .ok (.dup, 1) := by decide +kernel
theorem dX5_stepOn_11 : decode cX5_stepOn 11 = .ok (.getfield 38, 3) := by decide +kernel
theorem dX5_stepOn_14 : decode cX5_stepOn 14 = .ok (.iconst 1, 1) := by decide +kernel
theorem dX5_stepOn_15 : decode cX5_stepOn 15 = .ok (.iadd, 1) := by decide +kernel
theorem dX5_stepOn_16 : decode cX5_stepOn 16 = .ok (.putfield 38, 3) := by decide +kernel
theorem dX5_stepOn_19 : decode cX5_stepOn 19 = .ok (.aload_n 0, 1) := by decide +kernel
theorem dX5_stepOn_20 : decode cX5_stepOn 20 = .ok (.dup, 1) := by decide +kernel
theorem dX5_stepOn_21 : decode cX5_stepOn 21 = .ok (.getfield 41, 3) := by decide +kernel
theorem dX5_stepOn_24 : decode cX5_stepOn 24 = .ok (.iconst 1, 1) := by decide +kernel
theorem dX5_stepOn_25 : decode cX5_stepOn 25 = .ok (.isub, 1) := by decide +kernel
theorem dX5_stepOn_26 : decode cX5_stepOn 26 = .ok (.putfield 41, 3) := by decide +kernel
theorem dX5_stepOn_29 : decode cX5_stepOn 29 = .ok (.aload_n 0, 1) := by decide +kernel
theorem dX5_stepOn_30 : decode cX5_stepOn 30 = .ok (.getfield 20, 3) := by decide +kernel
theorem dX5_stepOn_33 : decode cX5_stepOn 33 = .ok (.aload_n 0, 1) := by decide +kernel
theorem dX5_stepOn_34 : decode cX5_stepOn 34 = .ok (.getfield 13, 3) := by decide +kernel
theorem dX5_stepOn_37 : decode cX5_stepOn 37 = .ok (.aload_n 0, 1) := by decide +kernel
theorem dX5_stepOn_38 : decode cX5_stepOn 38 = .ok (.getfield 35, 3) := by decide +kernel
theorem dX5_stepOn_41 : decode cX5_stepOn 41 = .ok (.aload_n 0, 1) := by decide +kernel
theorem dX5_stepOn_42 : decode cX5_stepOn 42 = .ok (.getfield 38, 3) := by decide +kernel
theorem dX5_stepOn_45 : decode cX5_stepOn 45 = .ok (.iadd, 1) := by decide +kernel
theorem dX5_stepOn_46 : decode cX5_stepOn 46 = .ok (.bipush 41, 2) := by decide +kernel
theorem dX5_stepOn_48 : decode cX5_stepOn 48 = .ok (.irem, 1) := by decide +kernel
theorem dX5_stepOn_49 : decode cX5_stepOn 49 = .ok (.invokevirtual 44, 3) := by decide +kernel
theorem dX5_stepOn_52 : decode cX5_stepOn 52 = .ok (.iconst 1, 1) := by decide +kernel
theorem dX5_stepOn_53 : decode cX5_stepOn 53 = .ok (.ireturn, 1) := by decide +kernel
theorem dX5_takeBox_0 : decode cX5_takeBox 0 = .ok (.iload_n 1, 1) := by decide +kernel
theorem dX5_takeBox_1 : decode cX5_takeBox 1 = .ok (.ifCond .lt 19, 3) := by decide +kernel
theorem dX5_takeBox_4 : decode cX5_takeBox 4 = .ok (.iload_n 1, 1) := by decide +kernel
theorem dX5_takeBox_5 : decode cX5_takeBox 5 = .ok (.iconst 3, 1) := by decide +kernel
theorem dX5_takeBox_6 : decode cX5_takeBox 6 = .ok (.if_icmp .ge 14, 3) := by decide +kernel
theorem dX5_takeBox_9 : decode cX5_takeBox 9 = .ok (.aload_n 0, 1) := by decide +kernel
theorem dX5_takeBox_10 : decode cX5_takeBox 10 = .ok (.getfield 28, 3) := by decide +kernel
theorem dX5_takeBox_13 : decode cX5_takeBox 13 = .ok (.iload_n 1, 1) := by decide +kernel
theorem dX5_takeBox_14 : decode cX5_takeBox 14 = .ok (.ishr, 1) := by decide +kernel
theorem dX5_takeBox_15 : decode cX5_takeBox 15 = .ok (.iconst 1, 1) := by decide +kernel
theorem dX5_takeBox_16 : decode cX5_takeBox 16 = .ok (.iand, 1) := by decide +kernel
theorem dX5_takeBox_17 : decode cX5_takeBox 17 = .ok (.ifCond .ne 5, 3) := by decide +kernel
theorem dX5_takeBox_20 : decode cX5_takeBox 20 = .ok (.iconst 0, 1) := by decide +kernel
theorem dX5_takeBox_21 : decode cX5_takeBox 21 = .ok (.ireturn, 1) := by decide +kernel
theorem dX5_takeBox_22 : decode cX5_takeBox 22 = .ok (.aload_n 0, 1) := by decide +kernel
theorem dX5_takeBox_23 : decode cX5_takeBox 23 = .ok (.getfield 20, 3) := by decide +kernel
theorem dX5_takeBox_26 : decode cX5_takeBox 26 = .ok (.aload_n 0, 1) := by decide +kernel
theorem dX5_takeBox_27 : decode cX5_takeBox 27 = .ok (.getfield 17, 3) := by decide +kernel
theorem dX5_takeBox_30 : decode cX5_takeBox 30 = .ok (.iload_n 1, 1) := by decide +kernel
theorem dX5_takeBox_31 : decode cX5_takeBox 31 = .ok (.invokevirtual 44, 3) := by decide +kernel
theorem dX5_takeBox_34 : decode cX5_takeBox 34 = .ok (.aload_n 0, 1) := by decide +kernel
theorem dX5_takeBox_35 : decode cX5_takeBox 35 = .ok (.invokevirtual 32, 3) := by decide +kernel
theorem dX5_takeBox_38 : decode cX5_takeBox 38 = .ok (.iconst 1, 1) := by decide +kernel
theorem dX5_takeBox_39 : decode cX5_takeBox 39 = .ok (.ireturn, 1) := by decide +kernel
theorem dX6_closing_0 : decode cX6_closing 0 = .ok (.aload_n 0, 1) := by decide +kernel
theorem dX6_closing_1 : decode cX6_closing 1 = .ok (.bipush 59, 2) := by decide +kernel
theorem dX6_closing_3 : decode cX6_closing 3 = .ok (.invokevirtual 83, 3) := by decide +kernel
theorem dX6_closing_6 : decode cX6_closing 6 = .ok (.ireturn, 1) := by decide +kernel
theorem dX6_coatLine_0 : decode cX6_coatLine 0 = .ok (.aload_n 0, 1) := by decide +kernel
theorem dX6_coatLine_1 : decode cX6_coatLine 1 = .ok (.getfield 12, 3) := by decide +kernel
theorem dX6_coatLine_4 : decode cX6_coatLine 4 = .ok (.getfield 104, 3) := by decide +kernel
theorem dX6_coatLine_7 : decode cX6_coatLine 7 = .ok (.bipush 6, 2) := by decide +kernel
theorem dX6_coatLine_9 : decode cX6_coatLine 9 = .ok (.if_icmp .lt 8, 3) := by decide +kernel
theorem dX6_coatLine_12 : decode cX6_coatLine 12 = .ok (.aload_n 0, 1) := by decide +kernel
theorem dX6_coatLine_13 : decode cX6_coatLine 13 = .ok (.invokevirtual 74, 3) := by decide +kernel
theorem dX6_coatLine_16 : decode cX6_coatLine 16 = .ok (.ireturn, 1) := by decide +kernel
theorem dX6_coatLine_17 : decode cX6_coatLine 17 = .ok (.aload_n 0, 1) := by decide +kernel
theorem dX6_coatLine_18 : decode cX6_coatLine 18 = .ok (.getfield 29, 3) := by decide +kernel
theorem dX6_coatLine_21 : decode cX6_coatLine 21 = .ok (.invokevirtual 86, 3) := by decide +kernel
theorem dX6_coatLine_24 : decode cX6_coatLine 24 = .ok (.aload_n 0, 1) := by decide +kernel
theorem dX6_coatLine_25 : decode cX6_coatLine 25 = .ok (.aload_n 0, 1) := by decide +kernel
theorem dX6_coatLine_26 : decode cX6_coatLine 26 = .ok (.getfield 22, 3) := by decide +kernel
theorem dX6_coatLine_29 : decode cX6_coatLine 29 = .ok (.aload_n 0, 1) := by decide +kernel
theorem dX6_coatLine_30 : decode cX6_coatLine 30 = .ok (.getfield 12, 3) := by decide +kernel
theorem dX6_coatLine_33 : decode cX6_coatLine 33 = .ok (.getfield 104, 3) := by decide +kernel
theorem dX6_coatLine_36 : decode cX6_coatLine 36 = .ok (.invokevirtual 92, 3) := by decide +kernel
theorem dX6_coatLine_39 : decode cX6_coatLine 39 = .ok (.ifCond .ne 5, 3) := by decide +kernel
theorem dX6_coatLine_42 : decode cX6_coatLine 42 = .ok (.iconst 0, 1) := by decide +kernel
theorem dX6_coatLine_43 : decode cX6_coatLine 43 = .ok (.ireturn, 1) := by decide +kernel
theorem dX6_coatLine_44 : decode cX6_coatLine 44 = .ok (.aload_n 0, 1) := by decide +kernel
theorem dX6_coatLine_45 : decode cX6_coatLine 45 = .ok (.bipush 109, 2) := by decide +kernel
theorem dX6_coatLine_47 : decode cX6_coatLine 47 = .ok (.bipush 99, 2) := by decide +kernel
theorem dX6_coatLine_49 : decode cX6_coatLine 49 = .ok (.invokevirtual 96, 3) := by decide +kernel
theorem dX6_coatLine_52 : decode cX6_coatLine 52 = .ok (.istore_n 1, 1) := by decide +kernel
theorem dX6_coatLine_53 : decode cX6_coatLine 53 = .ok (.iload_n 1, 1) := by decide +kernel
theorem dX6_coatLine_54 : decode cX6_coatLine 54 = .ok (.ifCond .ge 7, 3) := by decide +kernel
theorem dX6_coatLine_57 : decode cX6_coatLine 57 = .ok (.iconst (-1), 1) := by decide +kernel
theorem dX6_coatLine_58 : decode cX6_coatLine 58 = .ok (.goto 11, 3) := by decide +kernel
theorem dX6_coatLine_61 : decode cX6_coatLine 61 = .ok (.aload_n 0, 1) := by decide +kernel
theorem dX6_coatLine_62 : decode cX6_coatLine 62 = .ok (.bipush 110, 2) := by decide +kernel
theorem dX6_coatLine_64 : decode cX6_coatLine 64 = .ok (.bipush 99, 2) := by decide +kernel
theorem dX6_coatLine_66 : decode cX6_coatLine 66 = .ok (.invokevirtual 96, 3) := by decide +kernel
theorem dX6_coatLine_69 : decode cX6_coatLine 69 = .ok (.istore_n 2, 1) := by decide +kernel
theorem dX6_coatLine_70 : decode cX6_coatLine 70 = .ok (.iload_n 2, 1) := by decide +kernel
theorem dX6_coatLine_71 : decode cX6_coatLine 71 = .ok (.ifCond .ge 7, 3) := by decide +kernel
theorem dX6_coatLine_74 : decode cX6_coatLine 74 = .ok (.iconst (-1), 1) := by decide +kernel
theorem dX6_coatLine_75 : decode cX6_coatLine 75 = .ok (.goto 27, 3) := by decide +kernel
theorem dX6_coatLine_78 : decode cX6_coatLine 78 = .ok (.aload_n 0, 1) := by decide +kernel
theorem dX6_coatLine_79 : decode cX6_coatLine 79 = .ok (.getfield 29, 3) := by decide +kernel
theorem dX6_coatLine_82 : decode cX6_coatLine 82 = .ok (.getfield 47, 3) := by decide +kernel
theorem dX6_coatLine_85 : decode cX6_coatLine 85 = .ok (.bipush 112, 2) := by decide +kernel
theorem dX6_coatLine_87 : decode cX6_coatLine 87 = .ok (.if_icmp .ne 14, 3) := by decide +kernel
theorem dX6_coatLine_90 : decode cX6_coatLine 90 = .ok (.aload_n 0, 1) := by decide +kernel
theorem dX6_coatLine_91 : decode cX6_coatLine 91 = .ok (.bipush 112, 2) := by decide +kernel
theorem dX6_coatLine_93 : decode cX6_coatLine 93 = .ok (.bipush 20, 2) := by decide +kernel
theorem dX6_coatLine_95 : decode cX6_coatLine 95 = .ok (.invokevirtual 96, 3) := by decide +kernel
theorem dX6_coatLine_98 : decode cX6_coatLine 98 = .ok (.goto 4, 3) := by decide +kernel
theorem dX6_coatLine_101 : decode cX6_coatLine 101 = .ok (.iconst 0, 1) := by decide +kernel
theorem dX6_coatLine_102 : decode cX6_coatLine 102 = .ok (.istore_n 3, 1) := by decide +kernel
theorem dX6_coatLine_103 : decode cX6_coatLine 103 = .ok (.iload_n 3, 1) := by decide +kernel
theorem dX6_coatLine_104 : decode cX6_coatLine 104 = .ok (.ifCond .ge 7, 3) := by decide +kernel
theorem dX6_coatLine_107 : decode cX6_coatLine 107 = .ok (.iconst (-1), 1) := by decide +kernel
theorem dX6_coatLine_108 : decode cX6_coatLine 108 = .ok (.goto 27, 3) := by decide +kernel
theorem dX6_coatLine_111 : decode cX6_coatLine 111 = .ok (.aload_n 0, 1) := by decide +kernel
theorem dX6_coatLine_112 : decode cX6_coatLine 112 = .ok (.getfield 29, 3) := by decide +kernel
theorem dX6_coatLine_115 : decode cX6_coatLine 115 = .ok (.getfield 47, 3) := by decide +kernel
theorem dX6_coatLine_118 : decode cX6_coatLine 118 = .ok (.bipush 120, 2) := by decide +kernel
theorem dX6_coatLine_120 : decode cX6_coatLine 120 = .ok (.if_icmp .ne 14, 3) := by decide +kernel
theorem dX6_coatLine_123 : decode cX6_coatLine 123 = .ok (.aload_n 0, 1) := by decide +kernel
theorem dX6_coatLine_124 : decode cX6_coatLine 124 = .ok (.bipush 120, 2) := by decide +kernel
theorem dX6_coatLine_126 : decode cX6_coatLine 126 = .ok (.bipush 99, 2) := by decide +kernel
theorem dX6_coatLine_128 : decode cX6_coatLine 128 = .ok (.invokevirtual 96, 3) := by decide +kernel
theorem dX6_coatLine_131 : decode cX6_coatLine 131 = .ok (.goto 4, 3) := by decide +kernel
theorem dX6_coatLine_134 : decode cX6_coatLine 134 = .ok (.iconst 0, 1) := by decide +kernel
theorem dX6_coatLine_135 : decode cX6_coatLine 135 = .ok (.istore 4, 2) := by decide +kernel
theorem dX6_coatLine_137 : decode cX6_coatLine 137 = .ok (.iload 4, 2) := by decide +kernel
theorem dX6_coatLine_139 : decode cX6_coatLine 139 = .ok (.ifCond .ge 5, 3) := by decide +kernel
theorem dX6_coatLine_142 : decode cX6_coatLine 142 = .ok (.iconst 0, 1) := by decide +kernel
theorem dX6_coatLine_143 : decode cX6_coatLine 143 = .ok (.ireturn, 1) := by decide +kernel
theorem dX6_coatLine_144 : decode cX6_coatLine 144 = .ok (.aload_n 0, 1) := by decide +kernel
theorem dX6_coatLine_145 : decode cX6_coatLine 145 = .ok (.getfield 12, 3) := by decide +kernel
theorem dX6_coatLine_148 : decode cX6_coatLine 148 = .ok (.iload_n 1, 1) := by decide +kernel
theorem dX6_coatLine_149 : decode cX6_coatLine 149 = .ok (.iload_n 2, 1) := by decide +kernel
theorem dX6_coatLine_150 : decode cX6_coatLine 150 = .ok (.iload_n 3, 1) := by decide +kernel
theorem dX6_coatLine_151 : decode cX6_coatLine 151 = .ok (.iload 4, 2) := by decide +kernel
theorem dX6_coatLine_153 : decode cX6_coatLine 153 = .ok (.invokevirtual 107, 3) := by decide +kernel
theorem dX6_coatLine_156 : decode cX6_coatLine 156 = .ok (.iconst 1, 1) := by decide +kernel
theorem dX6_coatLine_157 : decode cX6_coatLine 157 = .ok (.ireturn, 1) := by decide +kernel
theorem dX6_expression_0 : decode cX6_expression 0 = .ok (.iload_n 1, 1) := by decide +kernel
theorem dX6_expression_1 : decode cX6_expression 1 = .ok (.iconst 5, 1) := by decide +kernel
theorem dX6_expression_2 : decode cX6_expression 2 = .ok (.if_icmp .lt 9, 3) := by decide +kernel
theorem dX6_expression_5 : decode cX6_expression 5 = .ok (.aload_n 0, 1) := by decide +kernel
theorem dX6_expression_6 : decode cX6_expression 6 = .ok (.iload_n 2, 1) := by decide +kernel
theorem dX6_expression_7 : decode cX6_expression 7 = .ok (.invokevirtual 125, 3) := by decide +kernel
theorem dX6_expression_10 : decode cX6_expression 10 = .ok (.ireturn, 1) := by decide +kernel
theorem dX6_expression_11 : decode cX6_expression 11 = .ok (.iload_n 1, 1) := by decide +kernel
theorem dX6_expression_12 : decode cX6_expression 12 = .ok (.iconst 2, 1) := by decide +kernel
theorem dX6_expression_13 : decode cX6_expression 13 = .ok (.if_icmp .ne 21, 3) := by decide +kernel
theorem dX6_expression_16 : decode cX6_expression 16 = .ok (.aload_n 0, 1) := by decide +kernel
theorem dX6_expression_17 : decode cX6_expression 17 = .ok (.getfield 29, 3) := by decide +kernel
theorem dX6_expression_20 : decode cX6_expression 20 = .ok (.getfield 47, 3) := by decide +kernel
theorem dX6_expression_23 : decode cX6_expression 23 = .ok (.bipush 115, 2) := by decide +kernel
theorem dX6_expression_25 : decode cX6_expression 25 = .ok (.if_icmp .ne 9, 3) := by decide +kernel
theorem dX6_expression_28 : decode cX6_expression 28 = .ok (.aload_n 0, 1) := by decide +kernel
theorem dX6_expression_29 : decode cX6_expression 29 = .ok (.iload_n 2, 1) := by decide +kernel
theorem dX6_expression_30 : decode cX6_expression 30 = .ok (.invokevirtual 128, 3) := by decide +kernel
theorem dX6_expression_33 : decode cX6_expression 33 = .ok (.ireturn, 1) := by decide +kernel
theorem dX6_expression_34 : decode cX6_expression 34 = .ok (.aload_n 0, 1) := by decide +kernel
theorem dX6_expression_35 : decode cX6_expression 35 = .ok (.iload_n 1, 1) := by decide +kernel
theorem dX6_expression_36 : decode cX6_expression 36 = .ok (.iconst 1, 1) := by decide +kernel
theorem dX6_expression_37 : decode cX6_expression 37 = .ok (.iadd, 1) := by decide +kernel
theorem dX6_expression_38 : decode cX6_expression 38 = .ok (.iload_n 2, 1) := by decide +kernel
theorem dX6_expression_39 : decode cX6_expression 39 = .ok (.invokevirtual 67, 3) := by decide +kernel
theorem dX6_expression_42 : decode cX6_expression 42 = .ok (.ifCond .ne 5, 3) := by decide +kernel
theorem dX6_expression_45 : decode cX6_expression 45 = .ok (.iconst 0, 1) := by decide +kernel
theorem dX6_expression_46 : decode cX6_expression 46 = .ok (.ireturn, 1) := by decide +kernel
theorem dX6_expression_47 : decode cX6_expression 47 = .ok (.iload_n 1, 1) := by decide +kernel
theorem dX6_expression_48 : decode cX6_expression 48 = .ok (.iconst 2, 1) := by decide +kernel
theorem dX6_expression_49 : decode cX6_expression 49 = .ok (.if_icmp .ne 7, 3) := by decide +kernel
theorem dX6_expression_52 : decode cX6_expression 52 = .ok (.iconst 1, 1) := by decide +kernel
theorem dX6_expression_53 : decode cX6_expression 53 = .ok (.goto 6, 3) := by decide +kernel
theorem dX6_expression_56 : decode cX6_expression 56 = .ok (.sipush 1600, 3) := by decide +kernel
theorem dX6_expression_59 : decode cX6_expression 59 = .ok (.istore_n 3, 1) := by decide +kernel
theorem dX6_expression_60 : decode cX6_expression 60 = .ok (.iconst 0, 1) := by decide +kernel
theorem dX6_expression_61 : decode cX6_expression 61 = .ok (.istore 4, 2) := by decide +kernel
theorem dX6_expression_63 : decode cX6_expression 63 = .ok (.iload 4, 2) := by decide +kernel
theorem dX6_expression_65 : decode cX6_expression 65 = .ok (.iload_n 3, 1) := by decide +kernel
theorem dX6_expression_66 : decode cX6_expression 66 = .ok (.if_icmp .ge 65, 3) := by decide +kernel
theorem dX6_expression_69 : decode cX6_expression 69 = .ok (.iload_n 1, 1) := by decide +kernel
theorem dX6_expression_70 : decode cX6_expression 70 = .ok (.aload_n 0, 1) := by decide +kernel
theorem dX6_expression_71 : decode cX6_expression 71 = .ok (.getfield 29, 3) := by decide +kernel
theorem dX6_expression_74 : decode cX6_expression 74 = .ok (.getfield 47, 3) := by decide +kernel
theorem dX6_expression_77 : decode cX6_expression 77 = .ok (.invokestatic 131, 3) := by decide +kernel
theorem dX6_expression_80 : decode cX6_expression 80 = .ok (.ifCond .eq 51, 3) := by decide +kernel
theorem dX6_expression_83 : decode cX6_expression 83 = .ok (.aload_n 0, 1) := by decide +kernel
theorem dX6_expression_84 : decode cX6_expression 84 = .ok (.getfield 29, 3) := by decide +kernel
theorem dX6_expression_87 : decode cX6_expression 87 = .ok (.getfield 47, 3) := by decide +kernel
theorem dX6_expression_90 : decode cX6_expression 90 = .ok (.istore 5, 2) := by decide +kernel
theorem dX6_expression_92 : decode cX6_expression 92 = .ok (.aload_n 0, 1) := by decide +kernel
theorem dX6_expression_93 : decode cX6_expression 93 = .ok (.getfield 29, 3) := by decide +kernel
theorem dX6_expression_96 : decode cX6_expression 96 = .ok (.invokevirtual 86, 3) := by decide +kernel
theorem dX6_expression_99 : decode cX6_expression 99 = .ok (.aload_n 0, 1) := by decide +kernel
theorem dX6_expression_100 : decode cX6_expression 100 = .ok (.iload_n 1, 1) := by decide +kernel
theorem dX6_expression_101 : decode cX6_expression 101 = .ok (.iconst 1, 1) := by decide +kernel
theorem dX6_expression_102 : decode cX6_expression 102 = .ok (.iadd, 1) := by decide +kernel
theorem dX6_expression_103 : decode cX6_expression 103 = .ok (.iload_n 2, 1) := by decide +kernel
theorem dX6_expression_104 : decode cX6_expression 104 = .ok (.invokevirtual 67, 3) := by decide +kernel
theorem dX6_expression_107 : decode cX6_expression 107 = .ok (.ifCond .ne 5, 3) := by decide +kernel
theorem dX6_expression_110 : decode cX6_expression 110 = .ok (.iconst 0, 1) := by decide +kernel
theorem dX6_expression_111 : decode cX6_expression 111 = .ok (.ireturn, 1) := by decide +kernel
theorem dX6_expression_112 : decode cX6_expression 112 = .ok (.aload_n 0, 1) := by decide +kernel
theorem dX6_expression_113 : decode cX6_expression 113 = .ok (.getfield 12, 3) := by decide +kernel
theorem dX6_expression_116 : decode cX6_expression 116 = .ok (.getfield 134, 3) := by decide +kernel
theorem dX6_expression_119 : decode cX6_expression 119 = .ok (.iload 5, 2) := by decide +kernel
theorem dX6_expression_121 : decode cX6_expression 121 = .ok (.iconst 0, 1) := by decide +kernel
theorem dX6_expression_122 : decode cX6_expression 122 = .ok (.invokevirtual 138, 3) := by decide +kernel
theorem dX6_expression_125 : decode cX6_expression 125 = .ok (.iinc 4 1, 3) := by decide +kernel
theorem dX6_expression_128 : decode cX6_expression 128 = .ok (.goto (-65), 3) := by decide +kernel
theorem dX6_expression_131 : decode cX6_expression 131 = .ok (.iconst 1, 1) := by decide +kernel
theorem dX6_expression_132 : decode cX6_expression 132 = .ok (.ireturn, 1) := by decide +kernel
theorem dX6_init_0 : decode cX6_init 0 = .ok (.aload_n 0, 1) := by decide +kernel
theorem dX6_init_1 : decode cX6_init 1 = .ok (.invokespecial 3, 3) := by decide +kernel
theorem dX6_init_4 : decode cX6_init 4 = .ok (.aload_n 0, 1) := by decide +kernel
theorem dX6_init_5 : decode cX6_init 5 = .ok (.new 9, 3) := by decide +kernel
theorem dX6_init_8 : decode cX6_init 8 = .ok (.dup, 1) := by decide +kernel
theorem dX6_init_9 : decode cX6_init 9 = .ok (.invokespecial 11, 3) := by decide +kernel
theorem dX6_init_12 : decode cX6_init 12 = .ok (.putfield 12, 3) := by decide +kernel
theorem dX6_init_15 : decode cX6_init 15 = .ok (.aload_n 0, 1) := by decide +kernel
theorem dX6_init_16 : decode cX6_init 16 = .ok (.bipush 6, 2) := by decide +kernel
theorem dX6_init_18 : decode cX6_init 18 = .ok (.newarray .int, 2) := by decide +kernel
theorem dX6_init_20 : decode cX6_init 20 = .ok (.putfield 18, 3) := by decide +kernel
theorem dX6_init_23 : decode cX6_init 23 = .ok (.aload_n 0, 1) := by decide +kernel
theorem dX6_init_24 : decode cX6_init 24 = .ok (.bipush 6, 2) := by decide +kernel
theorem dX6_init_26 : decode cX6_init 26 = .ok (.newarray .int, 2) := by decide +kernel
theorem dX6_init_28 : decode cX6_init 28 = .ok (.putfield 22, 3) := by decide +kernel
theorem dX6_init_31 : decode cX6_init 31 = .ok (.aload_n 0, 1) := by decide +kernel
theorem dX6_init_32 : decode cX6_init 32 = .ok (.iconst (-1), 1) := by decide +kernel
theorem dX6_init_33 : decode cX6_init 33 = .ok (.putfield 25, 3) := by decide +kernel
theorem dX6_init_36 : decode cX6_init 36 = .ok (.aload_n 0, 1) := by decide +kernel
theorem dX6_init_37 : decode cX6_init 37 = .ok (.aload_n 1, 1) := by decide +kernel
theorem dX6_init_38 : decode cX6_init 38 = .ok (.putfield 29, 3) := by decide +kernel
theorem dX6_init_41 : decode cX6_init 41 = .ok (.return_, 1) := by decide +kernel
theorem dX6_joins_0 : decode cX6_joins 0 = .ok (.iload_n 0, 1) := by decide +kernel
theorem dX6_joins_1 : decode cX6_joins 1 = .ok (.tableswitch 125 0 4 #[35, 47, 59, 83, 101], 35) := by decide +kernel
theorem dX6_joins_36 : decode cX6_joins 36 = .ok (.iload_n 1, 1) := by decide +kernel
theorem dX6_joins_37 : decode cX6_joins 37 = .ok (.bipush 113, 2) := by decide +kernel
theorem dX6_joins_39 : decode cX6_joins 39 = .ok (.if_icmp .ne 7, 3) := by decide +kernel
theorem dX6_joins_42 : decode cX6_joins 42 = .ok (.iconst 1, 1) := by decide +kernel
theorem dX6_joins_43 : decode cX6_joins 43 = .ok (.goto 4, 3) := by decide +kernel
theorem dX6_joins_46 : decode cX6_joins 46 = .ok (.iconst 0, 1) := by decide +kernel
theorem dX6_joins_47 : decode cX6_joins 47 = .ok (.ireturn, 1) := by decide +kernel
theorem dX6_joins_48 : decode cX6_joins 48 = .ok (.iload_n 1, 1) := by decide +kernel
theorem dX6_joins_49 : decode cX6_joins 49 = .ok (.bipush 114, 2) := by decide +kernel
theorem dX6_joins_51 : decode cX6_joins 51 = .ok (.if_icmp .ne 7, 3) := by decide +kernel
theorem dX6_joins_54 : decode cX6_joins 54 = .ok (.iconst 1, 1) := by decide +kernel
theorem dX6_joins_55 : decode cX6_joins 55 = .ok (.goto 4, 3) := by decide +kernel
theorem dX6_joins_58 : decode cX6_joins 58 = .ok (.iconst 0, 1) := by decide +kernel
theorem dX6_joins_59 : decode cX6_joins 59 = .ok (.ireturn, 1) := by decide +kernel
theorem dX6_joins_60 : decode cX6_joins 60 = .ok (.iload_n 1, 1) := by decide +kernel
theorem dX6_joins_61 : decode cX6_joins 61 = .ok (.bipush 60, 2) := by decide +kernel
theorem dX6_joins_63 : decode cX6_joins 63 = .ok (.if_icmp .eq 15, 3) := by decide +kernel
theorem dX6_joins_66 : decode cX6_joins 66 = .ok (.iload_n 1, 1) := by decide +kernel
theorem dX6_joins_67 : decode cX6_joins 67 = .ok (.bipush 62, 2) := by decide +kernel
theorem dX6_joins_69 : decode cX6_joins 69 = .ok (.if_icmp .eq 9, 3) := by decide +kernel
theorem dX6_joins_72 : decode cX6_joins 72 = .ok (.iload_n 1, 1) := by decide +kernel
theorem dX6_joins_73 : decode cX6_joins 73 = .ok (.bipush 61, 2) := by decide +kernel
theorem dX6_joins_75 : decode cX6_joins 75 = .ok (.if_icmp .ne 7, 3) := by decide +kernel
theorem dX6_joins_78 : decode cX6_joins 78 = .ok (.iconst 1, 1) := by decide +kernel
theorem dX6_joins_79 : decode cX6_joins 79 = .ok (.goto 4, 3) := by decide +kernel
theorem dX6_joins_82 : decode cX6_joins 82 = .ok (.iconst 0, 1) := by decide +kernel
theorem dX6_joins_83 : decode cX6_joins 83 = .ok (.ireturn, 1) := by decide +kernel
theorem dX6_joins_84 : decode cX6_joins 84 = .ok (.iload_n 1, 1) := by decide +kernel
theorem dX6_joins_85 : decode cX6_joins 85 = .ok (.bipush 43, 2) := by decide +kernel
theorem dX6_joins_87 : decode cX6_joins 87 = .ok (.if_icmp .eq 9, 3) := by decide +kernel
theorem dX6_joins_90 : decode cX6_joins 90 = .ok (.iload_n 1, 1) := by decide +kernel
theorem dX6_joins_91 : decode cX6_joins 91 = .ok (.bipush 45, 2) := by decide +kernel
theorem dX6_joins_93 : decode cX6_joins 93 = .ok (.if_icmp .ne 7, 3) := by decide +kernel
theorem dX6_joins_96 : decode cX6_joins 96 = .ok (.iconst 1, 1) := by decide +kernel
theorem dX6_joins_97 : decode cX6_joins 97 = .ok (.goto 4, 3) := by decide +kernel
theorem dX6_joins_100 : decode cX6_joins 100 = .ok (.iconst 0, 1) := by decide +kernel
theorem dX6_joins_101 : decode cX6_joins 101 = .ok (.ireturn, 1) := by decide +kernel
theorem dX6_joins_102 : decode cX6_joins 102 = .ok (.iload_n 1, 1) := by decide +kernel
theorem dX6_joins_103 : decode cX6_joins 103 = .ok (.bipush 42, 2) := by decide +kernel
theorem dX6_joins_105 : decode cX6_joins 105 = .ok (.if_icmp .eq 15, 3) := by decide +kernel
theorem dX6_joins_108 : decode cX6_joins 108 = .ok (.iload_n 1, 1) := by decide +kernel
theorem dX6_joins_109 : decode cX6_joins 109 = .ok (.bipush 47, 2) := by decide +kernel
theorem dX6_joins_111 : decode cX6_joins 111 = .ok (.if_icmp .eq 9, 3) := by decide +kernel
theorem dX6_joins_114 : decode cX6_joins 114 = .ok (.iload_n 1, 1) := by decide +kernel
theorem dX6_joins_115 : decode cX6_joins 115 = .ok (.bipush 37, 2) := by decide +kernel
theorem dX6_joins_117 : decode cX6_joins 117 = .ok (.if_icmp .ne 7, 3) := by decide +kernel
theorem dX6_joins_120 : decode cX6_joins 120 = .ok (.iconst 1, 1) := by decide +kernel
theorem dX6_joins_121 : decode cX6_joins 121 = .ok (.goto 4, 3) := by decide +kernel
theorem dX6_joins_124 : decode cX6_joins 124 = .ok (.iconst 0, 1) := by decide +kernel
theorem dX6_joins_125 : decode cX6_joins 125 = .ok (.ireturn, 1) := by decide +kernel
theorem dX6_joins_126 : decode cX6_joins 126 = .ok (.iconst 0, 1) := by decide +kernel
theorem dX6_joins_127 : decode cX6_joins 127 = .ok (.ireturn, 1) := by decide +kernel
theorem dX6_labelled_0 : decode cX6_labelled 0 = .ok (.aload_n 0, 1) := by decide +kernel
theorem dX6_labelled_1 : decode cX6_labelled 1 = .ok (.getfield 29, 3) := by decide +kernel
theorem dX6_labelled_4 : decode cX6_labelled 4 = .ok (.getfield 47, 3) := by decide +kernel
theorem dX6_labelled_7 : decode cX6_labelled 7 = .ok (.iload_n 1, 1) := by decide +kernel
theorem dX6_labelled_8 : decode cX6_labelled 8 = .ok (.if_icmp .eq 10, 3) := by decide +kernel
theorem dX6_labelled_11 : decode cX6_labelled 11 = .ok (.aload_n 0, 1) := by decide +kernel
theorem dX6_labelled_12 : decode cX6_labelled 12 = .ok (.invokevirtual 74, 3) := by decide +kernel
theorem dX6_labelled_15 : decode cX6_labelled 15 = .ok (.pop, 1) := by decide +kernel
theorem dX6_labelled_16 : decode cX6_labelled 16 = .ok (.iconst (-1), 1) := by decide +kernel
theorem dX6_labelled_17 : decode cX6_labelled 17 = .ok (.ireturn, 1) := by decide +kernel
theorem dX6_labelled_18 : decode cX6_labelled 18 = .ok (.aload_n 0, 1) := by decide +kernel
theorem dX6_labelled_19 : decode cX6_labelled 19 = .ok (.getfield 29, 3) := by decide +kernel
theorem dX6_labelled_22 : decode cX6_labelled 22 = .ok (.invokevirtual 86, 3) := by decide +kernel
theorem dX6_labelled_25 : decode cX6_labelled 25 = .ok (.aload_n 0, 1) := by decide +kernel
theorem dX6_labelled_26 : decode cX6_labelled 26 = .ok (.iload_n 2, 1) := by decide +kernel
theorem dX6_labelled_27 : decode cX6_labelled 27 = .ok (.invokevirtual 114, 3) := by decide +kernel
theorem dX6_labelled_30 : decode cX6_labelled 30 = .ok (.ireturn, 1) := by decide +kernel
theorem dX6_line_0 : decode cX6_line 0 = .ok (.aload_n 0, 1) := by decide +kernel
theorem dX6_line_1 : decode cX6_line 1 = .ok (.getfield 29, 3) := by decide +kernel
theorem dX6_line_4 : decode cX6_line 4 = .ok (.getfield 47, 3) := by decide +kernel
theorem dX6_line_7 : decode cX6_line 7 = .ok (.tableswitch 183 101 108 #[45, 65, 85, 116, 116, 139, 161, 116], 45) := by decide +kernel
theorem dX6_line_52 : decode cX6_line 52 = .ok (.aload_n 0, 1) := by decide +kernel
theorem dX6_line_53 : decode cX6_line 53 = .ok (.invokevirtual 54, 3) := by decide +kernel
theorem dX6_line_56 : decode cX6_line 56 = .ok (.ifCond .eq 14, 3) := by decide +kernel
theorem dX6_line_59 : decode cX6_line 59 = .ok (.aload_n 0, 1) := by decide +kernel
theorem dX6_line_60 : decode cX6_line 60 = .ok (.invokevirtual 57, 3) := by decide +kernel
theorem dX6_line_63 : decode cX6_line 63 = .ok (.ifCond .eq 7, 3) := by decide +kernel
theorem dX6_line_66 : decode cX6_line 66 = .ok (.iconst 1, 1) := by decide +kernel
theorem dX6_line_67 : decode cX6_line 67 = .ok (.goto 4, 3) := by decide +kernel
theorem dX6_line_70 : decode cX6_line 70 = .ok (.iconst 0, 1) := by decide +kernel
theorem dX6_line_71 : decode cX6_line 71 = .ok (.ireturn, 1) := by decide +kernel
theorem dX6_line_72 : decode cX6_line 72 = .ok (.aload_n 0, 1) := by decide +kernel
theorem dX6_line_73 : decode cX6_line 73 = .ok (.invokevirtual 60, 3) := by decide +kernel
theorem dX6_line_76 : decode cX6_line 76 = .ok (.ifCond .eq 14, 3) := by decide +kernel
theorem dX6_line_79 : decode cX6_line 79 = .ok (.aload_n 0, 1) := by decide +kernel
theorem dX6_line_80 : decode cX6_line 80 = .ok (.invokevirtual 57, 3) := by decide +kernel
theorem dX6_line_83 : decode cX6_line 83 = .ok (.ifCond .eq 7, 3) := by decide +kernel
theorem dX6_line_86 : decode cX6_line 86 = .ok (.iconst 1, 1) := by decide +kernel
theorem dX6_line_87 : decode cX6_line 87 = .ok (.goto 4, 3) := by decide +kernel
theorem dX6_line_90 : decode cX6_line 90 = .ok (.iconst 0, 1) := by decide +kernel
theorem dX6_line_91 : decode cX6_line 91 = .ok (.ireturn, 1) := by decide +kernel
theorem dX6_line_92 : decode cX6_line 92 = .ok (.aload_n 0, 1) := by decide +kernel
theorem dX6_line_93 : decode cX6_line 93 = .ok (.bipush 103, 2) := by decide +kernel
theorem dX6_line_95 : decode cX6_line 95 = .ok (.invokevirtual 63, 3) := by decide +kernel
theorem dX6_line_98 : decode cX6_line 98 = .ok (.ifCond .eq 23, 3) := by decide +kernel
theorem dX6_line_101 : decode cX6_line 101 = .ok (.aload_n 0, 1) := by decide +kernel
theorem dX6_line_102 : decode cX6_line 102 = .ok (.iconst 0, 1) := by decide +kernel
theorem dX6_line_103 : decode cX6_line 103 = .ok (.iconst 0, 1) := by decide +kernel
theorem dX6_line_104 : decode cX6_line 104 = .ok (.invokevirtual 67, 3) := by decide +kernel
theorem dX6_line_107 : decode cX6_line 107 = .ok (.ifCond .eq 14, 3) := by decide +kernel
theorem dX6_line_110 : decode cX6_line 110 = .ok (.aload_n 0, 1) := by decide +kernel
theorem dX6_line_111 : decode cX6_line 111 = .ok (.invokevirtual 57, 3) := by decide +kernel
theorem dX6_line_114 : decode cX6_line 114 = .ok (.ifCond .eq 7, 3) := by decide +kernel
theorem dX6_line_117 : decode cX6_line 117 = .ok (.iconst 1, 1) := by decide +kernel
theorem dX6_line_118 : decode cX6_line 118 = .ok (.goto 4, 3) := by decide +kernel
theorem dX6_line_121 : decode cX6_line 121 = .ok (.iconst 0, 1) := by decide +kernel
theorem dX6_line_122 : decode cX6_line 122 = .ok (.ireturn, 1) := by decide +kernel
theorem dX6_line_123 : decode cX6_line 123 = .ok (.aload_n 0, 1) := by decide +kernel
theorem dX6_line_124 : decode cX6_line 124 = .ok (.sipush 999, 3) := by decide +kernel
theorem dX6_line_127 : decode cX6_line 127 = .ok (.invokevirtual 71, 3) := by decide +kernel
theorem dX6_line_130 : decode cX6_line 130 = .ok (.ifCond .eq 14, 3) := by decide +kernel
theorem dX6_line_133 : decode cX6_line 133 = .ok (.aload_n 0, 1) := by decide +kernel
theorem dX6_line_134 : decode cX6_line 134 = .ok (.invokevirtual 57, 3) := by decide +kernel
theorem dX6_line_137 : decode cX6_line 137 = .ok (.ifCond .eq 7, 3) := by decide +kernel
theorem dX6_line_140 : decode cX6_line 140 = .ok (.iconst 1, 1) := by decide +kernel
theorem dX6_line_141 : decode cX6_line 141 = .ok (.goto 4, 3) := by decide +kernel
theorem dX6_line_144 : decode cX6_line 144 = .ok (.iconst 0, 1) := by decide +kernel
theorem dX6_line_145 : decode cX6_line 145 = .ok (.ireturn, 1) := by decide +kernel
theorem dX6_line_146 : decode cX6_line 146 = .ok (.aload_n 0, 1) := by decide +kernel
theorem dX6_line_147 : decode cX6_line 147 = .ok (.bipush 99, 2) := by decide +kernel
theorem dX6_line_149 : decode cX6_line 149 = .ok (.invokevirtual 71, 3) := by decide +kernel
theorem dX6_line_152 : decode cX6_line 152 = .ok (.ifCond .eq 14, 3) := by decide +kernel
theorem dX6_line_155 : decode cX6_line 155 = .ok (.aload_n 0, 1) := by decide +kernel
theorem dX6_line_156 : decode cX6_line 156 = .ok (.invokevirtual 57, 3) := by decide +kernel
theorem dX6_line_159 : decode cX6_line 159 = .ok (.ifCond .eq 7, 3) := by decide +kernel
theorem dX6_line_162 : decode cX6_line 162 = .ok (.iconst 1, 1) := by decide +kernel
theorem dX6_line_163 : decode cX6_line 163 = .ok (.goto 4, 3) := by decide +kernel
theorem dX6_line_166 : decode cX6_line 166 = .ok (.iconst 0, 1) := by decide +kernel
theorem dX6_line_167 : decode cX6_line 167 = .ok (.ireturn, 1) := by decide +kernel
theorem dX6_line_168 : decode cX6_line 168 = .ok (.aload_n 0, 1) := by decide +kernel
theorem dX6_line_169 : decode cX6_line 169 = .ok (.bipush 100, 2) := by decide +kernel
theorem dX6_line_171 : decode cX6_line 171 = .ok (.invokevirtual 71, 3) := by decide +kernel
theorem dX6_line_174 : decode cX6_line 174 = .ok (.ifCond .eq 14, 3) := by decide +kernel
theorem dX6_line_177 : decode cX6_line 177 = .ok (.aload_n 0, 1) := by decide +kernel
theorem dX6_line_178 : decode cX6_line 178 = .ok (.invokevirtual 57, 3) := by decide +kernel
theorem dX6_line_181 : decode cX6_line 181 = .ok (.ifCond .eq 7, 3) := by decide +kernel
theorem dX6_line_184 : decode cX6_line 184 = .ok (.iconst 1, 1) := by decide +kernel
theorem dX6_line_185 : decode cX6_line 185 = .ok (.goto 4, 3) := by decide +kernel
theorem dX6_line_188 : decode cX6_line 188 = .ok (.iconst 0, 1) := by decide +kernel
theorem dX6_line_189 : decode cX6_line 189 = .ok (.ireturn, 1) := by decide +kernel
theorem dX6_line_190 : decode cX6_line 190 = .ok (.aload_n 0, 1) := by decide +kernel
theorem dX6_line_191 : decode cX6_line 191 = .ok (.invokevirtual 74, 3) := by decide +kernel
theorem dX6_line_194 : decode cX6_line 194 = .ok (.ireturn, 1) := by decide +kernel
theorem dX6_manLine_0 : decode cX6_manLine 0 = .ok (.aload_n 0, 1) := by decide +kernel
theorem dX6_manLine_1 : decode cX6_manLine 1 = .ok (.getfield 12, 3) := by decide +kernel
theorem dX6_manLine_4 : decode cX6_manLine 4 = .ok (.getfield 89, 3) := by decide +kernel
theorem dX6_manLine_7 : decode cX6_manLine 7 = .ok (.bipush 6, 2) := by decide +kernel
theorem dX6_manLine_9 : decode cX6_manLine 9 = .ok (.if_icmp .lt 8, 3) := by decide +kernel
theorem dX6_manLine_12 : decode cX6_manLine 12 = .ok (.aload_n 0, 1) := by decide +kernel
theorem dX6_manLine_13 : decode cX6_manLine 13 = .ok (.invokevirtual 74, 3) := by decide +kernel
theorem dX6_manLine_16 : decode cX6_manLine 16 = .ok (.ireturn, 1) := by decide +kernel
theorem dX6_manLine_17 : decode cX6_manLine 17 = .ok (.aload_n 0, 1) := by decide +kernel
theorem dX6_manLine_18 : decode cX6_manLine 18 = .ok (.getfield 29, 3) := by decide +kernel
theorem dX6_manLine_21 : decode cX6_manLine 21 = .ok (.invokevirtual 86, 3) := by decide +kernel
theorem dX6_manLine_24 : decode cX6_manLine 24 = .ok (.aload_n 0, 1) := by decide +kernel
theorem dX6_manLine_25 : decode cX6_manLine 25 = .ok (.aload_n 0, 1) := by decide +kernel
theorem dX6_manLine_26 : decode cX6_manLine 26 = .ok (.getfield 18, 3) := by decide +kernel
theorem dX6_manLine_29 : decode cX6_manLine 29 = .ok (.aload_n 0, 1) := by decide +kernel
theorem dX6_manLine_30 : decode cX6_manLine 30 = .ok (.getfield 12, 3) := by decide +kernel
theorem dX6_manLine_33 : decode cX6_manLine 33 = .ok (.getfield 89, 3) := by decide +kernel
theorem dX6_manLine_36 : decode cX6_manLine 36 = .ok (.invokevirtual 92, 3) := by decide +kernel
theorem dX6_manLine_39 : decode cX6_manLine 39 = .ok (.ifCond .ne 5, 3) := by decide +kernel
theorem dX6_manLine_42 : decode cX6_manLine 42 = .ok (.iconst 0, 1) := by decide +kernel
theorem dX6_manLine_43 : decode cX6_manLine 43 = .ok (.ireturn, 1) := by decide +kernel
theorem dX6_manLine_44 : decode cX6_manLine 44 = .ok (.aload_n 0, 1) := by decide +kernel
theorem dX6_manLine_45 : decode cX6_manLine 45 = .ok (.bipush 109, 2) := by decide +kernel
theorem dX6_manLine_47 : decode cX6_manLine 47 = .ok (.bipush 99, 2) := by decide +kernel
theorem dX6_manLine_49 : decode cX6_manLine 49 = .ok (.invokevirtual 96, 3) := by decide +kernel
theorem dX6_manLine_52 : decode cX6_manLine 52 = .ok (.istore_n 1, 1) := by decide +kernel
theorem dX6_manLine_53 : decode cX6_manLine 53 = .ok (.iload_n 1, 1) := by decide +kernel
theorem dX6_manLine_54 : decode cX6_manLine 54 = .ok (.ifCond .ge 7, 3) := by decide +kernel
theorem dX6_manLine_57 : decode cX6_manLine 57 = .ok (.iconst (-1), 1) := by decide +kernel
theorem dX6_manLine_58 : decode cX6_manLine 58 = .ok (.goto 11, 3) := by decide +kernel
theorem dX6_manLine_61 : decode cX6_manLine 61 = .ok (.aload_n 0, 1) := by decide +kernel
theorem dX6_manLine_62 : decode cX6_manLine 62 = .ok (.bipush 110, 2) := by decide +kernel
theorem dX6_manLine_64 : decode cX6_manLine 64 = .ok (.bipush 99, 2) := by decide +kernel
theorem dX6_manLine_66 : decode cX6_manLine 66 = .ok (.invokevirtual 96, 3) := by decide +kernel
theorem dX6_manLine_69 : decode cX6_manLine 69 = .ok (.istore_n 2, 1) := by decide +kernel
theorem dX6_manLine_70 : decode cX6_manLine 70 = .ok (.iload_n 2, 1) := by decide +kernel
theorem dX6_manLine_71 : decode cX6_manLine 71 = .ok (.ifCond .ge 7, 3) := by decide +kernel
theorem dX6_manLine_74 : decode cX6_manLine 74 = .ok (.iconst (-1), 1) := by decide +kernel
theorem dX6_manLine_75 : decode cX6_manLine 75 = .ok (.goto 27, 3) := by decide +kernel
theorem dX6_manLine_78 : decode cX6_manLine 78 = .ok (.aload_n 0, 1) := by decide +kernel
theorem dX6_manLine_79 : decode cX6_manLine 79 = .ok (.getfield 29, 3) := by decide +kernel
theorem dX6_manLine_82 : decode cX6_manLine 82 = .ok (.getfield 47, 3) := by decide +kernel
theorem dX6_manLine_85 : decode cX6_manLine 85 = .ok (.bipush 111, 2) := by decide +kernel
theorem dX6_manLine_87 : decode cX6_manLine 87 = .ok (.if_icmp .ne 14, 3) := by decide +kernel
theorem dX6_manLine_90 : decode cX6_manLine 90 = .ok (.aload_n 0, 1) := by decide +kernel
theorem dX6_manLine_91 : decode cX6_manLine 91 = .ok (.bipush 111, 2) := by decide +kernel
theorem dX6_manLine_93 : decode cX6_manLine 93 = .ok (.bipush 9, 2) := by decide +kernel
theorem dX6_manLine_95 : decode cX6_manLine 95 = .ok (.invokevirtual 96, 3) := by decide +kernel
theorem dX6_manLine_98 : decode cX6_manLine 98 = .ok (.goto 4, 3) := by decide +kernel
theorem dX6_manLine_101 : decode cX6_manLine 101 = .ok (.iconst 0, 1) := by decide +kernel
theorem dX6_manLine_102 : decode cX6_manLine 102 = .ok (.istore_n 3, 1) := by decide +kernel
theorem dX6_manLine_103 : decode cX6_manLine 103 = .ok (.iload_n 3, 1) := by decide +kernel
theorem dX6_manLine_104 : decode cX6_manLine 104 = .ok (.ifCond .ge 5, 3) := by decide +kernel
theorem dX6_manLine_107 : decode cX6_manLine 107 = .ok (.iconst 0, 1) := by decide +kernel
theorem dX6_manLine_108 : decode cX6_manLine 108 = .ok (.ireturn, 1) := by decide +kernel
theorem dX6_manLine_109 : decode cX6_manLine 109 = .ok (.aload_n 0, 1) := by decide +kernel
theorem dX6_manLine_110 : decode cX6_manLine 110 = .ok (.getfield 12, 3) := by decide +kernel
theorem dX6_manLine_113 : decode cX6_manLine 113 = .ok (.iload_n 1, 1) := by decide +kernel
theorem dX6_manLine_114 : decode cX6_manLine 114 = .ok (.iload_n 2, 1) := by decide +kernel
theorem dX6_manLine_115 : decode cX6_manLine 115 = .ok (.iload_n 3, 1) := by decide +kernel
theorem dX6_manLine_116 : decode cX6_manLine 116 = .ok (.invokevirtual 100, 3) := by decide +kernel
theorem dX6_manLine_119 : decode cX6_manLine 119 = .ok (.iconst 1, 1) := by decide +kernel
theorem dX6_manLine_120 : decode cX6_manLine 120 = .ok (.ireturn, 1) := by decide +kernel
theorem dX6_name_0 : decode cX6_name 0 = .ok (.aload_n 0, 1) := by decide +kernel
theorem dX6_name_1 : decode cX6_name 1 = .ok (.getfield 29, 3) := by decide +kernel
theorem dX6_name_4 : decode cX6_name 4 = .ok (.getfield 47, 3) := by decide +kernel
theorem dX6_name_7 : decode cX6_name 7 = .ok (.iconst 3, 1) := by decide +kernel
theorem dX6_name_8 : decode cX6_name 8 = .ok (.if_icmp .eq 8, 3) := by decide +kernel
theorem dX6_name_11 : decode cX6_name 11 = .ok (.aload_n 0, 1) := by decide +kernel
theorem dX6_name_12 : decode cX6_name 12 = .ok (.invokevirtual 74, 3) := by decide +kernel
theorem dX6_name_15 : decode cX6_name 15 = .ok (.ireturn, 1) := by decide +kernel
theorem dX6_name_16 : decode cX6_name 16 = .ok (.iconst 0, 1) := by decide +kernel
theorem dX6_name_17 : decode cX6_name 17 = .ok (.istore_n 3, 1) := by decide +kernel
theorem dX6_name_18 : decode cX6_name 18 = .ok (.iload_n 3, 1) := by decide +kernel
theorem dX6_name_19 : decode cX6_name 19 = .ok (.iload_n 2, 1) := by decide +kernel
theorem dX6_name_20 : decode cX6_name 20 = .ok (.if_icmp .ge 41, 3) := by decide +kernel
theorem dX6_name_23 : decode cX6_name 23 = .ok (.iload_n 3, 1) := by decide +kernel
theorem dX6_name_24 : decode cX6_name 24 = .ok (.aload_n 1, 1) := by decide +kernel
theorem dX6_name_25 : decode cX6_name 25 = .ok (.arraylength, 1) := by decide +kernel
theorem dX6_name_26 : decode cX6_name 26 = .ok (.if_icmp .ge 35, 3) := by decide +kernel
theorem dX6_name_29 : decode cX6_name 29 = .ok (.aload_n 0, 1) := by decide +kernel
theorem dX6_name_30 : decode cX6_name 30 = .ok (.getfield 29, 3) := by decide +kernel
theorem dX6_name_33 : decode cX6_name 33 = .ok (.aload_n 1, 1) := by decide +kernel
theorem dX6_name_34 : decode cX6_name 34 = .ok (.iload_n 3, 1) := by decide +kernel
theorem dX6_name_35 : decode cX6_name 35 = .ok (.iaload, 1) := by decide +kernel
theorem dX6_name_36 : decode cX6_name 36 = .ok (.aload_n 0, 1) := by decide +kernel
theorem dX6_name_37 : decode cX6_name 37 = .ok (.getfield 29, 3) := by decide +kernel
theorem dX6_name_40 : decode cX6_name 40 = .ok (.getfield 80, 3) := by decide +kernel
theorem dX6_name_43 : decode cX6_name 43 = .ok (.invokevirtual 111, 3) := by decide +kernel
theorem dX6_name_46 : decode cX6_name 46 = .ok (.ifCond .eq 9, 3) := by decide +kernel
theorem dX6_name_49 : decode cX6_name 49 = .ok (.aload_n 0, 1) := by decide +kernel
theorem dX6_name_50 : decode cX6_name 50 = .ok (.iconst 3, 1) := by decide +kernel
theorem dX6_name_51 : decode cX6_name 51 = .ok (.invokevirtual 77, 3) := by decide +kernel
theorem dX6_name_54 : decode cX6_name 54 = .ok (.ireturn, 1) := by decide +kernel
theorem dX6_name_55 : decode cX6_name 55 = .ok (.iinc 3 1, 3) := by decide +kernel
theorem dX6_name_58 : decode cX6_name 58 = .ok (.goto (-40), 3) := by decide +kernel
theorem dX6_name_61 : decode cX6_name 61 = .ok (.iload_n 2, 1) := by decide +kernel
theorem dX6_name_62 : decode cX6_name 62 = .ok (.ifCond .lt 19, 3) := by decide +kernel
theorem dX6_name_65 : decode cX6_name 65 = .ok (.iload_n 2, 1) := by decide +kernel
theorem dX6_name_66 : decode cX6_name 66 = .ok (.aload_n 1, 1) := by decide +kernel
theorem dX6_name_67 : decode cX6_name 67 = .ok (.arraylength, 1) := by decide +kernel
theorem dX6_name_68 : decode cX6_name 68 = .ok (.if_icmp .ge 13, 3) := by decide +kernel
theorem dX6_name_71 : decode cX6_name 71 = .ok (.aload_n 1, 1) := by decide +kernel
theorem dX6_name_72 : decode cX6_name 72 = .ok (.iload_n 2, 1) := by decide +kernel
theorem dX6_name_73 : decode cX6_name 73 = .ok (.aload_n 0, 1) := by decide +kernel
theorem dX6_name_74 : decode cX6_name 74 = .ok (.getfield 29, 3) := by decide +kernel
theorem dX6_name_77 : decode cX6_name 77 = .ok (.getfield 80, 3) := by decide +kernel
theorem dX6_name_80 : decode cX6_name 80 = .ok (.iastore, 1) := by decide +kernel
theorem dX6_name_81 : decode cX6_name 81 = .ok (.aload_n 0, 1) := by decide +kernel
theorem dX6_name_82 : decode cX6_name 82 = .ok (.getfield 29, 3) := by decide +kernel
theorem dX6_name_85 : decode cX6_name 85 = .ok (.invokevirtual 86, 3) := by decide +kernel
theorem dX6_name_88 : decode cX6_name 88 = .ok (.iconst 1, 1) := by decide +kernel
theorem dX6_name_89 : decode cX6_name 89 = .ok (.ireturn, 1) := by decide +kernel
theorem dX6_negation_0 : decode cX6_negation 0 = .ok (.iload_n 1, 1) := by decide +kernel
theorem dX6_negation_1 : decode cX6_negation 1 = .ok (.bipush 7, 2) := by decide +kernel
theorem dX6_negation_3 : decode cX6_negation 3 = .ok (.if_icmp .lt 8, 3) := by decide +kernel
theorem dX6_negation_6 : decode cX6_negation 6 = .ok (.aload_n 0, 1) := by decide +kernel
theorem dX6_negation_7 : decode cX6_negation 7 = .ok (.invokevirtual 74, 3) := by decide +kernel
theorem dX6_negation_10 : decode cX6_negation 10 = .ok (.ireturn, 1) := by decide +kernel
theorem dX6_negation_11 : decode cX6_negation 11 = .ok (.aload_n 0, 1) := by decide +kernel
theorem dX6_negation_12 : decode cX6_negation 12 = .ok (.getfield 29, 3) := by decide +kernel
theorem dX6_negation_15 : decode cX6_negation 15 = .ok (.invokevirtual 86, 3) := by decide +kernel
theorem dX6_negation_18 : decode cX6_negation 18 = .ok (.aload_n 0, 1) := by decide +kernel
theorem dX6_negation_19 : decode cX6_negation 19 = .ok (.iconst 2, 1) := by decide +kernel
theorem dX6_negation_20 : decode cX6_negation 20 = .ok (.iload_n 1, 1) := by decide +kernel
theorem dX6_negation_21 : decode cX6_negation 21 = .ok (.iconst 1, 1) := by decide +kernel
theorem dX6_negation_22 : decode cX6_negation 22 = .ok (.iadd, 1) := by decide +kernel
theorem dX6_negation_23 : decode cX6_negation 23 = .ok (.invokevirtual 67, 3) := by decide +kernel
theorem dX6_negation_26 : decode cX6_negation 26 = .ok (.ifCond .ne 5, 3) := by decide +kernel
theorem dX6_negation_29 : decode cX6_negation 29 = .ok (.iconst 0, 1) := by decide +kernel
theorem dX6_negation_30 : decode cX6_negation 30 = .ok (.ireturn, 1) := by decide +kernel
theorem dX6_negation_31 : decode cX6_negation 31 = .ok (.aload_n 0, 1) := by decide +kernel
theorem dX6_negation_32 : decode cX6_negation 32 = .ok (.getfield 12, 3) := by decide +kernel
theorem dX6_negation_35 : decode cX6_negation 35 = .ok (.getfield 134, 3) := by decide +kernel
theorem dX6_negation_38 : decode cX6_negation 38 = .ok (.bipush 115, 2) := by decide +kernel
theorem dX6_negation_40 : decode cX6_negation 40 = .ok (.iconst 0, 1) := by decide +kernel
theorem dX6_negation_41 : decode cX6_negation 41 = .ok (.invokevirtual 138, 3) := by decide +kernel
theorem dX6_negation_44 : decode cX6_negation 44 = .ok (.iconst 1, 1) := by decide +kernel
theorem dX6_negation_45 : decode cX6_negation 45 = .ok (.ireturn, 1) := by decide +kernel
theorem dX6_numbered_0 : decode cX6_numbered 0 = .ok (.aload_n 0, 1) := by decide +kernel
theorem dX6_numbered_1 : decode cX6_numbered 1 = .ok (.getfield 29, 3) := by decide +kernel
theorem dX6_numbered_4 : decode cX6_numbered 4 = .ok (.getfield 118, 3) := by decide +kernel
theorem dX6_numbered_7 : decode cX6_numbered 7 = .ok (.istore_n 2, 1) := by decide +kernel
theorem dX6_numbered_8 : decode cX6_numbered 8 = .ok (.aload_n 0, 1) := by decide +kernel
theorem dX6_numbered_9 : decode cX6_numbered 9 = .ok (.getfield 29, 3) := by decide +kernel
theorem dX6_numbered_12 : decode cX6_numbered 12 = .ok (.getfield 47, 3) := by decide +kernel
theorem dX6_numbered_15 : decode cX6_numbered 15 = .ok (.iconst 2, 1) := by decide +kernel
theorem dX6_numbered_16 : decode cX6_numbered 16 = .ok (.if_icmp .eq 10, 3) := by decide +kernel
theorem dX6_numbered_19 : decode cX6_numbered 19 = .ok (.aload_n 0, 1) := by decide +kernel
theorem dX6_numbered_20 : decode cX6_numbered 20 = .ok (.invokevirtual 74, 3) := by decide +kernel
theorem dX6_numbered_23 : decode cX6_numbered 23 = .ok (.pop, 1) := by decide +kernel
theorem dX6_numbered_24 : decode cX6_numbered 24 = .ok (.iconst (-1), 1) := by decide +kernel
theorem dX6_numbered_25 : decode cX6_numbered 25 = .ok (.ireturn, 1) := by decide +kernel
theorem dX6_numbered_26 : decode cX6_numbered 26 = .ok (.iload_n 2, 1) := by decide +kernel
theorem dX6_numbered_27 : decode cX6_numbered 27 = .ok (.iload_n 1, 1) := by decide +kernel
theorem dX6_numbered_28 : decode cX6_numbered 28 = .ok (.if_icmp .le 11, 3) := by decide +kernel
theorem dX6_numbered_31 : decode cX6_numbered 31 = .ok (.aload_n 0, 1) := by decide +kernel
theorem dX6_numbered_32 : decode cX6_numbered 32 = .ok (.iconst 4, 1) := by decide +kernel
theorem dX6_numbered_33 : decode cX6_numbered 33 = .ok (.invokevirtual 77, 3) := by decide +kernel
theorem dX6_numbered_36 : decode cX6_numbered 36 = .ok (.pop, 1) := by decide +kernel
theorem dX6_numbered_37 : decode cX6_numbered 37 = .ok (.iconst (-1), 1) := by decide +kernel
theorem dX6_numbered_38 : decode cX6_numbered 38 = .ok (.ireturn, 1) := by decide +kernel
theorem dX6_numbered_39 : decode cX6_numbered 39 = .ok (.aload_n 0, 1) := by decide +kernel
theorem dX6_numbered_40 : decode cX6_numbered 40 = .ok (.getfield 29, 3) := by decide +kernel
theorem dX6_numbered_43 : decode cX6_numbered 43 = .ok (.invokevirtual 86, 3) := by decide +kernel
theorem dX6_numbered_46 : decode cX6_numbered 46 = .ok (.iload_n 2, 1) := by decide +kernel
theorem dX6_numbered_47 : decode cX6_numbered 47 = .ok (.ireturn, 1) := by decide +kernel
theorem dX6_opened_0 : decode cX6_opened 0 = .ok (.iconst 1, 1) := by decide +kernel
theorem dX6_opened_1 : decode cX6_opened 1 = .ok (.iload_n 1, 1) := by decide +kernel
theorem dX6_opened_2 : decode cX6_opened 2 = .ok (.bipush 103, 2) := by decide +kernel
theorem dX6_opened_4 : decode cX6_opened 4 = .ok (.isub, 1) := by decide +kernel
theorem dX6_opened_5 : decode cX6_opened 5 = .ok (.ishl, 1) := by decide +kernel
theorem dX6_opened_6 : decode cX6_opened 6 = .ok (.istore_n 2, 1) := by decide +kernel
theorem dX6_opened_7 : decode cX6_opened 7 = .ok (.aload_n 0, 1) := by decide +kernel
theorem dX6_opened_8 : decode cX6_opened 8 = .ok (.getfield 36, 3) := by decide +kernel
theorem dX6_opened_11 : decode cX6_opened 11 = .ok (.iload_n 2, 1) := by decide +kernel
theorem dX6_opened_12 : decode cX6_opened 12 = .ok (.iand, 1) := by decide +kernel
theorem dX6_opened_13 : decode cX6_opened 13 = .ok (.ifCond .eq 8, 3) := by decide +kernel
theorem dX6_opened_16 : decode cX6_opened 16 = .ok (.aload_n 0, 1) := by decide +kernel
theorem dX6_opened_17 : decode cX6_opened 17 = .ok (.invokevirtual 74, 3) := by decide +kernel
theorem dX6_opened_20 : decode cX6_opened 20 = .ok (.ireturn, 1) := by decide +kernel
theorem dX6_opened_21 : decode cX6_opened 21 = .ok (.aload_n 0, 1) := by decide +kernel
theorem dX6_opened_22 : decode cX6_opened 22 = .ok (.dup, 1) := by decide +kernel
theorem dX6_opened_23 : decode cX6_opened 23 = .ok (.getfield 36, 3) := by decide +kernel
theorem dX6_opened_26 : decode cX6_opened 26 = .ok (.iload_n 2, 1) := by decide +kernel
theorem dX6_opened_27 : decode cX6_opened 27 = .ok (.ior, 1) := by decide +kernel
theorem dX6_opened_28 : decode cX6_opened 28 = .ok (.putfield 36, 3) := by decide +kernel
theorem dX6_opened_31 : decode cX6_opened 31 = .ok (.aload_n 0, 1) := by decide +kernel
theorem dX6_opened_32 : decode cX6_opened 32 = .ok (.getfield 29, 3) := by decide +kernel
theorem dX6_opened_35 : decode cX6_opened 35 = .ok (.invokevirtual 86, 3) := by decide +kernel
theorem dX6_opened_38 : decode cX6_opened 38 = .ok (.iconst 1, 1) := by decide +kernel
theorem dX6_opened_39 : decode cX6_opened 39 = .ok (.ireturn, 1) := by decide +kernel
theorem dX6_read_0 : decode cX6_read 0 = .ok (.aload_n 0, 1) := by decide +kernel
theorem dX6_read_1 : decode cX6_read 1 = .ok (.getfield 12, 3) := by decide +kernel
theorem dX6_read_4 : decode cX6_read 4 = .ok (.invokevirtual 33, 3) := by decide +kernel
theorem dX6_read_7 : decode cX6_read 7 = .ok (.aload_n 0, 1) := by decide +kernel
theorem dX6_read_8 : decode cX6_read 8 = .ok (.iconst 0, 1) := by decide +kernel
theorem dX6_read_9 : decode cX6_read 9 = .ok (.putfield 36, 3) := by decide +kernel
theorem dX6_read_12 : decode cX6_read 12 = .ok (.aload_n 0, 1) := by decide +kernel
theorem dX6_read_13 : decode cX6_read 13 = .ok (.iconst 0, 1) := by decide +kernel
theorem dX6_read_14 : decode cX6_read 14 = .ok (.putfield 39, 3) := by decide +kernel
theorem dX6_read_17 : decode cX6_read 17 = .ok (.aload_n 0, 1) := by decide +kernel
theorem dX6_read_18 : decode cX6_read 18 = .ok (.iconst (-1), 1) := by decide +kernel
theorem dX6_read_19 : decode cX6_read 19 = .ok (.putfield 25, 3) := by decide +kernel
theorem dX6_read_22 : decode cX6_read 22 = .ok (.aload_n 0, 1) := by decide +kernel
theorem dX6_read_23 : decode cX6_read 23 = .ok (.getfield 29, 3) := by decide +kernel
theorem dX6_read_26 : decode cX6_read 26 = .ok (.invokevirtual 42, 3) := by decide +kernel
