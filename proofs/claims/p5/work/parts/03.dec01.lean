theorem dX11_readCoat_14 : decode cX11_readCoat 14 = .ok (.aload_n 0, 1) := by decide +kernel
theorem dX11_readCoat_15 : decode cX11_readCoat 15 = .ok (.getfield 339, 3) := by decide +kernel
theorem dX11_readCoat_18 : decode cX11_readCoat 18 = .ok (.aload_n 0, 1) := by decide +kernel
theorem dX11_readCoat_19 : decode cX11_readCoat 19 = .ok (.ldc2_w 184, 3) := by decide +kernel
theorem dX11_readCoat_22 : decode cX11_readCoat 22 = .ok (.bipush 99, 2) := by decide +kernel
theorem dX11_readCoat_24 : decode cX11_readCoat 24 = .ok (.invokevirtual 246, 3) := by decide +kernel
theorem dX11_readCoat_27 : decode cX11_readCoat 27 = .ok (.iastore, 1) := by decide +kernel
theorem dX11_readCoat_28 : decode cX11_readCoat 28 = .ok (.aload_n 0, 1) := by decide +kernel
theorem dX11_readCoat_29 : decode cX11_readCoat 29 = .ok (.getfield 54, 3) := by decide +kernel
theorem dX11_readCoat_32 : decode cX11_readCoat 32 = .ok (.aload_n 0, 1) := by decide +kernel
theorem dX11_readCoat_33 : decode cX11_readCoat 33 = .ok (.getfield 339, 3) := by decide +kernel
theorem dX11_readCoat_36 : decode cX11_readCoat 36 = .ok (.aload_n 0, 1) := by decide +kernel
theorem dX11_readCoat_37 : decode cX11_readCoat 37 = .ok (.ldc2_w 186, 3) := by decide +kernel
theorem dX11_readCoat_40 : decode cX11_readCoat 40 = .ok (.bipush 99, 2) := by decide +kernel
theorem dX11_readCoat_42 : decode cX11_readCoat 42 = .ok (.invokevirtual 246, 3) := by decide +kernel
theorem dX11_readCoat_45 : decode cX11_readCoat 45 = .ok (.iastore, 1) := by decide +kernel
theorem dX11_readCoat_46 : decode cX11_readCoat 46 = .ok (.aload_n 0, 1) := by decide +kernel
theorem dX11_readCoat_47 : decode cX11_readCoat 47 = .ok (.getfield 57, 3) := by decide +kernel
theorem dX11_readCoat_50 : decode cX11_readCoat 50 = .ok (.aload_n 0, 1) := by decide +kernel
theorem dX11_readCoat_51 : decode cX11_readCoat 51 = .ok (.getfield 339, 3) := by decide +kernel
theorem dX11_readCoat_54 : decode cX11_readCoat 54 = .ok (.aload_n 0, 1) := by decide +kernel
theorem dX11_readCoat_55 : decode cX11_readCoat 55 = .ok (.ldc2_w 192, 3) := by decide +kernel
theorem dX11_readCoat_58 : decode cX11_readCoat 58 = .ok (.bipush 20, 2) := by decide +kernel
theorem dX11_readCoat_60 : decode cX11_readCoat 60 = .ok (.invokevirtual 336, 3) := by decide +kernel
theorem dX11_readCoat_63 : decode cX11_readCoat 63 = .ok (.iastore, 1) := by decide +kernel
theorem dX11_readCoat_64 : decode cX11_readCoat 64 = .ok (.aload_n 0, 1) := by decide +kernel
theorem dX11_readCoat_65 : decode cX11_readCoat 65 = .ok (.getfield 60, 3) := by decide +kernel
theorem dX11_readCoat_68 : decode cX11_readCoat 68 = .ok (.aload_n 0, 1) := by decide +kernel
theorem dX11_readCoat_69 : decode cX11_readCoat 69 = .ok (.getfield 339, 3) := by decide +kernel
theorem dX11_readCoat_72 : decode cX11_readCoat 72 = .ok (.aload_n 0, 1) := by decide +kernel
theorem dX11_readCoat_73 : decode cX11_readCoat 73 = .ok (.ldc2_w 194, 3) := by decide +kernel
theorem dX11_readCoat_76 : decode cX11_readCoat 76 = .ok (.bipush 99, 2) := by decide +kernel
theorem dX11_readCoat_78 : decode cX11_readCoat 78 = .ok (.invokevirtual 336, 3) := by decide +kernel
theorem dX11_readCoat_81 : decode cX11_readCoat 81 = .ok (.iastore, 1) := by decide +kernel
theorem dX11_readCoat_82 : decode cX11_readCoat 82 = .ok (.aload_n 0, 1) := by decide +kernel
theorem dX11_readCoat_83 : decode cX11_readCoat 83 = .ok (.getfield 179, 3) := by decide +kernel
theorem dX11_readCoat_86 : decode cX11_readCoat 86 = .ok (.ifCond .ne 13, 3) := by decide +kernel
theorem dX11_readCoat_89 : decode cX11_readCoat 89 = .ok (.aload_n 0, 1) := by decide +kernel
theorem dX11_readCoat_90 : decode cX11_readCoat 90 = .ok (.dup, 1) := by decide +kernel
theorem dX11_readCoat_91 : decode cX11_readCoat 91 = .ok (.getfield 339, 3) := by decide +kernel
theorem dX11_readCoat_94 : decode cX11_readCoat 94 = .ok (.iconst 1, 1) := by decide +kernel
theorem dX11_readCoat_95 : decode cX11_readCoat 95 = .ok (.iadd, 1) := by decide +kernel
theorem dX11_readCoat_96 : decode cX11_readCoat 96 = .ok (.putfield 339, 3) := by decide +kernel
theorem dX11_readCoat_99 : decode cX11_readCoat 99 = .ok (.return_, 1) := by decide +kernel
theorem dX11_readLine_0 : decode cX11_readLine 0 = .ok (.aload_n 0, 1) := by decide +kernel
theorem dX11_readLine_1 : decode cX11_readLine 1 = .ok (.ldc2_w 182, 3) := by decide +kernel
theorem dX11_readLine_4 : decode cX11_readLine 4 = .ok (.invokevirtual 228, 3) := by decide +kernel
theorem dX11_readLine_7 : decode cX11_readLine 7 = .ok (.ifCond .eq 19, 3) := by decide +kernel
theorem dX11_readLine_10 : decode cX11_readLine 10 = .ok (.aload_n 0, 1) := by decide +kernel
theorem dX11_readLine_11 : decode cX11_readLine 11 = .ok (.getfield 330, 3) := by decide +kernel
theorem dX11_readLine_14 : decode cX11_readLine 14 = .ok (.bipush 6, 2) := by decide +kernel
theorem dX11_readLine_16 : decode cX11_readLine 16 = .ok (.if_icmp .ge 10, 3) := by decide +kernel
theorem dX11_readLine_19 : decode cX11_readLine 19 = .ok (.aload_n 0, 1) := by decide +kernel
theorem dX11_readLine_20 : decode cX11_readLine 20 = .ok (.invokevirtual 342, 3) := by decide +kernel
theorem dX11_readLine_23 : decode cX11_readLine 23 = .ok (.goto 251, 3) := by decide +kernel
theorem dX11_readLine_26 : decode cX11_readLine 26 = .ok (.aload_n 0, 1) := by decide +kernel
theorem dX11_readLine_27 : decode cX11_readLine 27 = .ok (.ldc2_w 190, 3) := by decide +kernel
theorem dX11_readLine_30 : decode cX11_readLine 30 = .ok (.invokevirtual 228, 3) := by decide +kernel
theorem dX11_readLine_33 : decode cX11_readLine 33 = .ok (.ifCond .eq 19, 3) := by decide +kernel
theorem dX11_readLine_36 : decode cX11_readLine 36 = .ok (.aload_n 0, 1) := by decide +kernel
theorem dX11_readLine_37 : decode cX11_readLine 37 = .ok (.getfield 339, 3) := by decide +kernel
theorem dX11_readLine_40 : decode cX11_readLine 40 = .ok (.bipush 6, 2) := by decide +kernel
theorem dX11_readLine_42 : decode cX11_readLine 42 = .ok (.if_icmp .ge 10, 3) := by decide +kernel
theorem dX11_readLine_45 : decode cX11_readLine 45 = .ok (.aload_n 0, 1) := by decide +kernel
theorem dX11_readLine_46 : decode cX11_readLine 46 = .ok (.invokevirtual 345, 3) := by decide +kernel
theorem dX11_readLine_49 : decode cX11_readLine 49 = .ok (.goto 225, 3) := by decide +kernel
theorem dX11_readLine_52 : decode cX11_readLine 52 = .ok (.aload_n 0, 1) := by decide +kernel
theorem dX11_readLine_53 : decode cX11_readLine 53 = .ok (.ldc2_w 196, 3) := by decide +kernel
theorem dX11_readLine_56 : decode cX11_readLine 56 = .ok (.invokevirtual 228, 3) := by decide +kernel
theorem dX11_readLine_59 : decode cX11_readLine 59 = .ok (.ifCond .eq 17, 3) := by decide +kernel
theorem dX11_readLine_62 : decode cX11_readLine 62 = .ok (.aload_n 0, 1) := by decide +kernel
theorem dX11_readLine_63 : decode cX11_readLine 63 = .ok (.getfield 291, 3) := by decide +kernel
theorem dX11_readLine_66 : decode cX11_readLine 66 = .ok (.ifCond .ne 10, 3) := by decide +kernel
theorem dX11_readLine_69 : decode cX11_readLine 69 = .ok (.aload_n 0, 1) := by decide +kernel
theorem dX11_readLine_70 : decode cX11_readLine 70 = .ok (.invokevirtual 348, 3) := by decide +kernel
theorem dX11_readLine_73 : decode cX11_readLine 73 = .ok (.goto 201, 3) := by decide +kernel
theorem dX11_readLine_76 : decode cX11_readLine 76 = .ok (.aload_n 0, 1) := by decide +kernel
theorem dX11_readLine_77 : decode cX11_readLine 77 = .ok (.ldc2_w 198, 3) := by decide +kernel
theorem dX11_readLine_80 : decode cX11_readLine 80 = .ok (.invokevirtual 228, 3) := by decide +kernel
theorem dX11_readLine_83 : decode cX11_readLine 83 = .ok (.ifCond .eq 32, 3) := by decide +kernel
theorem dX11_readLine_86 : decode cX11_readLine 86 = .ok (.aload_n 0, 1) := by decide +kernel
theorem dX11_readLine_87 : decode cX11_readLine 87 = .ok (.getfield 351, 3) := by decide +kernel
theorem dX11_readLine_90 : decode cX11_readLine 90 = .ok (.ifCond .ne 25, 3) := by decide +kernel
theorem dX11_readLine_93 : decode cX11_readLine 93 = .ok (.aload_n 0, 1) := by decide +kernel
theorem dX11_readLine_94 : decode cX11_readLine 94 = .ok (.iconst 1, 1) := by decide +kernel
theorem dX11_readLine_95 : decode cX11_readLine 95 = .ok (.putfield 351, 3) := by decide +kernel
theorem dX11_readLine_98 : decode cX11_readLine 98 = .ok (.aload_n 0, 1) := by decide +kernel
theorem dX11_readLine_99 : decode cX11_readLine 99 = .ok (.aload_n 0, 1) := by decide +kernel
theorem dX11_readLine_100 : decode cX11_readLine 100 = .ok (.ldc2_w 198, 3) := by decide +kernel
theorem dX11_readLine_103 : decode cX11_readLine 103 = .ok (.sipush 999, 3) := by decide +kernel
theorem dX11_readLine_106 : decode cX11_readLine 106 = .ok (.invokevirtual 246, 3) := by decide +kernel
theorem dX11_readLine_109 : decode cX11_readLine 109 = .ok (.putfield 354, 3) := by decide +kernel
theorem dX11_readLine_112 : decode cX11_readLine 112 = .ok (.goto 162, 3) := by decide +kernel
theorem dX11_readLine_115 : decode cX11_readLine 115 = .ok (.aload_n 0, 1) := by decide +kernel
theorem dX11_readLine_116 : decode cX11_readLine 116 = .ok (.ldc2_w 200, 3) := by decide +kernel
theorem dX11_readLine_119 : decode cX11_readLine 119 = .ok (.invokevirtual 228, 3) := by decide +kernel
theorem dX11_readLine_122 : decode cX11_readLine 122 = .ok (.ifCond .eq 32, 3) := by decide +kernel
theorem dX11_readLine_125 : decode cX11_readLine 125 = .ok (.aload_n 0, 1) := by decide +kernel
theorem dX11_readLine_126 : decode cX11_readLine 126 = .ok (.getfield 357, 3) := by decide +kernel
theorem dX11_readLine_129 : decode cX11_readLine 129 = .ok (.ifCond .ne 25, 3) := by decide +kernel
theorem dX11_readLine_132 : decode cX11_readLine 132 = .ok (.aload_n 0, 1) := by decide +kernel
theorem dX11_readLine_133 : decode cX11_readLine 133 = .ok (.iconst 1, 1) := by decide +kernel
theorem dX11_readLine_134 : decode cX11_readLine 134 = .ok (.putfield 357, 3) := by decide +kernel
theorem dX11_readLine_137 : decode cX11_readLine 137 = .ok (.aload_n 0, 1) := by decide +kernel
theorem dX11_readLine_138 : decode cX11_readLine 138 = .ok (.aload_n 0, 1) := by decide +kernel
theorem dX11_readLine_139 : decode cX11_readLine 139 = .ok (.ldc2_w 200, 3) := by decide +kernel
theorem dX11_readLine_142 : decode cX11_readLine 142 = .ok (.sipush 999, 3) := by decide +kernel
theorem dX11_readLine_145 : decode cX11_readLine 145 = .ok (.invokevirtual 246, 3) := by decide +kernel
theorem dX11_readLine_148 : decode cX11_readLine 148 = .ok (.putfield 360, 3) := by decide +kernel
theorem dX11_readLine_151 : decode cX11_readLine 151 = .ok (.goto 123, 3) := by decide +kernel
theorem dX11_readLine_154 : decode cX11_readLine 154 = .ok (.aload_n 0, 1) := by decide +kernel
theorem dX11_readLine_155 : decode cX11_readLine 155 = .ok (.ldc2_w 202, 3) := by decide +kernel
theorem dX11_readLine_158 : decode cX11_readLine 158 = .ok (.invokevirtual 228, 3) := by decide +kernel
theorem dX11_readLine_161 : decode cX11_readLine 161 = .ok (.ifCond .eq 31, 3) := by decide +kernel
theorem dX11_readLine_164 : decode cX11_readLine 164 = .ok (.aload_n 0, 1) := by decide +kernel
theorem dX11_readLine_165 : decode cX11_readLine 165 = .ok (.getfield 363, 3) := by decide +kernel
theorem dX11_readLine_168 : decode cX11_readLine 168 = .ok (.ifCond .ne 24, 3) := by decide +kernel
theorem dX11_readLine_171 : decode cX11_readLine 171 = .ok (.aload_n 0, 1) := by decide +kernel
theorem dX11_readLine_172 : decode cX11_readLine 172 = .ok (.iconst 1, 1) := by decide +kernel
theorem dX11_readLine_173 : decode cX11_readLine 173 = .ok (.putfield 363, 3) := by decide +kernel
theorem dX11_readLine_176 : decode cX11_readLine 176 = .ok (.aload_n 0, 1) := by decide +kernel
theorem dX11_readLine_177 : decode cX11_readLine 177 = .ok (.aload_n 0, 1) := by decide +kernel
theorem dX11_readLine_178 : decode cX11_readLine 178 = .ok (.ldc2_w 202, 3) := by decide +kernel
theorem dX11_readLine_181 : decode cX11_readLine 181 = .ok (.bipush 99, 2) := by decide +kernel
theorem dX11_readLine_183 : decode cX11_readLine 183 = .ok (.invokevirtual 246, 3) := by decide +kernel
theorem dX11_readLine_186 : decode cX11_readLine 186 = .ok (.putfield 366, 3) := by decide +kernel
theorem dX11_readLine_189 : decode cX11_readLine 189 = .ok (.goto 85, 3) := by decide +kernel
theorem dX11_readLine_192 : decode cX11_readLine 192 = .ok (.aload_n 0, 1) := by decide +kernel
theorem dX11_readLine_193 : decode cX11_readLine 193 = .ok (.ldc2_w 204, 3) := by decide +kernel
theorem dX11_readLine_196 : decode cX11_readLine 196 = .ok (.invokevirtual 228, 3) := by decide +kernel
theorem dX11_readLine_199 : decode cX11_readLine 199 = .ok (.ifCond .eq 31, 3) := by decide +kernel
theorem dX11_readLine_202 : decode cX11_readLine 202 = .ok (.aload_n 0, 1) := by decide +kernel
theorem dX11_readLine_203 : decode cX11_readLine 203 = .ok (.getfield 369, 3) := by decide +kernel
theorem dX11_readLine_206 : decode cX11_readLine 206 = .ok (.ifCond .ne 24, 3) := by decide +kernel
theorem dX11_readLine_209 : decode cX11_readLine 209 = .ok (.aload_n 0, 1) := by decide +kernel
theorem dX11_readLine_210 : decode cX11_readLine 210 = .ok (.iconst 1, 1) := by decide +kernel
theorem dX11_readLine_211 : decode cX11_readLine 211 = .ok (.putfield 369, 3) := by decide +kernel
theorem dX11_readLine_214 : decode cX11_readLine 214 = .ok (.aload_n 0, 1) := by decide +kernel
theorem dX11_readLine_215 : decode cX11_readLine 215 = .ok (.aload_n 0, 1) := by decide +kernel
theorem dX11_readLine_216 : decode cX11_readLine 216 = .ok (.ldc2_w 204, 3) := by decide +kernel
theorem dX11_readLine_219 : decode cX11_readLine 219 = .ok (.bipush 100, 2) := by decide +kernel
theorem dX11_readLine_221 : decode cX11_readLine 221 = .ok (.invokevirtual 246, 3) := by decide +kernel
theorem dX11_readLine_224 : decode cX11_readLine 224 = .ok (.putfield 372, 3) := by decide +kernel
theorem dX11_readLine_227 : decode cX11_readLine 227 = .ok (.goto 47, 3) := by decide +kernel
theorem dX11_readLine_230 : decode cX11_readLine 230 = .ok (.aload_n 0, 1) := by decide +kernel
theorem dX11_readLine_231 : decode cX11_readLine 231 = .ok (.ldc2_w 206, 3) := by decide +kernel
theorem dX11_readLine_234 : decode cX11_readLine 234 = .ok (.invokevirtual 228, 3) := by decide +kernel
theorem dX11_readLine_237 : decode cX11_readLine 237 = .ok (.ifCond .eq 32, 3) := by decide +kernel
theorem dX11_readLine_240 : decode cX11_readLine 240 = .ok (.aload_n 0, 1) := by decide +kernel
theorem dX11_readLine_241 : decode cX11_readLine 241 = .ok (.getfield 375, 3) := by decide +kernel
theorem dX11_readLine_244 : decode cX11_readLine 244 = .ok (.ifCond .ne 25, 3) := by decide +kernel
theorem dX11_readLine_247 : decode cX11_readLine 247 = .ok (.aload_n 0, 1) := by decide +kernel
theorem dX11_readLine_248 : decode cX11_readLine 248 = .ok (.iconst 1, 1) := by decide +kernel
theorem dX11_readLine_249 : decode cX11_readLine 249 = .ok (.putfield 375, 3) := by decide +kernel
theorem dX11_readLine_252 : decode cX11_readLine 252 = .ok (.aload_n 0, 1) := by decide +kernel
theorem dX11_readLine_253 : decode cX11_readLine 253 = .ok (.aload_n 0, 1) := by decide +kernel
theorem dX11_readLine_254 : decode cX11_readLine 254 = .ok (.ldc2_w 206, 3) := by decide +kernel
theorem dX11_readLine_257 : decode cX11_readLine 257 = .ok (.sipush 999, 3) := by decide +kernel
theorem dX11_readLine_260 : decode cX11_readLine 260 = .ok (.invokevirtual 246, 3) := by decide +kernel
theorem dX11_readLine_263 : decode cX11_readLine 263 = .ok (.putfield 378, 3) := by decide +kernel
theorem dX11_readLine_266 : decode cX11_readLine 266 = .ok (.goto 8, 3) := by decide +kernel
theorem dX11_readLine_269 : decode cX11_readLine 269 = .ok (.aload_n 0, 1) := by decide +kernel
theorem dX11_readLine_270 : decode cX11_readLine 270 = .ok (.iconst 2, 1) := by decide +kernel
theorem dX11_readLine_271 : decode cX11_readLine 271 = .ok (.invokevirtual 232, 3) := by decide +kernel
theorem dX11_readLine_274 : decode cX11_readLine 274 = .ok (.aload_n 0, 1) := by decide +kernel
theorem dX11_readLine_275 : decode cX11_readLine 275 = .ok (.getfield 179, 3) := by decide +kernel
theorem dX11_readLine_278 : decode cX11_readLine 278 = .ok (.ifCond .ne 17, 3) := by decide +kernel
theorem dX11_readLine_281 : decode cX11_readLine 281 = .ok (.aload_n 0, 1) := by decide +kernel
theorem dX11_readLine_282 : decode cX11_readLine 282 = .ok (.getfield 166, 3) := by decide +kernel
theorem dX11_readLine_285 : decode cX11_readLine 285 = .ok (.bipush 59, 2) := by decide +kernel
theorem dX11_readLine_287 : decode cX11_readLine 287 = .ok (.if_icmp .eq 8, 3) := by decide +kernel
theorem dX11_readLine_290 : decode cX11_readLine 290 = .ok (.aload_n 0, 1) := by decide +kernel
theorem dX11_readLine_291 : decode cX11_readLine 291 = .ok (.iconst 2, 1) := by decide +kernel
theorem dX11_readLine_292 : decode cX11_readLine 292 = .ok (.invokevirtual 232, 3) := by decide +kernel
theorem dX11_readLine_295 : decode cX11_readLine 295 = .ok (.aload_n 0, 1) := by decide +kernel
theorem dX11_readLine_296 : decode cX11_readLine 296 = .ok (.getfield 179, 3) := by decide +kernel
theorem dX11_readLine_299 : decode cX11_readLine 299 = .ok (.ifCond .ne 7, 3) := by decide +kernel
theorem dX11_readLine_302 : decode cX11_readLine 302 = .ok (.aload_n 0, 1) := by decide +kernel
theorem dX11_readLine_303 : decode cX11_readLine 303 = .ok (.invokevirtual 235, 3) := by decide +kernel
theorem dX11_readLine_306 : decode cX11_readLine 306 = .ok (.return_, 1) := by decide +kernel
theorem dX11_readMan_0 : decode cX11_readMan 0 = .ok (.aload_n 0, 1) := by decide +kernel
theorem dX11_readMan_1 : decode cX11_readMan 1 = .ok (.iconst 0, 1) := by decide +kernel
theorem dX11_readMan_2 : decode cX11_readMan 2 = .ok (.aload_n 0, 1) := by decide +kernel
theorem dX11_readMan_3 : decode cX11_readMan 3 = .ok (.getfield 330, 3) := by decide +kernel
theorem dX11_readMan_6 : decode cX11_readMan 6 = .ok (.invokevirtual 333, 3) := by decide +kernel
theorem dX11_readMan_9 : decode cX11_readMan 9 = .ok (.aload_n 0, 1) := by decide +kernel
theorem dX11_readMan_10 : decode cX11_readMan 10 = .ok (.getfield 42, 3) := by decide +kernel
theorem dX11_readMan_13 : decode cX11_readMan 13 = .ok (.aload_n 0, 1) := by decide +kernel
theorem dX11_readMan_14 : decode cX11_readMan 14 = .ok (.getfield 330, 3) := by decide +kernel
theorem dX11_readMan_17 : decode cX11_readMan 17 = .ok (.aload_n 0, 1) := by decide +kernel
theorem dX11_readMan_18 : decode cX11_readMan 18 = .ok (.ldc2_w 184, 3) := by decide +kernel
theorem dX11_readMan_21 : decode cX11_readMan 21 = .ok (.bipush 99, 2) := by decide +kernel
theorem dX11_readMan_23 : decode cX11_readMan 23 = .ok (.invokevirtual 246, 3) := by decide +kernel
theorem dX11_readMan_26 : decode cX11_readMan 26 = .ok (.iastore, 1) := by decide +kernel
theorem dX11_readMan_27 : decode cX11_readMan 27 = .ok (.aload_n 0, 1) := by decide +kernel
theorem dX11_readMan_28 : decode cX11_readMan 28 = .ok (.getfield 45, 3) := by decide +kernel
theorem dX11_readMan_31 : decode cX11_readMan 31 = .ok (.aload_n 0, 1) := by decide +kernel
theorem dX11_readMan_32 : decode cX11_readMan 32 = .ok (.getfield 330, 3) := by decide +kernel
theorem dX11_readMan_35 : decode cX11_readMan 35 = .ok (.aload_n 0, 1) := by decide +kernel
theorem dX11_readMan_36 : decode cX11_readMan 36 = .ok (.ldc2_w 186, 3) := by decide +kernel
theorem dX11_readMan_39 : decode cX11_readMan 39 = .ok (.bipush 99, 2) := by decide +kernel
theorem dX11_readMan_41 : decode cX11_readMan 41 = .ok (.invokevirtual 246, 3) := by decide +kernel
theorem dX11_readMan_44 : decode cX11_readMan 44 = .ok (.iastore, 1) := by decide +kernel
theorem dX11_readMan_45 : decode cX11_readMan 45 = .ok (.aload_n 0, 1) := by decide +kernel
theorem dX11_readMan_46 : decode cX11_readMan 46 = .ok (.getfield 48, 3) := by decide +kernel
theorem dX11_readMan_49 : decode cX11_readMan 49 = .ok (.aload_n 0, 1) := by decide +kernel
theorem dX11_readMan_50 : decode cX11_readMan 50 = .ok (.getfield 330, 3) := by decide +kernel
theorem dX11_readMan_53 : decode cX11_readMan 53 = .ok (.aload_n 0, 1) := by decide +kernel
theorem dX11_readMan_54 : decode cX11_readMan 54 = .ok (.ldc2_w 188, 3) := by decide +kernel
theorem dX11_readMan_57 : decode cX11_readMan 57 = .ok (.bipush 9, 2) := by decide +kernel
theorem dX11_readMan_59 : decode cX11_readMan 59 = .ok (.invokevirtual 336, 3) := by decide +kernel
theorem dX11_readMan_62 : decode cX11_readMan 62 = .ok (.iastore, 1) := by decide +kernel
theorem dX11_readMan_63 : decode cX11_readMan 63 = .ok (.aload_n 0, 1) := by decide +kernel
theorem dX11_readMan_64 : decode cX11_readMan 64 = .ok (.getfield 179, 3) := by decide +kernel
theorem dX11_readMan_67 : decode cX11_readMan 67 = .ok (.ifCond .ne 13, 3) := by decide +kernel
theorem dX11_readMan_70 : decode cX11_readMan 70 = .ok (.aload_n 0, 1) := by decide +kernel
theorem dX11_readMan_71 : decode cX11_readMan 71 = .ok (.dup, 1) := by decide +kernel
theorem dX11_readMan_72 : decode cX11_readMan 72 = .ok (.getfield 330, 3) := by decide +kernel
theorem dX11_readMan_75 : decode cX11_readMan 75 = .ok (.iconst 1, 1) := by decide +kernel
theorem dX11_readMan_76 : decode cX11_readMan 76 = .ok (.iadd, 1) := by decide +kernel
theorem dX11_readMan_77 : decode cX11_readMan 77 = .ok (.putfield 330, 3) := by decide +kernel
theorem dX11_readMan_80 : decode cX11_readMan 80 = .ok (.return_, 1) := by decide +kernel
theorem dX11_regiment_0 : decode cX11_regiment 0 = .ok (.aload_n 0, 1) := by decide +kernel
theorem dX11_regiment_1 : decode cX11_regiment 1 = .ok (.invokevirtual 384, 3) := by decide +kernel
theorem dX11_regiment_4 : decode cX11_regiment 4 = .ok (.aload_n 0, 1) := by decide +kernel
theorem dX11_regiment_5 : decode cX11_regiment 5 = .ok (.getfield 179, 3) := by decide +kernel
theorem dX11_regiment_8 : decode cX11_regiment 8 = .ok (.ifCond .le 5, 3) := by decide +kernel
theorem dX11_regiment_11 : decode cX11_regiment 11 = .ok (.iconst (-1), 1) := by decide +kernel
theorem dX11_regiment_12 : decode cX11_regiment 12 = .ok (.ireturn, 1) := by decide +kernel
theorem dX11_regiment_13 : decode cX11_regiment 13 = .ok (.aload_n 0, 1) := by decide +kernel
theorem dX11_regiment_14 : decode cX11_regiment 14 = .ok (.aload_n 0, 1) := by decide +kernel
theorem dX11_regiment_15 : decode cX11_regiment 15 = .ok (.getfield 330, 3) := by decide +kernel
theorem dX11_regiment_18 : decode cX11_regiment 18 = .ok (.putfield 387, 3) := by decide +kernel
theorem dX11_regiment_21 : decode cX11_regiment 21 = .ok (.aload_n 0, 1) := by decide +kernel
theorem dX11_regiment_22 : decode cX11_regiment 22 = .ok (.aload_n 0, 1) := by decide +kernel
theorem dX11_regiment_23 : decode cX11_regiment 23 = .ok (.getfield 339, 3) := by decide +kernel
theorem dX11_regiment_26 : decode cX11_regiment 26 = .ok (.putfield 390, 3) := by decide +kernel
theorem dX11_regiment_29 : decode cX11_regiment 29 = .ok (.aload_n 0, 1) := by decide +kernel
theorem dX11_regiment_30 : decode cX11_regiment 30 = .ok (.aload_n 0, 1) := by decide +kernel
theorem dX11_regiment_31 : decode cX11_regiment 31 = .ok (.getfield 354, 3) := by decide +kernel
theorem dX11_regiment_34 : decode cX11_regiment 34 = .ok (.putfield 84, 3) := by decide +kernel
theorem dX11_regiment_37 : decode cX11_regiment 37 = .ok (.aload_n 0, 1) := by decide +kernel
theorem dX11_regiment_38 : decode cX11_regiment 38 = .ok (.aload_n 0, 1) := by decide +kernel
theorem dX11_regiment_39 : decode cX11_regiment 39 = .ok (.getfield 360, 3) := by decide +kernel
theorem dX11_regiment_42 : decode cX11_regiment 42 = .ok (.putfield 87, 3) := by decide +kernel
theorem dX11_regiment_45 : decode cX11_regiment 45 = .ok (.aload_n 0, 1) := by decide +kernel
theorem dX11_regiment_46 : decode cX11_regiment 46 = .ok (.aload_n 0, 1) := by decide +kernel
theorem dX11_regiment_47 : decode cX11_regiment 47 = .ok (.getfield 366, 3) := by decide +kernel
theorem dX11_regiment_50 : decode cX11_regiment 50 = .ok (.putfield 90, 3) := by decide +kernel
theorem dX11_regiment_53 : decode cX11_regiment 53 = .ok (.aload_n 0, 1) := by decide +kernel
theorem dX11_regiment_54 : decode cX11_regiment 54 = .ok (.aload_n 0, 1) := by decide +kernel
theorem dX11_regiment_55 : decode cX11_regiment 55 = .ok (.getfield 372, 3) := by decide +kernel
theorem dX11_regiment_58 : decode cX11_regiment 58 = .ok (.putfield 393, 3) := by decide +kernel
theorem dX11_regiment_61 : decode cX11_regiment 61 = .ok (.aload_n 0, 1) := by decide +kernel
theorem dX11_regiment_62 : decode cX11_regiment 62 = .ok (.aload_n 0, 1) := by decide +kernel
theorem dX11_regiment_63 : decode cX11_regiment 63 = .ok (.getfield 269, 3) := by decide +kernel
theorem dX11_regiment_66 : decode cX11_regiment 66 = .ok (.putfield 396, 3) := by decide +kernel
theorem dX11_regiment_69 : decode cX11_regiment 69 = .ok (.aload_n 0, 1) := by decide +kernel
theorem dX11_regiment_70 : decode cX11_regiment 70 = .ok (.aload_n 0, 1) := by decide +kernel
theorem dX11_regiment_71 : decode cX11_regiment 71 = .ok (.getfield 291, 3) := by decide +kernel
theorem dX11_regiment_74 : decode cX11_regiment 74 = .ok (.putfield 317, 3) := by decide +kernel
theorem dX11_regiment_77 : decode cX11_regiment 77 = .ok (.aload_n 0, 1) := by decide +kernel
theorem dX11_regiment_78 : decode cX11_regiment 78 = .ok (.aload_n 0, 1) := by decide +kernel
theorem dX11_regiment_79 : decode cX11_regiment 79 = .ok (.getfield 291, 3) := by decide +kernel
theorem dX11_regiment_82 : decode cX11_regiment 82 = .ok (.ifCond .eq 10, 3) := by decide +kernel
theorem dX11_regiment_85 : decode cX11_regiment 85 = .ok (.aload_n 0, 1) := by decide +kernel
theorem dX11_regiment_86 : decode cX11_regiment 86 = .ok (.getfield 253, 3) := by decide +kernel
theorem dX11_regiment_89 : decode cX11_regiment 89 = .ok (.goto 4, 3) := by decide +kernel
theorem dX11_regiment_92 : decode cX11_regiment 92 = .ok (.iconst 0, 1) := by decide +kernel
theorem dX11_regiment_93 : decode cX11_regiment 93 = .ok (.putfield 323, 3) := by decide +kernel
theorem dX11_regiment_96 : decode cX11_regiment 96 = .ok (.iconst 0, 1) := by decide +kernel
theorem dX11_regiment_97 : decode cX11_regiment 97 = .ok (.istore_n 1, 1) := by decide +kernel
theorem dX11_regiment_98 : decode cX11_regiment 98 = .ok (.iload_n 1, 1) := by decide +kernel
theorem dX11_regiment_99 : decode cX11_regiment 99 = .ok (.aload_n 0, 1) := by decide +kernel
theorem dX11_regiment_100 : decode cX11_regiment 100 = .ok (.getfield 323, 3) := by decide +kernel
theorem dX11_regiment_103 : decode cX11_regiment 103 = .ok (.if_icmp .ge 33, 3) := by decide +kernel
theorem dX11_regiment_106 : decode cX11_regiment 106 = .ok (.aload_n 0, 1) := by decide +kernel
theorem dX11_regiment_107 : decode cX11_regiment 107 = .ok (.getfield 27, 3) := by decide +kernel
theorem dX11_regiment_110 : decode cX11_regiment 110 = .ok (.iload_n 1, 1) := by decide +kernel
theorem dX11_regiment_111 : decode cX11_regiment 111 = .ok (.aload_n 0, 1) := by decide +kernel
theorem dX11_regiment_112 : decode cX11_regiment 112 = .ok (.getfield 21, 3) := by decide +kernel
theorem dX11_regiment_115 : decode cX11_regiment 115 = .ok (.iload_n 1, 1) := by decide +kernel
theorem dX11_regiment_116 : decode cX11_regiment 116 = .ok (.iaload, 1) := by decide +kernel
theorem dX11_regiment_117 : decode cX11_regiment 117 = .ok (.iastore, 1) := by decide +kernel
theorem dX11_regiment_118 : decode cX11_regiment 118 = .ok (.aload_n 0, 1) := by decide +kernel
theorem dX11_regiment_119 : decode cX11_regiment 119 = .ok (.getfield 30, 3) := by decide +kernel
theorem dX11_regiment_122 : decode cX11_regiment 122 = .ok (.iload_n 1, 1) := by decide +kernel
theorem dX11_regiment_123 : decode cX11_regiment 123 = .ok (.aload_n 0, 1) := by decide +kernel
theorem dX11_regiment_124 : decode cX11_regiment 124 = .ok (.getfield 24, 3) := by decide +kernel
theorem dX11_regiment_127 : decode cX11_regiment 127 = .ok (.iload_n 1, 1) := by decide +kernel
theorem dX11_regiment_128 : decode cX11_regiment 128 = .ok (.iaload, 1) := by decide +kernel
theorem dX11_regiment_129 : decode cX11_regiment 129 = .ok (.iastore, 1) := by decide +kernel
theorem dX11_regiment_130 : decode cX11_regiment 130 = .ok (.iinc 1 1, 3) := by decide +kernel
theorem dX11_regiment_133 : decode cX11_regiment 133 = .ok (.goto (-35), 3) := by decide +kernel
theorem dX11_regiment_136 : decode cX11_regiment 136 = .ok (.iconst 0, 1) := by decide +kernel
theorem dX11_regiment_137 : decode cX11_regiment 137 = .ok (.istore_n 1, 1) := by decide +kernel
theorem dX11_regiment_138 : decode cX11_regiment 138 = .ok (.iload_n 1, 1) := by decide +kernel
theorem dX11_regiment_139 : decode cX11_regiment 139 = .ok (.aload_n 0, 1) := by decide +kernel
theorem dX11_regiment_140 : decode cX11_regiment 140 = .ok (.getfield 387, 3) := by decide +kernel
theorem dX11_regiment_143 : decode cX11_regiment 143 = .ok (.if_icmp .ge 45, 3) := by decide +kernel
theorem dX11_regiment_146 : decode cX11_regiment 146 = .ok (.aload_n 0, 1) := by decide +kernel
theorem dX11_regiment_147 : decode cX11_regiment 147 = .ok (.getfield 63, 3) := by decide +kernel
theorem dX11_regiment_150 : decode cX11_regiment 150 = .ok (.iload_n 1, 1) := by decide +kernel
theorem dX11_regiment_151 : decode cX11_regiment 151 = .ok (.aload_n 0, 1) := by decide +kernel
theorem dX11_regiment_152 : decode cX11_regiment 152 = .ok (.getfield 42, 3) := by decide +kernel
theorem dX11_regiment_155 : decode cX11_regiment 155 = .ok (.iload_n 1, 1) := by decide +kernel
theorem dX11_regiment_156 : decode cX11_regiment 156 = .ok (.iaload, 1) := by decide +kernel
theorem dX11_regiment_157 : decode cX11_regiment 157 = .ok (.iastore, 1) := by decide +kernel
theorem dX11_regiment_158 : decode cX11_regiment 158 = .ok (.aload_n 0, 1) := by decide +kernel
theorem dX11_regiment_159 : decode cX11_regiment 159 = .ok (.getfield 66, 3) := by decide +kernel
theorem dX11_regiment_162 : decode cX11_regiment 162 = .ok (.iload_n 1, 1) := by decide +kernel
theorem dX11_regiment_163 : decode cX11_regiment 163 = .ok (.aload_n 0, 1) := by decide +kernel
theorem dX11_regiment_164 : decode cX11_regiment 164 = .ok (.getfield 45, 3) := by decide +kernel
theorem dX11_regiment_167 : decode cX11_regiment 167 = .ok (.iload_n 1, 1) := by decide +kernel
theorem dX11_regiment_168 : decode cX11_regiment 168 = .ok (.iaload, 1) := by decide +kernel
theorem dX11_regiment_169 : decode cX11_regiment 169 = .ok (.iastore, 1) := by decide +kernel
theorem dX11_regiment_170 : decode cX11_regiment 170 = .ok (.aload_n 0, 1) := by decide +kernel
theorem dX11_regiment_171 : decode cX11_regiment 171 = .ok (.getfield 69, 3) := by decide +kernel
theorem dX11_regiment_174 : decode cX11_regiment 174 = .ok (.iload_n 1, 1) := by decide +kernel
theorem dX11_regiment_175 : decode cX11_regiment 175 = .ok (.aload_n 0, 1) := by decide +kernel
theorem dX11_regiment_176 : decode cX11_regiment 176 = .ok (.getfield 48, 3) := by decide +kernel
theorem dX11_regiment_179 : decode cX11_regiment 179 = .ok (.iload_n 1, 1) := by decide +kernel
theorem dX11_regiment_180 : decode cX11_regiment 180 = .ok (.iaload, 1) := by decide +kernel
theorem dX11_regiment_181 : decode cX11_regiment 181 = .ok (.iastore, 1) := by decide +kernel
theorem dX11_regiment_182 : decode cX11_regiment 182 = .ok (.iinc 1 1, 3) := by decide +kernel
theorem dX11_regiment_185 : decode cX11_regiment 185 = .ok (.goto (-47), 3) := by decide +kernel
theorem dX11_regiment_188 : decode cX11_regiment 188 = .ok (.iconst 0, 1) := by decide +kernel
theorem dX11_regiment_189 : decode cX11_regiment 189 = .ok (.istore_n 1, 1) := by decide +kernel
theorem dX11_regiment_190 : decode cX11_regiment 190 = .ok (.iload_n 1, 1) := by decide +kernel
theorem dX11_regiment_191 : decode cX11_regiment 191 = .ok (.aload_n 0, 1) := by decide +kernel
theorem dX11_regiment_192 : decode cX11_regiment 192 = .ok (.getfield 390, 3) := by decide +kernel
theorem dX11_regiment_195 : decode cX11_regiment 195 = .ok (.if_icmp .ge 57, 3) := by decide +kernel
theorem dX11_regiment_198 : decode cX11_regiment 198 = .ok (.aload_n 0, 1) := by decide +kernel
theorem dX11_regiment_199 : decode cX11_regiment 199 = .ok (.getfield 72, 3) := by decide +kernel
theorem dX11_regiment_202 : decode cX11_regiment 202 = .ok (.iload_n 1, 1) := by decide +kernel
theorem dX11_regiment_203 : decode cX11_regiment 203 = .ok (.aload_n 0, 1) := by decide +kernel
theorem dX11_regiment_204 : decode cX11_regiment 204 = .ok (.getfield 51, 3) := by decide +kernel
theorem dX11_regiment_207 : decode cX11_regiment 207 = .ok (.iload_n 1, 1) := by decide +kernel
theorem dX11_regiment_208 : decode cX11_regiment 208 = .ok (.iaload, 1) := by decide +kernel
theorem dX11_regiment_209 : decode cX11_regiment 209 = .ok (.iastore, 1) := by decide +kernel
theorem dX11_regiment_210 : decode cX11_regiment 210 = .ok (.aload_n 0, 1) := by decide +kernel
theorem dX11_regiment_211 : decode cX11_regiment 211 = .ok (.getfield 75, 3) := by decide +kernel
theorem dX11_regiment_214 : decode cX11_regiment 214 = .ok (.iload_n 1, 1) := by decide +kernel
theorem dX11_regiment_215 : decode cX11_regiment 215 = .ok (.aload_n 0, 1) := by decide +kernel
theorem dX11_regiment_216 : decode cX11_regiment 216 = .ok (.getfield 54, 3) := by decide +kernel
theorem dX11_regiment_219 : decode cX11_regiment 219 = .ok (.iload_n 1, 1) := by decide +kernel
theorem dX11_regiment_220 : decode cX11_regiment 220 = .ok (.iaload, 1) := by decide +kernel
theorem dX11_regiment_221 : decode cX11_regiment 221 = .ok (.iastore, 1) := by decide +kernel
theorem dX11_regiment_222 : decode cX11_regiment 222 = .ok (.aload_n 0, 1) := by decide +kernel
theorem dX11_regiment_223 : decode cX11_regiment 223 = .ok (.getfield 78, 3) := by decide +kernel
theorem dX11_regiment_226 : decode cX11_regiment 226 = .ok (.iload_n 1, 1) := by decide +kernel
theorem dX11_regiment_227 : decode cX11_regiment 227 = .ok (.aload_n 0, 1) := by decide +kernel
theorem dX11_regiment_228 : decode cX11_regiment 228 = .ok (.getfield 57, 3) := by decide +kernel
theorem dX11_regiment_231 : decode cX11_regiment 231 = .ok (.iload_n 1, 1) := by decide +kernel
theorem dX11_regiment_232 : decode cX11_regiment 232 = .ok (.iaload, 1) := by decide +kernel
theorem dX11_regiment_233 : decode cX11_regiment 233 = .ok (.iastore, 1) := by decide +kernel
theorem dX11_regiment_234 : decode cX11_regiment 234 = .ok (.aload_n 0, 1) := by decide +kernel
theorem dX11_regiment_235 : decode cX11_regiment 235 = .ok (.getfield 81, 3) := by decide +kernel
theorem dX11_regiment_238 : decode cX11_regiment 238 = .ok (.iload_n 1, 1) := by decide +kernel
theorem dX11_regiment_239 : decode cX11_regiment 239 = .ok (.aload_n 0, 1) := by decide +kernel
theorem dX11_regiment_240 : decode cX11_regiment 240 = .ok (.getfield 60, 3) := by decide +kernel
theorem dX11_regiment_243 : decode cX11_regiment 243 = .ok (.iload_n 1, 1) := by decide +kernel
theorem dX11_regiment_244 : decode cX11_regiment 244 = .ok (.iaload, 1) := by decide +kernel
theorem dX11_regiment_245 : decode cX11_regiment 245 = .ok (.iastore, 1) := by decide +kernel
theorem dX11_regiment_246 : decode cX11_regiment 246 = .ok (.iinc 1 1, 3) := by decide +kernel
theorem dX11_regiment_249 : decode cX11_regiment 249 = .ok (.goto (-59), 3) := by decide +kernel
theorem dX11_regiment_252 : decode cX11_regiment 252 = .ok (.aload_n 0, 1) := by decide +kernel
theorem dX11_regiment_253 : decode cX11_regiment 253 = .ok (.invokevirtual 399, 3) := by decide +kernel
theorem dX11_regiment_256 : decode cX11_regiment 256 = .ok (.aload_n 0, 1) := by decide +kernel
theorem dX11_regiment_257 : decode cX11_regiment 257 = .ok (.getfield 96, 3) := by decide +kernel
theorem dX11_regiment_260 : decode cX11_regiment 260 = .ok (.bipush 38, 2) := by decide +kernel
theorem dX11_regiment_262 : decode cX11_regiment 262 = .ok (.aload_n 0, 1) := by decide +kernel
theorem dX11_regiment_263 : decode cX11_regiment 263 = .ok (.getfield 378, 3) := by decide +kernel
theorem dX11_regiment_266 : decode cX11_regiment 266 = .ok (.iastore, 1) := by decide +kernel
theorem dX11_regiment_267 : decode cX11_regiment 267 = .ok (.aload_n 0, 1) := by decide +kernel
theorem dX11_regiment_268 : decode cX11_regiment 268 = .ok (.invokevirtual 402, 3) := by decide +kernel
theorem dX11_regiment_271 : decode cX11_regiment 271 = .ok (.aload_n 0, 1) := by decide +kernel
theorem dX11_regiment_272 : decode cX11_regiment 272 = .ok (.iconst 0, 1) := by decide +kernel
theorem dX11_regiment_273 : decode cX11_regiment 273 = .ok (.putfield 405, 3) := by decide +kernel
theorem dX11_regiment_276 : decode cX11_regiment 276 = .ok (.aload_n 0, 1) := by decide +kernel
theorem dX11_regiment_277 : decode cX11_regiment 277 = .ok (.iconst 0, 1) := by decide +kernel
theorem dX11_regiment_278 : decode cX11_regiment 278 = .ok (.putfield 408, 3) := by decide +kernel
theorem dX11_regiment_281 : decode cX11_regiment 281 = .ok (.aload_n 0, 1) := by decide +kernel
theorem dX11_regiment_282 : decode cX11_regiment 282 = .ok (.iconst 0, 1) := by decide +kernel
theorem dX11_regiment_283 : decode cX11_regiment 283 = .ok (.putfield 411, 3) := by decide +kernel
theorem dX11_regiment_286 : decode cX11_regiment 286 = .ok (.aload_n 0, 1) := by decide +kernel
theorem dX11_regiment_287 : decode cX11_regiment 287 = .ok (.iconst 0, 1) := by decide +kernel
theorem dX11_regiment_288 : decode cX11_regiment 288 = .ok (.putfield 414, 3) := by decide +kernel
theorem dX11_regiment_291 : decode cX11_regiment 291 = .ok (.iconst 0, 1) := by decide +kernel
theorem dX11_regiment_292 : decode cX11_regiment 292 = .ok (.istore_n 1, 1) := by decide +kernel
theorem dX11_regiment_293 : decode cX11_regiment 293 = .ok (.iload_n 1, 1) := by decide +kernel
theorem dX11_regiment_294 : decode cX11_regiment 294 = .ok (.iconst 3, 1) := by decide +kernel
theorem dX11_regiment_295 : decode cX11_regiment 295 = .ok (.if_icmp .ge 16, 3) := by decide +kernel
theorem dX11_regiment_298 : decode cX11_regiment 298 = .ok (.aload_n 0, 1) := by decide +kernel
theorem dX11_regiment_299 : decode cX11_regiment 299 = .ok (.getfield 133, 3) := by decide +kernel
theorem dX11_regiment_302 : decode cX11_regiment 302 = .ok (.iload_n 1, 1) := by decide +kernel
theorem dX11_regiment_303 : decode cX11_regiment 303 = .ok (.iconst 0, 1) := by decide +kernel
theorem dX11_regiment_304 : decode cX11_regiment 304 = .ok (.bastore, 1) := by decide +kernel
theorem dX11_regiment_305 : decode cX11_regiment 305 = .ok (.iinc 1 1, 3) := by decide +kernel
theorem dX11_regiment_308 : decode cX11_regiment 308 = .ok (.goto (-15), 3) := by decide +kernel
theorem dX11_regiment_311 : decode cX11_regiment 311 = .ok (.aload_n 0, 1) := by decide +kernel
theorem dX11_regiment_312 : decode cX11_regiment 312 = .ok (.getfield 387, 3) := by decide +kernel
theorem dX11_regiment_315 : decode cX11_regiment 315 = .ok (.ireturn, 1) := by decide +kernel
theorem dX11_sign_0 : decode cX11_sign 0 = .ok (.aload_n 0, 1) := by decide +kernel
theorem dX11_sign_1 : decode cX11_sign 1 = .ok (.ldc2_w 218, 3) := by decide +kernel
theorem dX11_sign_4 : decode cX11_sign 4 = .ok (.invokevirtual 228, 3) := by decide +kernel
theorem dX11_sign_7 : decode cX11_sign 7 = .ok (.ifCond .eq 6, 3) := by decide +kernel
theorem dX11_sign_10 : decode cX11_sign 10 = .ok (.bipush 38, 2) := by decide +kernel
theorem dX11_sign_12 : decode cX11_sign 12 = .ok (.ireturn, 1) := by decide +kernel
theorem dX11_sign_13 : decode cX11_sign 13 = .ok (.aload_n 0, 1) := by decide +kernel
theorem dX11_sign_14 : decode cX11_sign 14 = .ok (.ldc2_w 220, 3) := by decide +kernel
theorem dX11_sign_17 : decode cX11_sign 17 = .ok (.invokevirtual 228, 3) := by decide +kernel
theorem dX11_sign_20 : decode cX11_sign 20 = .ok (.ifCond .eq 6, 3) := by decide +kernel
theorem dX11_sign_23 : decode cX11_sign 23 = .ok (.bipush 124, 2) := by decide +kernel
theorem dX11_sign_25 : decode cX11_sign 25 = .ok (.ireturn, 1) := by decide +kernel
theorem dX11_sign_26 : decode cX11_sign 26 = .ok (.aload_n 0, 1) := by decide +kernel
theorem dX11_sign_27 : decode cX11_sign 27 = .ok (.getfield 166, 3) := by decide +kernel
theorem dX11_sign_30 : decode cX11_sign 30 = .ok (.bipush 60, 2) := by decide +kernel
theorem dX11_sign_32 : decode cX11_sign 32 = .ok (.if_icmp .eq 66, 3) := by decide +kernel
theorem dX11_sign_35 : decode cX11_sign 35 = .ok (.aload_n 0, 1) := by decide +kernel
theorem dX11_sign_36 : decode cX11_sign 36 = .ok (.getfield 166, 3) := by decide +kernel
theorem dX11_sign_39 : decode cX11_sign 39 = .ok (.bipush 62, 2) := by decide +kernel
theorem dX11_sign_41 : decode cX11_sign 41 = .ok (.if_icmp .eq 57, 3) := by decide +kernel
theorem dX11_sign_44 : decode cX11_sign 44 = .ok (.aload_n 0, 1) := by decide +kernel
theorem dX11_sign_45 : decode cX11_sign 45 = .ok (.getfield 166, 3) := by decide +kernel
theorem dX11_sign_48 : decode cX11_sign 48 = .ok (.bipush 61, 2) := by decide +kernel
theorem dX11_sign_50 : decode cX11_sign 50 = .ok (.if_icmp .eq 48, 3) := by decide +kernel
theorem dX11_sign_53 : decode cX11_sign 53 = .ok (.aload_n 0, 1) := by decide +kernel
theorem dX11_sign_54 : decode cX11_sign 54 = .ok (.getfield 166, 3) := by decide +kernel
theorem dX11_sign_57 : decode cX11_sign 57 = .ok (.bipush 43, 2) := by decide +kernel
theorem dX11_sign_59 : decode cX11_sign 59 = .ok (.if_icmp .eq 39, 3) := by decide +kernel
theorem dX11_sign_62 : decode cX11_sign 62 = .ok (.aload_n 0, 1) := by decide +kernel
theorem dX11_sign_63 : decode cX11_sign 63 = .ok (.getfield 166, 3) := by decide +kernel
theorem dX11_sign_66 : decode cX11_sign 66 = .ok (.bipush 45, 2) := by decide +kernel
theorem dX11_sign_68 : decode cX11_sign 68 = .ok (.if_icmp .eq 30, 3) := by decide +kernel
theorem dX11_sign_71 : decode cX11_sign 71 = .ok (.aload_n 0, 1) := by decide +kernel
theorem dX11_sign_72 : decode cX11_sign 72 = .ok (.getfield 166, 3) := by decide +kernel
theorem dX11_sign_75 : decode cX11_sign 75 = .ok (.bipush 42, 2) := by decide +kernel
theorem dX11_sign_77 : decode cX11_sign 77 = .ok (.if_icmp .eq 21, 3) := by decide +kernel
theorem dX11_sign_80 : decode cX11_sign 80 = .ok (.aload_n 0, 1) := by decide +kernel
theorem dX11_sign_81 : decode cX11_sign 81 = .ok (.getfield 166, 3) := by decide +kernel
theorem dX11_sign_84 : decode cX11_sign 84 = .ok (.bipush 47, 2) := by decide +kernel
theorem dX11_sign_86 : decode cX11_sign 86 = .ok (.if_icmp .eq 12, 3) := by decide +kernel
theorem dX11_sign_89 : decode cX11_sign 89 = .ok (.aload_n 0, 1) := by decide +kernel
theorem dX11_sign_90 : decode cX11_sign 90 = .ok (.getfield 166, 3) := by decide +kernel
theorem dX11_sign_93 : decode cX11_sign 93 = .ok (.bipush 37, 2) := by decide +kernel
theorem dX11_sign_95 : decode cX11_sign 95 = .ok (.if_icmp .ne 10, 3) := by decide +kernel
theorem dX11_sign_98 : decode cX11_sign 98 = .ok (.aload_n 0, 1) := by decide +kernel
theorem dX11_sign_99 : decode cX11_sign 99 = .ok (.getfield 166, 3) := by decide +kernel
theorem dX11_sign_102 : decode cX11_sign 102 = .ok (.goto 4, 3) := by decide +kernel
theorem dX11_sign_105 : decode cX11_sign 105 = .ok (.iconst 0, 1) := by decide +kernel
theorem dX11_sign_106 : decode cX11_sign 106 = .ok (.ireturn, 1) := by decide +kernel
theorem dX11_tight_0 : decode cX11_tight 0 = .ok (.iload_n 0, 1) := by decide +kernel
theorem dX11_tight_1 : decode cX11_tight 1 = .ok (.lookupswitch 85 #[(21, 79), (38, 77), (43, 83), (45, 83), (60, 81), (61, 81), (62, 81), (124, 75)], 75) := by decide +kernel
theorem dX11_tight_76 : decode cX11_tight 76 = .ok (.iconst 1, 1) := by decide +kernel
theorem dX11_tight_77 : decode cX11_tight 77 = .ok (.ireturn, 1) := by decide +kernel
theorem dX11_tight_78 : decode cX11_tight 78 = .ok (.iconst 2, 1) := by decide +kernel
theorem dX11_tight_79 : decode cX11_tight 79 = .ok (.ireturn, 1) := by decide +kernel
theorem dX11_tight_80 : decode cX11_tight 80 = .ok (.iconst 3, 1) := by decide +kernel
theorem dX11_tight_81 : decode cX11_tight 81 = .ok (.ireturn, 1) := by decide +kernel
theorem dX11_tight_82 : decode cX11_tight 82 = .ok (.iconst 4, 1) := by decide +kernel
theorem dX11_tight_83 : decode cX11_tight 83 = .ok (.ireturn, 1) := by decide +kernel
theorem dX11_tight_84 : decode cX11_tight 84 = .ok (.iconst 5, 1) := by decide +kernel
theorem dX11_tight_85 : decode cX11_tight 85 = .ok (.ireturn, 1) := by decide +kernel
theorem dX11_tight_86 : decode cX11_tight 86 = .ok (.bipush 6, 2) := by decide +kernel
theorem dX11_tight_88 : decode cX11_tight 88 = .ok (.ireturn, 1) := by decide +kernel
theorem dX11_token_0 : decode cX11_token 0 = .ok (.aload_n 0, 1) := by decide +kernel
theorem dX11_token_1 : decode cX11_token 1 = .ok (.iconst 0, 1) := by decide +kernel
theorem dX11_token_2 : decode cX11_token 2 = .ok (.invokevirtual 152, 3) := by decide +kernel
theorem dX11_token_5 : decode cX11_token 5 = .ok (.bipush 32, 2) := by decide +kernel
theorem dX11_token_7 : decode cX11_token 7 = .ok (.if_icmp .eq 13, 3) := by decide +kernel
theorem dX11_token_10 : decode cX11_token 10 = .ok (.aload_n 0, 1) := by decide +kernel
theorem dX11_token_11 : decode cX11_token 11 = .ok (.iconst 0, 1) := by decide +kernel
theorem dX11_token_12 : decode cX11_token 12 = .ok (.invokevirtual 152, 3) := by decide +kernel
theorem dX11_token_15 : decode cX11_token 15 = .ok (.bipush 10, 2) := by decide +kernel
theorem dX11_token_17 : decode cX11_token 17 = .ok (.if_icmp .ne 16, 3) := by decide +kernel
theorem dX11_token_20 : decode cX11_token 20 = .ok (.aload_n 0, 1) := by decide +kernel
theorem dX11_token_21 : decode cX11_token 21 = .ok (.dup, 1) := by decide +kernel
theorem dX11_token_22 : decode cX11_token 22 = .ok (.getfield 146, 3) := by decide +kernel
theorem dX11_token_25 : decode cX11_token 25 = .ok (.iconst 1, 1) := by decide +kernel
theorem dX11_token_26 : decode cX11_token 26 = .ok (.iadd, 1) := by decide +kernel
theorem dX11_token_27 : decode cX11_token 27 = .ok (.putfield 146, 3) := by decide +kernel
theorem dX11_token_30 : decode cX11_token 30 = .ok (.goto (-30), 3) := by decide +kernel
theorem dX11_token_33 : decode cX11_token 33 = .ok (.aload_n 0, 1) := by decide +kernel
theorem dX11_token_34 : decode cX11_token 34 = .ok (.aload_n 0, 1) := by decide +kernel
theorem dX11_token_35 : decode cX11_token 35 = .ok (.getfield 146, 3) := by decide +kernel
theorem dX11_token_38 : decode cX11_token 38 = .ok (.putfield 156, 3) := by decide +kernel
theorem dX11_token_41 : decode cX11_token 41 = .ok (.aload_n 0, 1) := by decide +kernel
theorem dX11_token_42 : decode cX11_token 42 = .ok (.iconst 0, 1) := by decide +kernel
theorem dX11_token_43 : decode cX11_token 43 = .ok (.invokevirtual 152, 3) := by decide +kernel
theorem dX11_token_46 : decode cX11_token 46 = .ok (.istore_n 1, 1) := by decide +kernel
theorem dX11_token_47 : decode cX11_token 47 = .ok (.iconst 0, 1) := by decide +kernel
theorem dX11_token_48 : decode cX11_token 48 = .ok (.istore_n 2, 1) := by decide +kernel
theorem dX11_token_49 : decode cX11_token 49 = .ok (.aload_n 0, 1) := by decide +kernel
theorem dX11_token_50 : decode cX11_token 50 = .ok (.lconst 0, 1) := by decide +kernel
theorem dX11_token_51 : decode cX11_token 51 = .ok (.putfield 159, 3) := by decide +kernel
theorem dX11_token_54 : decode cX11_token 54 = .ok (.aload_n 0, 1) := by decide +kernel
theorem dX11_token_55 : decode cX11_token 55 = .ok (.iconst 0, 1) := by decide +kernel
theorem dX11_token_56 : decode cX11_token 56 = .ok (.putfield 163, 3) := by decide +kernel
theorem dX11_token_59 : decode cX11_token 59 = .ok (.iload_n 1, 1) := by decide +kernel
theorem dX11_token_60 : decode cX11_token 60 = .ok (.ifCond .ge 11, 3) := by decide +kernel
theorem dX11_token_63 : decode cX11_token 63 = .ok (.aload_n 0, 1) := by decide +kernel
theorem dX11_token_64 : decode cX11_token 64 = .ok (.iconst 0, 1) := by decide +kernel
theorem dX11_token_65 : decode cX11_token 65 = .ok (.putfield 166, 3) := by decide +kernel
theorem dX11_token_68 : decode cX11_token 68 = .ok (.goto 164, 3) := by decide +kernel
theorem dX11_token_71 : decode cX11_token 71 = .ok (.iload_n 1, 1) := by decide +kernel
theorem dX11_token_72 : decode cX11_token 72 = .ok (.invokestatic 169, 3) := by decide +kernel
theorem dX11_token_75 : decode cX11_token 75 = .ok (.ifCond .eq 62, 3) := by decide +kernel
theorem dX11_token_78 : decode cX11_token 78 = .ok (.aload_n 0, 1) := by decide +kernel
theorem dX11_token_79 : decode cX11_token 79 = .ok (.iload_n 2, 1) := by decide +kernel
theorem dX11_token_80 : decode cX11_token 80 = .ok (.invokevirtual 152, 3) := by decide +kernel
theorem dX11_token_83 : decode cX11_token 83 = .ok (.invokestatic 169, 3) := by decide +kernel
theorem dX11_token_86 : decode cX11_token 86 = .ok (.ifCond .eq 33, 3) := by decide +kernel
theorem dX11_token_89 : decode cX11_token 89 = .ok (.iload_n 2, 1) := by decide +kernel
theorem dX11_token_90 : decode cX11_token 90 = .ok (.bipush 8, 2) := by decide +kernel
theorem dX11_token_92 : decode cX11_token 92 = .ok (.if_icmp .ge 21, 3) := by decide +kernel
theorem dX11_token_95 : decode cX11_token 95 = .ok (.aload_n 0, 1) := by decide +kernel
theorem dX11_token_96 : decode cX11_token 96 = .ok (.aload_n 0, 1) := by decide +kernel
theorem dX11_token_97 : decode cX11_token 97 = .ok (.getfield 159, 3) := by decide +kernel
theorem dX11_token_100 : decode cX11_token 100 = .ok (.bipush 8, 2) := by decide +kernel
theorem dX11_token_102 : decode cX11_token 102 = .ok (.lshl, 1) := by decide +kernel
theorem dX11_token_103 : decode cX11_token 103 = .ok (.aload_n 0, 1) := by decide +kernel
theorem dX11_token_104 : decode cX11_token 104 = .ok (.iload_n 2, 1) := by decide +kernel
theorem dX11_token_105 : decode cX11_token 105 = .ok (.invokevirtual 152, 3) := by decide +kernel
theorem dX11_token_108 : decode cX11_token 108 = .ok (.i2l, 1) := by decide +kernel
theorem dX11_token_109 : decode cX11_token 109 = .ok (.lor, 1) := by decide +kernel
theorem dX11_token_110 : decode cX11_token 110 = .ok (.putfield 159, 3) := by decide +kernel
theorem dX11_token_113 : decode cX11_token 113 = .ok (.iinc 2 1, 3) := by decide +kernel
theorem dX11_token_116 : decode cX11_token 116 = .ok (.goto (-38), 3) := by decide +kernel
theorem dX11_token_119 : decode cX11_token 119 = .ok (.aload_n 0, 1) := by decide +kernel
theorem dX11_token_120 : decode cX11_token 120 = .ok (.iload_n 2, 1) := by decide +kernel
theorem dX11_token_121 : decode cX11_token 121 = .ok (.bipush 8, 2) := by decide +kernel
theorem dX11_token_123 : decode cX11_token 123 = .ok (.if_icmp .le 7, 3) := by decide +kernel
theorem dX11_token_126 : decode cX11_token 126 = .ok (.iconst 3, 1) := by decide +kernel
theorem dX11_token_127 : decode cX11_token 127 = .ok (.goto 4, 3) := by decide +kernel
theorem dX11_token_130 : decode cX11_token 130 = .ok (.iconst 1, 1) := by decide +kernel
theorem dX11_token_131 : decode cX11_token 131 = .ok (.putfield 166, 3) := by decide +kernel
theorem dX11_token_134 : decode cX11_token 134 = .ok (.goto 98, 3) := by decide +kernel
theorem dX11_token_137 : decode cX11_token 137 = .ok (.iload_n 1, 1) := by decide +kernel
theorem dX11_token_138 : decode cX11_token 138 = .ok (.invokestatic 173, 3) := by decide +kernel
theorem dX11_token_141 : decode cX11_token 141 = .ok (.ifCond .eq 73, 3) := by decide +kernel
theorem dX11_token_144 : decode cX11_token 144 = .ok (.aload_n 0, 1) := by decide +kernel
theorem dX11_token_145 : decode cX11_token 145 = .ok (.iload_n 2, 1) := by decide +kernel
theorem dX11_token_146 : decode cX11_token 146 = .ok (.invokevirtual 152, 3) := by decide +kernel
theorem dX11_token_149 : decode cX11_token 149 = .ok (.invokestatic 173, 3) := by decide +kernel
theorem dX11_token_152 : decode cX11_token 152 = .ok (.ifCond .eq 34, 3) := by decide +kernel
theorem dX11_token_155 : decode cX11_token 155 = .ok (.iload_n 2, 1) := by decide +kernel
theorem dX11_token_156 : decode cX11_token 156 = .ok (.iconst 4, 1) := by decide +kernel
theorem dX11_token_157 : decode cX11_token 157 = .ok (.if_icmp .ge 23, 3) := by decide +kernel
theorem dX11_token_160 : decode cX11_token 160 = .ok (.aload_n 0, 1) := by decide +kernel
theorem dX11_token_161 : decode cX11_token 161 = .ok (.bipush 10, 2) := by decide +kernel
theorem dX11_token_163 : decode cX11_token 163 = .ok (.aload_n 0, 1) := by decide +kernel
theorem dX11_token_164 : decode cX11_token 164 = .ok (.getfield 163, 3) := by decide +kernel
theorem dX11_token_167 : decode cX11_token 167 = .ok (.imul, 1) := by decide +kernel
theorem dX11_token_168 : decode cX11_token 168 = .ok (.aload_n 0, 1) := by decide +kernel
theorem dX11_token_169 : decode cX11_token 169 = .ok (.iload_n 2, 1) := by decide +kernel
theorem dX11_token_170 : decode cX11_token 170 = .ok (.invokevirtual 152, 3) := by decide +kernel
theorem dX11_token_173 : decode cX11_token 173 = .ok (.iadd, 1) := by decide +kernel
theorem dX11_token_174 : decode cX11_token 174 = .ok (.bipush 48, 2) := by decide +kernel
theorem dX11_token_176 : decode cX11_token 176 = .ok (.isub, 1) := by decide +kernel
theorem dX11_token_177 : decode cX11_token 177 = .ok (.putfield 163, 3) := by decide +kernel
theorem dX11_token_180 : decode cX11_token 180 = .ok (.iinc 2 1, 3) := by decide +kernel
theorem dX11_token_183 : decode cX11_token 183 = .ok (.goto (-39), 3) := by decide +kernel
theorem dX11_token_186 : decode cX11_token 186 = .ok (.aload_n 0, 1) := by decide +kernel
theorem dX11_token_187 : decode cX11_token 187 = .ok (.iload_n 2, 1) := by decide +kernel
theorem dX11_token_188 : decode cX11_token 188 = .ok (.iconst 4, 1) := by decide +kernel
theorem dX11_token_189 : decode cX11_token 189 = .ok (.if_icmp .gt 14, 3) := by decide +kernel
theorem dX11_token_192 : decode cX11_token 192 = .ok (.aload_n 0, 1) := by decide +kernel
theorem dX11_token_193 : decode cX11_token 193 = .ok (.iload_n 2, 1) := by decide +kernel
theorem dX11_token_194 : decode cX11_token 194 = .ok (.invokevirtual 152, 3) := by decide +kernel
theorem dX11_token_197 : decode cX11_token 197 = .ok (.invokestatic 169, 3) := by decide +kernel
theorem dX11_token_200 : decode cX11_token 200 = .ok (.ifCond .eq 7, 3) := by decide +kernel
theorem dX11_token_203 : decode cX11_token 203 = .ok (.iconst 3, 1) := by decide +kernel
theorem dX11_token_204 : decode cX11_token 204 = .ok (.goto 4, 3) := by decide +kernel
theorem dX11_token_207 : decode cX11_token 207 = .ok (.iconst 2, 1) := by decide +kernel
theorem dX11_token_208 : decode cX11_token 208 = .ok (.putfield 166, 3) := by decide +kernel
theorem dX11_token_211 : decode cX11_token 211 = .ok (.goto 21, 3) := by decide +kernel
theorem dX11_token_214 : decode cX11_token 214 = .ok (.iconst 1, 1) := by decide +kernel
theorem dX11_token_215 : decode cX11_token 215 = .ok (.istore_n 2, 1) := by decide +kernel
theorem dX11_token_216 : decode cX11_token 216 = .ok (.aload_n 0, 1) := by decide +kernel
theorem dX11_token_217 : decode cX11_token 217 = .ok (.iload_n 1, 1) := by decide +kernel
theorem dX11_token_218 : decode cX11_token 218 = .ok (.invokestatic 176, 3) := by decide +kernel
theorem dX11_token_221 : decode cX11_token 221 = .ok (.ifCond .eq 7, 3) := by decide +kernel
theorem dX11_token_224 : decode cX11_token 224 = .ok (.iload_n 1, 1) := by decide +kernel
theorem dX11_token_225 : decode cX11_token 225 = .ok (.goto 4, 3) := by decide +kernel
theorem dX11_token_228 : decode cX11_token 228 = .ok (.iconst 3, 1) := by decide +kernel
theorem dX11_token_229 : decode cX11_token 229 = .ok (.putfield 166, 3) := by decide +kernel
theorem dX11_token_232 : decode cX11_token 232 = .ok (.aload_n 0, 1) := by decide +kernel
theorem dX11_token_233 : decode cX11_token 233 = .ok (.getfield 166, 3) := by decide +kernel
theorem dX11_token_236 : decode cX11_token 236 = .ok (.iconst 3, 1) := by decide +kernel
theorem dX11_token_237 : decode cX11_token 237 = .ok (.if_icmp .eq 13, 3) := by decide +kernel
theorem dX11_token_240 : decode cX11_token 240 = .ok (.aload_n 0, 1) := by decide +kernel
theorem dX11_token_241 : decode cX11_token 241 = .ok (.dup, 1) := by decide +kernel
theorem dX11_token_242 : decode cX11_token 242 = .ok (.getfield 146, 3) := by decide +kernel
theorem dX11_token_245 : decode cX11_token 245 = .ok (.iload_n 2, 1) := by decide +kernel
theorem dX11_token_246 : decode cX11_token 246 = .ok (.iadd, 1) := by decide +kernel
theorem dX11_token_247 : decode cX11_token 247 = .ok (.putfield 146, 3) := by decide +kernel
theorem dX11_token_250 : decode cX11_token 250 = .ok (.return_, 1) := by decide +kernel
theorem dX11_told_0 : decode cX11_told 0 = .ok (.aload_n 0, 1) := by decide +kernel
theorem dX11_told_1 : decode cX11_told 1 = .ok (.lload_n 1, 1) := by decide +kernel
theorem dX11_told_2 : decode cX11_told 2 = .ok (.invokevirtual 238, 3) := by decide +kernel
theorem dX11_told_5 : decode cX11_told 5 = .ok (.aload_n 0, 1) := by decide +kernel
theorem dX11_told_6 : decode cX11_told 6 = .ok (.iconst 0, 1) := by decide +kernel
theorem dX11_told_7 : decode cX11_told 7 = .ok (.iload_n 3, 1) := by decide +kernel
theorem dX11_told_8 : decode cX11_told 8 = .ok (.invokevirtual 242, 3) := by decide +kernel
theorem dX11_told_11 : decode cX11_told 11 = .ok (.ireturn, 1) := by decide +kernel
theorem dX11_toldNumber_0 : decode cX11_toldNumber 0 = .ok (.aload_n 0, 1) := by decide +kernel
theorem dX11_toldNumber_1 : decode cX11_toldNumber 1 = .ok (.getfield 179, 3) := by decide +kernel
theorem dX11_toldNumber_4 : decode cX11_toldNumber 4 = .ok (.ifCond .le 5, 3) := by decide +kernel
theorem dX11_toldNumber_7 : decode cX11_toldNumber 7 = .ok (.iconst 0, 1) := by decide +kernel
theorem dX11_toldNumber_8 : decode cX11_toldNumber 8 = .ok (.ireturn, 1) := by decide +kernel
theorem dX11_toldNumber_9 : decode cX11_toldNumber 9 = .ok (.aload_n 0, 1) := by decide +kernel
theorem dX11_toldNumber_10 : decode cX11_toldNumber 10 = .ok (.getfield 166, 3) := by decide +kernel
theorem dX11_toldNumber_13 : decode cX11_toldNumber 13 = .ok (.iconst 2, 1) := by decide +kernel
theorem dX11_toldNumber_14 : decode cX11_toldNumber 14 = .ok (.if_icmp .eq 11, 3) := by decide +kernel
theorem dX11_toldNumber_17 : decode cX11_toldNumber 17 = .ok (.aload_n 0, 1) := by decide +kernel
theorem dX11_toldNumber_18 : decode cX11_toldNumber 18 = .ok (.iconst 2, 1) := by decide +kernel
theorem dX11_toldNumber_19 : decode cX11_toldNumber 19 = .ok (.invokevirtual 232, 3) := by decide +kernel
theorem dX11_toldNumber_22 : decode cX11_toldNumber 22 = .ok (.goto 24, 3) := by decide +kernel
theorem dX11_toldNumber_25 : decode cX11_toldNumber 25 = .ok (.aload_n 0, 1) := by decide +kernel
theorem dX11_toldNumber_26 : decode cX11_toldNumber 26 = .ok (.getfield 163, 3) := by decide +kernel
theorem dX11_toldNumber_29 : decode cX11_toldNumber 29 = .ok (.iload_n 1, 1) := by decide +kernel
theorem dX11_toldNumber_30 : decode cX11_toldNumber 30 = .ok (.if_icmp .lt 11, 3) := by decide +kernel
theorem dX11_toldNumber_33 : decode cX11_toldNumber 33 = .ok (.aload_n 0, 1) := by decide +kernel
theorem dX11_toldNumber_34 : decode cX11_toldNumber 34 = .ok (.getfield 163, 3) := by decide +kernel
theorem dX11_toldNumber_37 : decode cX11_toldNumber 37 = .ok (.iload_n 2, 1) := by decide +kernel
theorem dX11_toldNumber_38 : decode cX11_toldNumber 38 = .ok (.if_icmp .le 8, 3) := by decide +kernel
theorem dX11_toldNumber_41 : decode cX11_toldNumber 41 = .ok (.aload_n 0, 1) := by decide +kernel
theorem dX11_toldNumber_42 : decode cX11_toldNumber 42 = .ok (.iconst 4, 1) := by decide +kernel
theorem dX11_toldNumber_43 : decode cX11_toldNumber 43 = .ok (.invokevirtual 232, 3) := by decide +kernel
theorem dX11_toldNumber_46 : decode cX11_toldNumber 46 = .ok (.aload_n 0, 1) := by decide +kernel
theorem dX11_toldNumber_47 : decode cX11_toldNumber 47 = .ok (.getfield 163, 3) := by decide +kernel
theorem dX11_toldNumber_50 : decode cX11_toldNumber 50 = .ok (.istore_n 3, 1) := by decide +kernel
theorem dX11_toldNumber_51 : decode cX11_toldNumber 51 = .ok (.aload_n 0, 1) := by decide +kernel
theorem dX11_toldNumber_52 : decode cX11_toldNumber 52 = .ok (.getfield 179, 3) := by decide +kernel
theorem dX11_toldNumber_55 : decode cX11_toldNumber 55 = .ok (.ifCond .ne 7, 3) := by decide +kernel
theorem dX11_toldNumber_58 : decode cX11_toldNumber 58 = .ok (.aload_n 0, 1) := by decide +kernel
theorem dX11_toldNumber_59 : decode cX11_toldNumber 59 = .ok (.invokevirtual 235, 3) := by decide +kernel
theorem dX11_toldNumber_62 : decode cX11_toldNumber 62 = .ok (.iload_n 3, 1) := by decide +kernel
theorem dX11_toldNumber_63 : decode cX11_toldNumber 63 = .ok (.ireturn, 1) := by decide +kernel
theorem dX11_unit_0 : decode cX11_unit 0 = .ok (.iconst 1, 1) := by decide +kernel
theorem dX11_unit_1 : decode cX11_unit 1 = .ok (.istore_n 1, 1) := by decide +kernel
theorem dX11_unit_2 : decode cX11_unit 2 = .ok (.iload_n 1, 1) := by decide +kernel
theorem dX11_unit_3 : decode cX11_unit 3 = .ok (.ifCond .eq 98, 3) := by decide +kernel
theorem dX11_unit_6 : decode cX11_unit 6 = .ok (.aload_n 0, 1) := by decide +kernel
theorem dX11_unit_7 : decode cX11_unit 7 = .ok (.getfield 179, 3) := by decide +kernel
theorem dX11_unit_10 : decode cX11_unit 10 = .ok (.ifCond .ne 91, 3) := by decide +kernel
theorem dX11_unit_13 : decode cX11_unit 13 = .ok (.aload_n 0, 1) := by decide +kernel
theorem dX11_unit_14 : decode cX11_unit 14 = .ok (.ldc2_w 222, 3) := by decide +kernel
theorem dX11_unit_17 : decode cX11_unit 17 = .ok (.invokevirtual 228, 3) := by decide +kernel
theorem dX11_unit_20 : decode cX11_unit 20 = .ok (.ifCond .eq 33, 3) := by decide +kernel
theorem dX11_unit_23 : decode cX11_unit 23 = .ok (.aload_n 0, 1) := by decide +kernel
theorem dX11_unit_24 : decode cX11_unit 24 = .ok (.invokevirtual 275, 3) := by decide +kernel
theorem dX11_unit_27 : decode cX11_unit 27 = .ok (.ifCond .eq 26, 3) := by decide +kernel
theorem dX11_unit_30 : decode cX11_unit 30 = .ok (.aload_n 0, 1) := by decide +kernel
theorem dX11_unit_31 : decode cX11_unit 31 = .ok (.getfield 266, 3) := by decide +kernel
theorem dX11_unit_34 : decode cX11_unit 34 = .ok (.bipush 6, 2) := by decide +kernel
theorem dX11_unit_36 : decode cX11_unit 36 = .ok (.if_icmp .le 8, 3) := by decide +kernel
theorem dX11_unit_39 : decode cX11_unit 39 = .ok (.aload_n 0, 1) := by decide +kernel
theorem dX11_unit_40 : decode cX11_unit 40 = .ok (.iconst 2, 1) := by decide +kernel
theorem dX11_unit_41 : decode cX11_unit 41 = .ok (.invokevirtual 232, 3) := by decide +kernel
theorem dX11_unit_44 : decode cX11_unit 44 = .ok (.aload_n 0, 1) := by decide +kernel
theorem dX11_unit_45 : decode cX11_unit 45 = .ok (.bipush 21, 2) := by decide +kernel
theorem dX11_unit_47 : decode cX11_unit 47 = .ok (.invokevirtual 278, 3) := by decide +kernel
theorem dX11_unit_50 : decode cX11_unit 50 = .ok (.goto (-48), 3) := by decide +kernel
theorem dX11_unit_53 : decode cX11_unit 53 = .ok (.aload_n 0, 1) := by decide +kernel
theorem dX11_unit_54 : decode cX11_unit 54 = .ok (.getfield 166, 3) := by decide +kernel
theorem dX11_unit_57 : decode cX11_unit 57 = .ok (.bipush 40, 2) := by decide +kernel
theorem dX11_unit_59 : decode cX11_unit 59 = .ok (.if_icmp .ne 37, 3) := by decide +kernel
theorem dX11_unit_62 : decode cX11_unit 62 = .ok (.aload_n 0, 1) := by decide +kernel
theorem dX11_unit_63 : decode cX11_unit 63 = .ok (.invokevirtual 281, 3) := by decide +kernel
theorem dX11_unit_66 : decode cX11_unit 66 = .ok (.ifCond .ne 12, 3) := by decide +kernel
theorem dX11_unit_69 : decode cX11_unit 69 = .ok (.aload_n 0, 1) := by decide +kernel
theorem dX11_unit_70 : decode cX11_unit 70 = .ok (.getfield 266, 3) := by decide +kernel
theorem dX11_unit_73 : decode cX11_unit 73 = .ok (.bipush 6, 2) := by decide +kernel
theorem dX11_unit_75 : decode cX11_unit 75 = .ok (.if_icmp .le 8, 3) := by decide +kernel
theorem dX11_unit_78 : decode cX11_unit 78 = .ok (.aload_n 0, 1) := by decide +kernel
theorem dX11_unit_79 : decode cX11_unit 79 = .ok (.iconst 2, 1) := by decide +kernel
theorem dX11_unit_80 : decode cX11_unit 80 = .ok (.invokevirtual 232, 3) := by decide +kernel
theorem dX11_unit_83 : decode cX11_unit 83 = .ok (.aload_n 0, 1) := by decide +kernel
theorem dX11_unit_84 : decode cX11_unit 84 = .ok (.invokevirtual 284, 3) := by decide +kernel
theorem dX11_unit_87 : decode cX11_unit 87 = .ok (.aload_n 0, 1) := by decide +kernel
theorem dX11_unit_88 : decode cX11_unit 88 = .ok (.bipush 20, 2) := by decide +kernel
theorem dX11_unit_90 : decode cX11_unit 90 = .ok (.invokevirtual 278, 3) := by decide +kernel
theorem dX11_unit_93 : decode cX11_unit 93 = .ok (.goto (-91), 3) := by decide +kernel
theorem dX11_unit_96 : decode cX11_unit 96 = .ok (.iconst 0, 1) := by decide +kernel
theorem dX11_unit_97 : decode cX11_unit 97 = .ok (.istore_n 1, 1) := by decide +kernel
theorem dX11_unit_98 : decode cX11_unit 98 = .ok (.goto (-96), 3) := by decide +kernel
theorem dX11_unit_101 : decode cX11_unit 101 = .ok (.aload_n 0, 1) := by decide +kernel
theorem dX11_unit_102 : decode cX11_unit 102 = .ok (.getfield 179, 3) := by decide +kernel
theorem dX11_unit_105 : decode cX11_unit 105 = .ok (.ifCond .le 4, 3) := by decide +kernel
theorem dX11_unit_108 : decode cX11_unit 108 = .ok (.return_, 1) := by decide +kernel
theorem dX11_unit_109 : decode cX11_unit 109 = .ok (.aload_n 0, 1) := by decide +kernel
theorem dX11_unit_110 : decode cX11_unit 110 = .ok (.invokevirtual 287, 3) := by decide +kernel
theorem dX11_unit_113 : decode cX11_unit 113 = .ok (.istore_n 2, 1) := by decide +kernel
theorem dX11_unit_114 : decode cX11_unit 114 = .ok (.aload_n 0, 1) := by decide +kernel
theorem dX11_unit_115 : decode cX11_unit 115 = .ok (.getfield 166, 3) := by decide +kernel
theorem dX11_unit_118 : decode cX11_unit 118 = .ok (.iconst 2, 1) := by decide +kernel
theorem dX11_unit_119 : decode cX11_unit 119 = .ok (.if_icmp .eq 7, 3) := by decide +kernel
theorem dX11_unit_122 : decode cX11_unit 122 = .ok (.iload_n 2, 1) := by decide +kernel
theorem dX11_unit_123 : decode cX11_unit 123 = .ok (.ifCond .lt 10, 3) := by decide +kernel
theorem dX11_unit_126 : decode cX11_unit 126 = .ok (.aload_n 0, 1) := by decide +kernel
theorem dX11_unit_127 : decode cX11_unit 127 = .ok (.invokevirtual 281, 3) := by decide +kernel
theorem dX11_unit_130 : decode cX11_unit 130 = .ok (.ifCond .eq 8, 3) := by decide +kernel
theorem dX11_unit_133 : decode cX11_unit 133 = .ok (.aload_n 0, 1) := by decide +kernel
theorem dX11_unit_134 : decode cX11_unit 134 = .ok (.iconst 2, 1) := by decide +kernel
theorem dX11_unit_135 : decode cX11_unit 135 = .ok (.invokevirtual 232, 3) := by decide +kernel
theorem dX11_unit_138 : decode cX11_unit 138 = .ok (.aload_n 0, 1) := by decide +kernel
theorem dX11_unit_139 : decode cX11_unit 139 = .ok (.getfield 179, 3) := by decide +kernel
theorem dX11_unit_142 : decode cX11_unit 142 = .ok (.ifCond .le 4, 3) := by decide +kernel
theorem dX11_unit_145 : decode cX11_unit 145 = .ok (.return_, 1) := by decide +kernel
theorem dX11_unit_146 : decode cX11_unit 146 = .ok (.aload_n 0, 1) := by decide +kernel
theorem dX11_unit_147 : decode cX11_unit 147 = .ok (.invokevirtual 284, 3) := by decide +kernel
theorem dX11_unit_150 : decode cX11_unit 150 = .ok (.aload_n 0, 1) := by decide +kernel
theorem dX11_unit_151 : decode cX11_unit 151 = .ok (.iload_n 2, 1) := by decide +kernel
theorem dX11_unit_152 : decode cX11_unit 152 = .ok (.ifCond .ge 7, 3) := by decide +kernel
theorem dX11_unit_155 : decode cX11_unit 155 = .ok (.iconst 0, 1) := by decide +kernel
theorem dX11_unit_156 : decode cX11_unit 156 = .ok (.goto 4, 3) := by decide +kernel
theorem dX11_unit_159 : decode cX11_unit 159 = .ok (.iconst 1, 1) := by decide +kernel
theorem dX11_unit_160 : decode cX11_unit 160 = .ok (.iload_n 2, 1) := by decide +kernel
theorem dX11_unit_161 : decode cX11_unit 161 = .ok (.ifCond .ge 10, 3) := by decide +kernel
theorem dX11_unit_164 : decode cX11_unit 164 = .ok (.aload_n 0, 1) := by decide +kernel
theorem dX11_unit_165 : decode cX11_unit 165 = .ok (.getfield 163, 3) := by decide +kernel
theorem dX11_unit_168 : decode cX11_unit 168 = .ok (.goto 4, 3) := by decide +kernel
theorem dX11_unit_171 : decode cX11_unit 171 = .ok (.iload_n 2, 1) := by decide +kernel
theorem dX11_unit_172 : decode cX11_unit 172 = .ok (.invokevirtual 262, 3) := by decide +kernel
theorem dX11_unit_175 : decode cX11_unit 175 = .ok (.aload_n 0, 1) := by decide +kernel
theorem dX11_unit_176 : decode cX11_unit 176 = .ok (.invokevirtual 235, 3) := by decide +kernel
theorem dX11_unit_179 : decode cX11_unit 179 = .ok (.return_, 1) := by decide +kernel
theorem dX11_want_0 : decode cX11_want 0 = .ok (.aload_n 0, 1) := by decide +kernel
theorem dX11_want_1 : decode cX11_want 1 = .ok (.getfield 179, 3) := by decide +kernel
theorem dX11_want_4 : decode cX11_want 4 = .ok (.ifCond .le 4, 3) := by decide +kernel
theorem dX11_want_7 : decode cX11_want 7 = .ok (.return_, 1) := by decide +kernel
theorem dX11_want_8 : decode cX11_want 8 = .ok (.aload_n 0, 1) := by decide +kernel
theorem dX11_want_9 : decode cX11_want 9 = .ok (.lload_n 1, 1) := by decide +kernel
theorem dX11_want_10 : decode cX11_want 10 = .ok (.invokevirtual 228, 3) := by decide +kernel
theorem dX11_want_13 : decode cX11_want 13 = .ok (.ifCond .ne 11, 3) := by decide +kernel
theorem dX11_want_16 : decode cX11_want 16 = .ok (.aload_n 0, 1) := by decide +kernel
theorem dX11_want_17 : decode cX11_want 17 = .ok (.iconst 2, 1) := by decide +kernel
theorem dX11_want_18 : decode cX11_want 18 = .ok (.invokevirtual 232, 3) := by decide +kernel
theorem dX11_want_21 : decode cX11_want 21 = .ok (.goto 7, 3) := by decide +kernel
theorem dX11_want_24 : decode cX11_want 24 = .ok (.aload_n 0, 1) := by decide +kernel
theorem dX11_want_25 : decode cX11_want 25 = .ok (.invokevirtual 235, 3) := by decide +kernel
theorem dX11_want_28 : decode cX11_want 28 = .ok (.return_, 1) := by decide +kernel
theorem dX11_wrong_0 : decode cX11_wrong 0 = .ok (.aload_n 0, 1) := by decide +kernel
theorem dX11_wrong_1 : decode cX11_wrong 1 = .ok (.getfield 179, 3) := by decide +kernel
theorem dX11_wrong_4 : decode cX11_wrong 4 = .ok (.ifCond .le 4, 3) := by decide +kernel
theorem dX11_wrong_7 : decode cX11_wrong 7 = .ok (.return_, 1) := by decide +kernel
theorem dX11_wrong_8 : decode cX11_wrong 8 = .ok (.aload_n 0, 1) := by decide +kernel
theorem dX11_wrong_9 : decode cX11_wrong 9 = .ok (.aload_n 0, 1) := by decide +kernel
theorem dX11_wrong_10 : decode cX11_wrong 10 = .ok (.getfield 166, 3) := by decide +kernel
theorem dX11_wrong_13 : decode cX11_wrong 13 = .ok (.iconst 3, 1) := by decide +kernel
theorem dX11_wrong_14 : decode cX11_wrong 14 = .ok (.if_icmp .ne 7, 3) := by decide +kernel
theorem dX11_wrong_17 : decode cX11_wrong 17 = .ok (.iconst 1, 1) := by decide +kernel
theorem dX11_wrong_18 : decode cX11_wrong 18 = .ok (.goto 4, 3) := by decide +kernel
theorem dX11_wrong_21 : decode cX11_wrong 21 = .ok (.iload_n 1, 1) := by decide +kernel
theorem dX11_wrong_22 : decode cX11_wrong 22 = .ok (.putfield 179, 3) := by decide +kernel
theorem dX11_wrong_25 : decode cX11_wrong 25 = .ok (.aload_n 0, 1) := by decide +kernel
theorem dX11_wrong_26 : decode cX11_wrong 26 = .ok (.aload_n 0, 1) := by decide +kernel
theorem dX11_wrong_27 : decode cX11_wrong 27 = .ok (.getfield 156, 3) := by decide +kernel
theorem dX11_wrong_30 : decode cX11_wrong 30 = .ok (.putfield 13, 3) := by decide +kernel
theorem dX11_wrong_33 : decode cX11_wrong 33 = .ok (.return_, 1) := by decide +kernel
theorem dX1_muster_0 : decode cX1_muster 0 = .ok (.iconst 0, 1) := by decide +kernel
theorem dX1_muster_1 : decode cX1_muster 1 = .ok (.istore_n 1, 1) := by decide +kernel
theorem dX1_muster_2 : decode cX1_muster 2 = .ok (.iload_n 1, 1) := by decide +kernel
theorem dX1_muster_3 : decode cX1_muster 3 = .ok (.bipush 6, 2) := by decide +kernel
theorem dX1_muster_5 : decode cX1_muster 5 = .ok (.if_icmp .ge 34, 3) := by decide +kernel
theorem dX1_muster_8 : decode cX1_muster 8 = .ok (.aload_n 0, 1) := by decide +kernel
theorem dX1_muster_9 : decode cX1_muster 9 = .ok (.getfield 11, 3) := by decide +kernel
theorem dX1_muster_12 : decode cX1_muster 12 = .ok (.iload_n 1, 1) := by decide +kernel
theorem dX1_muster_13 : decode cX1_muster 13 = .ok (.aload_n 0, 1) := by decide +kernel
theorem dX1_muster_14 : decode cX1_muster 14 = .ok (.getfield 15, 3) := by decide +kernel
theorem dX1_muster_17 : decode cX1_muster 17 = .ok (.iconst 1, 1) := by decide +kernel
theorem dX1_muster_18 : decode cX1_muster 18 = .ok (.iload_n 1, 1) := by decide +kernel
theorem dX1_muster_19 : decode cX1_muster 19 = .ok (.invokevirtual 22, 3) := by decide +kernel
theorem dX1_muster_22 : decode cX1_muster 22 = .ok (.iastore, 1) := by decide +kernel
theorem dX1_muster_23 : decode cX1_muster 23 = .ok (.aload_n 0, 1) := by decide +kernel
theorem dX1_muster_24 : decode cX1_muster 24 = .ok (.getfield 11, 3) := by decide +kernel
theorem dX1_muster_27 : decode cX1_muster 27 = .ok (.bipush 6, 2) := by decide +kernel
theorem dX1_muster_29 : decode cX1_muster 29 = .ok (.iload_n 1, 1) := by decide +kernel
theorem dX1_muster_30 : decode cX1_muster 30 = .ok (.iadd, 1) := by decide +kernel
theorem dX1_muster_31 : decode cX1_muster 31 = .ok (.iconst (-1), 1) := by decide +kernel
theorem dX1_muster_32 : decode cX1_muster 32 = .ok (.iastore, 1) := by decide +kernel
theorem dX1_muster_33 : decode cX1_muster 33 = .ok (.iinc 1 1, 3) := by decide +kernel
theorem dX1_muster_36 : decode cX1_muster 36 = .ok (.goto (-34), 3) := by decide +kernel
theorem dX1_muster_39 : decode cX1_muster 39 = .ok (.iconst 0, 1) := by decide +kernel
theorem dX1_muster_40 : decode cX1_muster 40 = .ok (.istore_n 1, 1) := by decide +kernel
theorem dX1_muster_41 : decode cX1_muster 41 = .ok (.iload_n 1, 1) := by decide +kernel
theorem dX1_muster_42 : decode cX1_muster 42 = .ok (.bipush 6, 2) := by decide +kernel
theorem dX1_muster_44 : decode cX1_muster 44 = .ok (.if_icmp .ge 45, 3) := by decide +kernel
theorem dX1_muster_47 : decode cX1_muster 47 = .ok (.iconst 0, 1) := by decide +kernel
theorem dX1_muster_48 : decode cX1_muster 48 = .ok (.istore_n 2, 1) := by decide +kernel
theorem dX1_muster_49 : decode cX1_muster 49 = .ok (.iload_n 2, 1) := by decide +kernel
theorem dX1_muster_50 : decode cX1_muster 50 = .ok (.iconst 5, 1) := by decide +kernel
theorem dX1_muster_51 : decode cX1_muster 51 = .ok (.if_icmp .ge 32, 3) := by decide +kernel
theorem dX1_muster_54 : decode cX1_muster 54 = .ok (.aload_n 0, 1) := by decide +kernel
theorem dX1_muster_55 : decode cX1_muster 55 = .ok (.getfield 11, 3) := by decide +kernel
theorem dX1_muster_58 : decode cX1_muster 58 = .ok (.bipush 12, 2) := by decide +kernel
theorem dX1_muster_60 : decode cX1_muster 60 = .ok (.iload_n 2, 1) := by decide +kernel
theorem dX1_muster_61 : decode cX1_muster 61 = .ok (.bipush 6, 2) := by decide +kernel
theorem dX1_muster_63 : decode cX1_muster 63 = .ok (.imul, 1) := by decide +kernel
theorem dX1_muster_64 : decode cX1_muster 64 = .ok (.iadd, 1) := by decide +kernel
theorem dX1_muster_65 : decode cX1_muster 65 = .ok (.iload_n 1, 1) := by decide +kernel
theorem dX1_muster_66 : decode cX1_muster 66 = .ok (.iadd, 1) := by decide +kernel
theorem dX1_muster_67 : decode cX1_muster 67 = .ok (.aload_n 0, 1) := by decide +kernel
theorem dX1_muster_68 : decode cX1_muster 68 = .ok (.getfield 15, 3) := by decide +kernel
theorem dX1_muster_71 : decode cX1_muster 71 = .ok (.iload_n 2, 1) := by decide +kernel
theorem dX1_muster_72 : decode cX1_muster 72 = .ok (.iload_n 1, 1) := by decide +kernel
theorem dX1_muster_73 : decode cX1_muster 73 = .ok (.invokevirtual 28, 3) := by decide +kernel
theorem dX1_muster_76 : decode cX1_muster 76 = .ok (.iastore, 1) := by decide +kernel
theorem dX1_muster_77 : decode cX1_muster 77 = .ok (.iinc 2 1, 3) := by decide +kernel
theorem dX1_muster_80 : decode cX1_muster 80 = .ok (.goto (-31), 3) := by decide +kernel
theorem dX1_muster_83 : decode cX1_muster 83 = .ok (.iinc 1 1, 3) := by decide +kernel
theorem dX1_muster_86 : decode cX1_muster 86 = .ok (.goto (-45), 3) := by decide +kernel
theorem dX1_muster_89 : decode cX1_muster 89 = .ok (.aload_n 0, 1) := by decide +kernel
theorem dX1_muster_90 : decode cX1_muster 90 = .ok (.getfield 11, 3) := by decide +kernel
theorem dX1_muster_93 : decode cX1_muster 93 = .ok (.bipush 42, 2) := by decide +kernel
theorem dX1_muster_95 : decode cX1_muster 95 = .ok (.iconst 0, 1) := by decide +kernel
theorem dX1_muster_96 : decode cX1_muster 96 = .ok (.iastore, 1) := by decide +kernel
theorem dX1_muster_97 : decode cX1_muster 97 = .ok (.aload_n 0, 1) := by decide +kernel
theorem dX1_muster_98 : decode cX1_muster 98 = .ok (.getfield 11, 3) := by decide +kernel
theorem dX1_muster_101 : decode cX1_muster 101 = .ok (.bipush 43, 2) := by decide +kernel
theorem dX1_muster_103 : decode cX1_muster 103 = .ok (.aload_n 0, 1) := by decide +kernel
theorem dX1_muster_104 : decode cX1_muster 104 = .ok (.getfield 15, 3) := by decide +kernel
theorem dX1_muster_107 : decode cX1_muster 107 = .ok (.getfield 31, 3) := by decide +kernel
theorem dX1_muster_110 : decode cX1_muster 110 = .ok (.iastore, 1) := by decide +kernel
theorem dX1_muster_111 : decode cX1_muster 111 = .ok (.return_, 1) := by decide +kernel
theorem dX1_saveTo_0 : decode cX1_saveTo 0 = .ok (.iload_n 2, 1) := by decide +kernel
theorem dX1_saveTo_1 : decode cX1_saveTo 1 = .ok (.ifCond .lt 27, 3) := by decide +kernel
theorem dX1_saveTo_4 : decode cX1_saveTo 4 = .ok (.iload_n 2, 1) := by decide +kernel
theorem dX1_saveTo_5 : decode cX1_saveTo 5 = .ok (.aload_n 1, 1) := by decide +kernel
theorem dX1_saveTo_6 : decode cX1_saveTo 6 = .ok (.arraylength, 1) := by decide +kernel
theorem dX1_saveTo_7 : decode cX1_saveTo 7 = .ok (.bipush 44, 2) := by decide +kernel
theorem dX1_saveTo_9 : decode cX1_saveTo 9 = .ok (.idiv, 1) := by decide +kernel
theorem dX1_saveTo_10 : decode cX1_saveTo 10 = .ok (.if_icmp .ge 18, 3) := by decide +kernel
theorem dX1_saveTo_13 : decode cX1_saveTo 13 = .ok (.aload_n 0, 1) := by decide +kernel
theorem dX1_saveTo_14 : decode cX1_saveTo 14 = .ok (.getfield 11, 3) := by decide +kernel
theorem dX1_saveTo_17 : decode cX1_saveTo 17 = .ok (.iconst 0, 1) := by decide +kernel
theorem dX1_saveTo_18 : decode cX1_saveTo 18 = .ok (.aload_n 1, 1) := by decide +kernel
theorem dX1_saveTo_19 : decode cX1_saveTo 19 = .ok (.iload_n 2, 1) := by decide +kernel
theorem dX1_saveTo_20 : decode cX1_saveTo 20 = .ok (.bipush 44, 2) := by decide +kernel
theorem dX1_saveTo_22 : decode cX1_saveTo 22 = .ok (.imul, 1) := by decide +kernel
theorem dX1_saveTo_23 : decode cX1_saveTo 23 = .ok (.bipush 44, 2) := by decide +kernel
theorem dX1_saveTo_25 : decode cX1_saveTo 25 = .ok (.invokestatic 35, 3) := by decide +kernel
theorem dX1_saveTo_28 : decode cX1_saveTo 28 = .ok (.return_, 1) := by decide +kernel
theorem dX4_add_0 : decode cX4_add 0 = .ok (.aload_n 0, 1) := by decide +kernel
theorem dX4_add_1 : decode cX4_add 1 = .ok (.getfield 24, 3) := by decide +kernel
theorem dX4_add_4 : decode cX4_add 4 = .ok (.sipush 300, 3) := by decide +kernel
theorem dX4_add_7 : decode cX4_add 7 = .ok (.if_icmp .ge 33, 3) := by decide +kernel
theorem dX4_add_10 : decode cX4_add 10 = .ok (.aload_n 0, 1) := by decide +kernel
theorem dX4_add_11 : decode cX4_add 11 = .ok (.getfield 11, 3) := by decide +kernel
theorem dX4_add_14 : decode cX4_add 14 = .ok (.aload_n 0, 1) := by decide +kernel
theorem dX4_add_15 : decode cX4_add 15 = .ok (.getfield 24, 3) := by decide +kernel
theorem dX4_add_18 : decode cX4_add 18 = .ok (.iload_n 1, 1) := by decide +kernel
theorem dX4_add_19 : decode cX4_add 19 = .ok (.iastore, 1) := by decide +kernel
theorem dX4_add_20 : decode cX4_add 20 = .ok (.aload_n 0, 1) := by decide +kernel
theorem dX4_add_21 : decode cX4_add 21 = .ok (.getfield 15, 3) := by decide +kernel
theorem dX4_add_24 : decode cX4_add 24 = .ok (.aload_n 0, 1) := by decide +kernel
theorem dX4_add_25 : decode cX4_add 25 = .ok (.getfield 24, 3) := by decide +kernel
theorem dX4_add_28 : decode cX4_add 28 = .ok (.iload_n 2, 1) := by decide +kernel
theorem dX4_add_29 : decode cX4_add 29 = .ok (.iastore, 1) := by decide +kernel
theorem dX4_add_30 : decode cX4_add 30 = .ok (.aload_n 0, 1) := by decide +kernel
theorem dX4_add_31 : decode cX4_add 31 = .ok (.dup, 1) := by decide +kernel
theorem dX4_add_32 : decode cX4_add 32 = .ok (.getfield 24, 3) := by decide +kernel
theorem dX4_add_35 : decode cX4_add 35 = .ok (.iconst 1, 1) := by decide +kernel
theorem dX4_add_36 : decode cX4_add 36 = .ok (.iadd, 1) := by decide +kernel
theorem dX4_add_37 : decode cX4_add 37 = .ok (.putfield 24, 3) := by decide +kernel
theorem dX4_add_40 : decode cX4_add 40 = .ok (.return_, 1) := by decide +kernel
theorem dX4_clear_0 : decode cX4_clear 0 = .ok (.aload_n 0, 1) := by decide +kernel
theorem dX4_clear_1 : decode cX4_clear 1 = .ok (.iconst 0, 1) := by decide +kernel
theorem dX4_clear_2 : decode cX4_clear 2 = .ok (.putfield 24, 3) := by decide +kernel
theorem dX4_clear_5 : decode cX4_clear 5 = .ok (.aload_n 0, 1) := by decide +kernel
theorem dX4_clear_6 : decode cX4_clear 6 = .ok (.iconst 0, 1) := by decide +kernel
theorem dX4_clear_7 : decode cX4_clear 7 = .ok (.putfield 28, 3) := by decide +kernel
theorem dX4_clear_10 : decode cX4_clear 10 = .ok (.return_, 1) := by decide +kernel
theorem dX4_copy_0 : decode cX4_copy 0 = .ok (.aload_n 1, 1) := by decide +kernel
theorem dX4_copy_1 : decode cX4_copy 1 = .ok (.getfield 11, 3) := by decide +kernel
theorem dX4_copy_4 : decode cX4_copy 4 = .ok (.iconst 0, 1) := by decide +kernel
theorem dX4_copy_5 : decode cX4_copy 5 = .ok (.aload_n 0, 1) := by decide +kernel
theorem dX4_copy_6 : decode cX4_copy 6 = .ok (.getfield 11, 3) := by decide +kernel
theorem dX4_copy_9 : decode cX4_copy 9 = .ok (.iconst 0, 1) := by decide +kernel
theorem dX4_copy_10 : decode cX4_copy 10 = .ok (.sipush 300, 3) := by decide +kernel
theorem dX4_copy_13 : decode cX4_copy 13 = .ok (.invokestatic 31, 3) := by decide +kernel
theorem dX4_copy_16 : decode cX4_copy 16 = .ok (.aload_n 1, 1) := by decide +kernel
theorem dX4_copy_17 : decode cX4_copy 17 = .ok (.getfield 15, 3) := by decide +kernel
theorem dX4_copy_20 : decode cX4_copy 20 = .ok (.iconst 0, 1) := by decide +kernel
theorem dX4_copy_21 : decode cX4_copy 21 = .ok (.aload_n 0, 1) := by decide +kernel
theorem dX4_copy_22 : decode cX4_copy 22 = .ok (.getfield 15, 3) := by decide +kernel
theorem dX4_copy_25 : decode cX4_copy 25 = .ok (.iconst 0, 1) := by decide +kernel
theorem dX4_copy_26 : decode cX4_copy 26 = .ok (.sipush 300, 3) := by decide +kernel
theorem dX4_copy_29 : decode cX4_copy 29 = .ok (.invokestatic 31, 3) := by decide +kernel
theorem dX4_copy_32 : decode cX4_copy 32 = .ok (.aload_n 0, 1) := by decide +kernel
theorem dX4_copy_33 : decode cX4_copy 33 = .ok (.aload_n 1, 1) := by decide +kernel
theorem dX4_copy_34 : decode cX4_copy 34 = .ok (.getfield 24, 3) := by decide +kernel
theorem dX4_copy_37 : decode cX4_copy 37 = .ok (.putfield 24, 3) := by decide +kernel
theorem dX4_copy_40 : decode cX4_copy 40 = .ok (.aload_n 0, 1) := by decide +kernel
theorem dX4_copy_41 : decode cX4_copy 41 = .ok (.aload_n 1, 1) := by decide +kernel
theorem dX4_copy_42 : decode cX4_copy 42 = .ok (.getfield 28, 3) := by decide +kernel
theorem dX4_copy_45 : decode cX4_copy 45 = .ok (.putfield 28, 3) := by decide +kernel
theorem dX4_copy_48 : decode cX4_copy 48 = .ok (.return_, 1) := by decide +kernel
theorem dX5_forgetActs_0 : decode cX5_forgetActs 0 = .ok (.aload_n 0, 1) := by decide +kernel
theorem dX5_forgetActs_1 : decode cX5_forgetActs 1 = .ok (.iconst 0, 1) := by decide +kernel
theorem dX5_forgetActs_2 : decode cX5_forgetActs 2 = .ok (.putfield 35, 3) := by decide +kernel
theorem dX5_forgetActs_5 : decode cX5_forgetActs 5 = .ok (.aload_n 0, 1) := by decide +kernel
theorem dX5_forgetActs_6 : decode cX5_forgetActs 6 = .ok (.iconst 0, 1) := by decide +kernel
theorem dX5_forgetActs_7 : decode cX5_forgetActs 7 = .ok (.putfield 38, 3) := by decide +kernel
theorem dX5_forgetActs_10 : decode cX5_forgetActs 10 = .ok (.aload_n 0, 1) := by decide +kernel
theorem dX5_forgetActs_11 : decode cX5_forgetActs 11 = .ok (.iconst 0, 1) := by decide +kernel
theorem dX5_forgetActs_12 : decode cX5_forgetActs 12 = .ok (.putfield 41, 3) := by decide +kernel
theorem dX5_forgetActs_15 : decode cX5_forgetActs 15 = .ok (.aload_n 0, 1) := by decide +kernel
theorem dX5_forgetActs_16 : decode cX5_forgetActs 16 = .ok (.getfield 20, 3) := by decide +kernel
theorem dX5_forgetActs_19 : decode cX5_forgetActs 19 = .ok (.aload_n 0, 1) := by decide +kernel
theorem dX5_forgetActs_20 : decode cX5_forgetActs 20 = .ok (.getfield 13, 3) := by decide +kernel
theorem dX5_forgetActs_23 : decode cX5_forgetActs 23 = .ok (.iconst 0, 1) := by decide +kernel
theorem dX5_forgetActs_24 : decode cX5_forgetActs 24 = .ok (.invokevirtual 24, 3) := by decide +kernel
theorem dX5_forgetActs_27 : decode cX5_forgetActs 27 = .ok (.return_, 1) := by decide +kernel
theorem dX5_forgetAll_0 : decode cX5_forgetAll 0 = .ok (.aload_n 0, 1) := by decide +kernel
theorem dX5_forgetAll_1 : decode cX5_forgetAll 1 = .ok (.iconst 0, 1) := by decide +kernel
theorem dX5_forgetAll_2 : decode cX5_forgetAll 2 = .ok (.putfield 28, 3) := by decide +kernel
theorem dX5_forgetAll_5 : decode cX5_forgetAll 5 = .ok (.aload_n 0, 1) := by decide +kernel
theorem dX5_forgetAll_6 : decode cX5_forgetAll 6 = .ok (.invokevirtual 32, 3) := by decide +kernel
theorem dX5_forgetAll_9 : decode cX5_forgetAll 9 = .ok (.return_, 1) := by decide +kernel
theorem dX6_closing_0 : decode cX6_closing 0 = .ok (.aload_n 0, 1) := by decide +kernel
theorem dX6_closing_1 : decode cX6_closing 1 = .ok (.bipush 59, 2) := by decide +kernel
theorem dX6_closing_3 : decode cX6_closing 3 = .ok (.invokevirtual 83, 3) := by decide +kernel
theorem dX6_closing_6 : decode cX6_closing 6 = .ok (.ireturn, 1) := by decide +kernel
theorem dX6_coatLine_0 : decode cX6_coatLine 0 = .ok (.aload_n 0, 1) := by decide +kernel
theorem dX6_coatLine_1 : decode cX6_coatLine 1 = .ok (.getfield 12, 3) := by decide +kernel
theorem dX6_coatLine_4 : decode cX6_coatLine 4 = .ok (.getfield 104, 3) := by decide +kernel
theorem dX6_coatLine_7 : decode cX6_coatLine 7 = .ok (.bipush 6, 2) := by decide +kernel
theorem dX6_coatLine_9 : decode cX6_coatLine 9 = .ok (.if_icmp .lt 8, 3) := by decide +kernel
theorem dX6_coatLine_12 : decode cX6_coatLine 12 = .ok (.aload_n 0, 1) := by decide +kernel
theorem dX6_coatLine_13 : decode cX6_coatLine 13 = .ok (.invokevirtual 74, 3) := by decide +kernel
theorem dX6_coatLine_16 : decode cX6_coatLine 16 = .ok (.ireturn, 1) := by decide +kernel
theorem dX6_coatLine_17 : decode cX6_coatLine 17 = .ok (.aload_n 0, 1) := by decide +kernel
theorem dX6_coatLine_18 : decode cX6_coatLine 18 = .ok (.getfield 29, 3) := by decide +kernel
theorem dX6_coatLine_21 : decode cX6_coatLine 21 = .ok (.invokevirtual 86, 3) := by decide +kernel
theorem dX6_coatLine_24 : decode cX6_coatLine 24 = .ok (.aload_n 0, 1) := by decide +kernel
theorem dX6_coatLine_25 : decode cX6_coatLine 25 = .ok (.aload_n 0, 1) := by decide +kernel
theorem dX6_coatLine_26 : decode cX6_coatLine 26 = .ok (.getfield 22, 3) := by decide +kernel
theorem dX6_coatLine_29 : decode cX6_coatLine 29 = .ok (.aload_n 0, 1) := by decide +kernel
theorem dX6_coatLine_30 : decode cX6_coatLine 30 = .ok (.getfield 12, 3) := by decide +kernel
theorem dX6_coatLine_33 : decode cX6_coatLine 33 = .ok (.getfield 104, 3) := by decide +kernel
theorem dX6_coatLine_36 : decode cX6_coatLine 36 = .ok (.invokevirtual 92, 3) := by decide +kernel
theorem dX6_coatLine_39 : decode cX6_coatLine 39 = .ok (.ifCond .ne 5, 3) := by decide +kernel
theorem dX6_coatLine_42 : decode cX6_coatLine 42 = .ok (.iconst 0, 1) := by decide +kernel
theorem dX6_coatLine_43 : decode cX6_coatLine 43 = .ok (.ireturn, 1) := by decide +kernel
theorem dX6_coatLine_44 : decode cX6_coatLine 44 = .ok (.aload_n 0, 1) := by decide +kernel
theorem dX6_coatLine_45 : decode cX6_coatLine 45 = .ok (.bipush 109, 2) := by decide +kernel
theorem dX6_coatLine_47 : decode cX6_coatLine 47 = .ok (.bipush 99, 2) := by decide +kernel
theorem dX6_coatLine_49 : decode cX6_coatLine 49 = .ok (.invokevirtual 96, 3) := by decide +kernel
theorem dX6_coatLine_52 : decode cX6_coatLine 52 = .ok (.istore_n 1, 1) := by decide +kernel
theorem dX6_coatLine_53 : decode cX6_coatLine 53 = .ok (.iload_n 1, 1) := by decide +kernel
theorem dX6_coatLine_54 : decode cX6_coatLine 54 = .ok (.ifCond .ge 7, 3) := by decide +kernel
theorem dX6_coatLine_57 : decode cX6_coatLine 57 = .ok (.iconst (-1), 1) := by decide +kernel
theorem dX6_coatLine_58 : decode cX6_coatLine 58 = .ok (.goto 11, 3) := by decide +kernel
theorem dX6_coatLine_61 : decode cX6_coatLine 61 = .ok (.aload_n 0, 1) := by decide +kernel
theorem dX6_coatLine_62 : decode cX6_coatLine 62 = .ok (.bipush 110, 2) := by decide +kernel
theorem dX6_coatLine_64 : decode cX6_coatLine 64 = .ok (.bipush 99, 2) := by decide +kernel
theorem dX6_coatLine_66 : decode cX6_coatLine 66 = .ok (.invokevirtual 96, 3) := by decide +kernel
theorem dX6_coatLine_69 : decode cX6_coatLine 69 = .ok (.istore_n 2, 1) := by decide +kernel
theorem dX6_coatLine_70 : decode cX6_coatLine 70 = .ok (.iload_n 2, 1) := by decide +kernel
theorem dX6_coatLine_71 : decode cX6_coatLine 71 = .ok (.ifCond .ge 7, 3) := by decide +kernel
theorem dX6_coatLine_74 : decode cX6_coatLine 74 = .ok (.iconst (-1), 1) := by decide +kernel
theorem dX6_coatLine_75 : decode cX6_coatLine 75 = .ok (.goto 27, 3) := by decide +kernel
theorem dX6_coatLine_78 : decode cX6_coatLine 78 = .ok (.aload_n 0, 1) := by decide +kernel
theorem dX6_coatLine_79 : decode cX6_coatLine 79 = .ok (.getfield 29, 3) := by decide +kernel
theorem dX6_coatLine_82 : decode cX6_coatLine 82 = .ok (.getfield 47, 3) := by decide +kernel
theorem dX6_coatLine_85 : decode cX6_coatLine 85 = .ok (.bipush 112, 2) := by decide +kernel
theorem dX6_coatLine_87 : decode cX6_coatLine 87 = .ok (.if_icmp .ne 14, 3) := by decide +kernel
theorem dX6_coatLine_90 : decode cX6_coatLine 90 = .ok (.aload_n 0, 1) := by decide +kernel
theorem dX6_coatLine_91 : decode cX6_coatLine 91 = .ok (.bipush 112, 2) := by decide +kernel
theorem dX6_coatLine_93 : decode cX6_coatLine 93 = .ok (.bipush 20, 2) := by decide +kernel
theorem dX6_coatLine_95 : decode cX6_coatLine 95 = .ok (.invokevirtual 96, 3) := by decide +kernel
theorem dX6_coatLine_98 : decode cX6_coatLine 98 = .ok (.goto 4, 3) := by decide +kernel
theorem dX6_coatLine_101 : decode cX6_coatLine 101 = .ok (.iconst 0, 1) := by decide +kernel
theorem dX6_coatLine_102 : decode cX6_coatLine 102 = .ok (.istore_n 3, 1) := by decide +kernel
theorem dX6_coatLine_103 : decode cX6_coatLine 103 = .ok (.iload_n 3, 1) := by decide +kernel
theorem dX6_coatLine_104 : decode cX6_coatLine 104 = .ok (.ifCond .ge 7, 3) := by decide +kernel
theorem dX6_coatLine_107 : decode cX6_coatLine 107 = .ok (.iconst (-1), 1) := by decide +kernel
theorem dX6_coatLine_108 : decode cX6_coatLine 108 = .ok (.goto 27, 3) := by decide +kernel
theorem dX6_coatLine_111 : decode cX6_coatLine 111 = .ok (.aload_n 0, 1) := by decide +kernel
theorem dX6_coatLine_112 : decode cX6_coatLine 112 = .ok (.getfield 29, 3) := by decide +kernel
theorem dX6_coatLine_115 : decode cX6_coatLine 115 = .ok (.getfield 47, 3) := by decide +kernel
theorem dX6_coatLine_118 : decode cX6_coatLine 118 = .ok (.bipush 120, 2) := by decide +kernel
theorem dX6_coatLine_120 : decode cX6_coatLine 120 = .ok (.if_icmp .ne 14, 3) := by decide +kernel
theorem dX6_coatLine_123 : decode cX6_coatLine 123 = .ok (.aload_n 0, 1) := by decide +kernel
theorem dX6_coatLine_124 : decode cX6_coatLine 124 = .ok (.bipush 120, 2) := by decide +kernel
theorem dX6_coatLine_126 : decode cX6_coatLine 126 = .ok (.bipush 99, 2) := by decide +kernel
theorem dX6_coatLine_128 : decode cX6_coatLine 128 = .ok (.invokevirtual 96, 3) := by decide +kernel
theorem dX6_coatLine_131 : decode cX6_coatLine 131 = .ok (.goto 4, 3) := by decide +kernel
theorem dX6_coatLine_134 : decode cX6_coatLine 134 = .ok (.iconst 0, 1) := by decide +kernel
theorem dX6_coatLine_135 : decode cX6_coatLine 135 = .ok (.istore 4, 2) := by decide +kernel
theorem dX6_coatLine_137 : decode cX6_coatLine 137 = .ok (.iload 4, 2) := by decide +kernel
theorem dX6_coatLine_139 : decode cX6_coatLine 139 = .ok (.ifCond .ge 5, 3) := by decide +kernel
theorem dX6_coatLine_142 : decode cX6_coatLine 142 = .ok (.iconst 0, 1) := by decide +kernel
theorem dX6_coatLine_143 : decode cX6_coatLine 143 = .ok (.ireturn, 1) := by decide +kernel
theorem dX6_coatLine_144 : decode cX6_coatLine 144 = .ok (.aload_n 0, 1) := by decide +kernel
theorem dX6_coatLine_145 : decode cX6_coatLine 145 = .ok (.getfield 12, 3) := by decide +kernel
theorem dX6_coatLine_148 : decode cX6_coatLine 148 = .ok (.iload_n 1, 1) := by decide +kernel
