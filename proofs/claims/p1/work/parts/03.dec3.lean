theorem dX11_power_20 : decode cX11_power 20 = .ok (.ireturn, 1) := by decide +kernel
theorem dX11_rags_0 : decode cX11_rags 0 = .ok (.aload_n 0, 1) := by decide +kernel
theorem dX11_rags_1 : decode cX11_rags 1 = .ok (.invokevirtual 449, 3) := by decide +kernel
theorem dX11_rags_4 : decode cX11_rags 4 = .ok (.iconst 0, 1) := by decide +kernel
theorem dX11_rags_5 : decode cX11_rags 5 = .ok (.istore_n 1, 1) := by decide +kernel
theorem dX11_rags_6 : decode cX11_rags 6 = .ok (.iconst 0, 1) := by decide +kernel
theorem dX11_rags_7 : decode cX11_rags 7 = .ok (.istore_n 2, 1) := by decide +kernel
theorem dX11_rags_8 : decode cX11_rags 8 = .ok (.iload_n 2, 1) := by decide +kernel
theorem dX11_rags_9 : decode cX11_rags 9 = .ok (.aload_n 0, 1) := by decide +kernel
theorem dX11_rags_10 : decode cX11_rags 10 = .ok (.getfield 390, 3) := by decide +kernel
theorem dX11_rags_13 : decode cX11_rags 13 = .ok (.if_icmp .ge 30, 3) := by decide +kernel
theorem dX11_rags_43 : decode cX11_rags 43 = .ok (.iload_n 1, 1) := by decide +kernel
theorem dX11_rags_44 : decode cX11_rags 44 = .ok (.ireturn, 1) := by decide +kernel
theorem dX11_reach_0 : decode cX11_reach 0 = .ok (.aload_n 0, 1) := by decide +kernel
theorem dX11_reach_1 : decode cX11_reach 1 = .ok (.iconst 0, 1) := by decide +kernel
theorem dX11_reach_2 : decode cX11_reach 2 = .ok (.putfield 414, 3) := by decide +kernel
theorem dX11_reach_5 : decode cX11_reach 5 = .ok (.aload_n 0, 1) := by decide +kernel
theorem dX11_reach_6 : decode cX11_reach 6 = .ok (.invokevirtual 470, 3) := by decide +kernel
theorem dX11_reach_9 : decode cX11_reach 9 = .ok (.aload_n 0, 1) := by decide +kernel
theorem dX11_reach_10 : decode cX11_reach 10 = .ok (.invokevirtual 511, 3) := by decide +kernel
theorem dX11_reach_13 : decode cX11_reach 13 = .ok (.istore_n 3, 1) := by decide +kernel
theorem dX11_reach_14 : decode cX11_reach 14 = .ok (.aload_n 0, 1) := by decide +kernel
theorem dX11_reach_15 : decode cX11_reach 15 = .ok (.iload_n 1, 1) := by decide +kernel
theorem dX11_reach_16 : decode cX11_reach 16 = .ok (.invokevirtual 446, 3) := by decide +kernel
theorem dX11_reach_19 : decode cX11_reach 19 = .ok (.ifCond .eq 20, 3) := by decide +kernel
theorem dX11_reach_39 : decode cX11_reach 39 = .ok (.iconst (-1), 1) := by decide +kernel
theorem dX11_reach_40 : decode cX11_reach 40 = .ok (.ireturn, 1) := by decide +kernel
theorem dX11_readAll_0 : decode cX11_readAll 0 = .ok (.aload_n 0, 1) := by decide +kernel
theorem dX11_readAll_1 : decode cX11_readAll 1 = .ok (.aload_n 0, 1) := by decide +kernel
theorem dX11_readAll_2 : decode cX11_readAll 2 = .ok (.getfield 139, 3) := by decide +kernel
theorem dX11_readAll_5 : decode cX11_readAll 5 = .ok (.putfield 149, 3) := by decide +kernel
theorem dX11_readAll_8 : decode cX11_readAll 8 = .ok (.aload_n 0, 1) := by decide +kernel
theorem dX11_readAll_9 : decode cX11_readAll 9 = .ok (.iconst 0, 1) := by decide +kernel
theorem dX11_readAll_10 : decode cX11_readAll 10 = .ok (.putfield 139, 3) := by decide +kernel
theorem dX11_readAll_13 : decode cX11_readAll 13 = .ok (.aload_n 0, 1) := by decide +kernel
theorem dX11_readAll_14 : decode cX11_readAll 14 = .ok (.iconst 0, 1) := by decide +kernel
theorem dX11_readAll_15 : decode cX11_readAll 15 = .ok (.putfield 146, 3) := by decide +kernel
theorem dX11_readAll_18 : decode cX11_readAll 18 = .ok (.aload_n 0, 1) := by decide +kernel
theorem dX11_readAll_19 : decode cX11_readAll 19 = .ok (.iconst 0, 1) := by decide +kernel
theorem dX11_readAll_20 : decode cX11_readAll 20 = .ok (.putfield 179, 3) := by decide +kernel
theorem dX11_readAll_23 : decode cX11_readAll 23 = .ok (.aload_n 0, 1) := by decide +kernel
theorem dX11_readAll_24 : decode cX11_readAll 24 = .ok (.iconst (-1), 1) := by decide +kernel
theorem dX11_readAll_25 : decode cX11_readAll 25 = .ok (.putfield 13, 3) := by decide +kernel
theorem dX11_readAll_28 : decode cX11_readAll 28 = .ok (.aload_n 0, 1) := by decide +kernel
theorem dX11_readAll_29 : decode cX11_readAll 29 = .ok (.iconst 0, 1) := by decide +kernel
theorem dX11_readAll_30 : decode cX11_readAll 30 = .ok (.putfield 330, 3) := by decide +kernel
theorem dX11_readAll_33 : decode cX11_readAll 33 = .ok (.aload_n 0, 1) := by decide +kernel
theorem dX11_readAll_34 : decode cX11_readAll 34 = .ok (.iconst 0, 1) := by decide +kernel
theorem dX11_readAll_35 : decode cX11_readAll 35 = .ok (.putfield 339, 3) := by decide +kernel
theorem dX11_readAll_38 : decode cX11_readAll 38 = .ok (.aload_n 0, 1) := by decide +kernel
theorem dX11_readAll_39 : decode cX11_readAll 39 = .ok (.bipush 10, 2) := by decide +kernel
theorem dX11_readAll_41 : decode cX11_readAll 41 = .ok (.putfield 354, 3) := by decide +kernel
theorem dX11_readAll_44 : decode cX11_readAll 44 = .ok (.aload_n 0, 1) := by decide +kernel
theorem dX11_readAll_45 : decode cX11_readAll 45 = .ok (.sipush 150, 3) := by decide +kernel
theorem dX11_readAll_48 : decode cX11_readAll 48 = .ok (.putfield 360, 3) := by decide +kernel
theorem dX11_readAll_51 : decode cX11_readAll 51 = .ok (.aload_n 0, 1) := by decide +kernel
theorem dX11_readAll_52 : decode cX11_readAll 52 = .ok (.iconst 2, 1) := by decide +kernel
theorem dX11_readAll_53 : decode cX11_readAll 53 = .ok (.putfield 366, 3) := by decide +kernel
theorem dX11_readAll_56 : decode cX11_readAll 56 = .ok (.aload_n 0, 1) := by decide +kernel
theorem dX11_readAll_57 : decode cX11_readAll 57 = .ok (.iconst 0, 1) := by decide +kernel
theorem dX11_readAll_58 : decode cX11_readAll 58 = .ok (.putfield 372, 3) := by decide +kernel
theorem dX11_readAll_61 : decode cX11_readAll 61 = .ok (.aload_n 0, 1) := by decide +kernel
theorem dX11_readAll_62 : decode cX11_readAll 62 = .ok (.iconst 0, 1) := by decide +kernel
theorem dX11_readAll_63 : decode cX11_readAll 63 = .ok (.putfield 378, 3) := by decide +kernel
theorem dX11_readAll_66 : decode cX11_readAll 66 = .ok (.aload_n 0, 1) := by decide +kernel
theorem dX11_readAll_67 : decode cX11_readAll 67 = .ok (.iconst 0, 1) := by decide +kernel
theorem dX11_readAll_68 : decode cX11_readAll 68 = .ok (.putfield 351, 3) := by decide +kernel
theorem dX11_readAll_71 : decode cX11_readAll 71 = .ok (.aload_n 0, 1) := by decide +kernel
theorem dX11_readAll_72 : decode cX11_readAll 72 = .ok (.iconst 0, 1) := by decide +kernel
theorem dX11_readAll_73 : decode cX11_readAll 73 = .ok (.putfield 357, 3) := by decide +kernel
theorem dX11_readAll_76 : decode cX11_readAll 76 = .ok (.aload_n 0, 1) := by decide +kernel
theorem dX11_readAll_77 : decode cX11_readAll 77 = .ok (.iconst 0, 1) := by decide +kernel
theorem dX11_readAll_78 : decode cX11_readAll 78 = .ok (.putfield 363, 3) := by decide +kernel
theorem dX11_readAll_81 : decode cX11_readAll 81 = .ok (.aload_n 0, 1) := by decide +kernel
theorem dX11_readAll_82 : decode cX11_readAll 82 = .ok (.iconst 0, 1) := by decide +kernel
theorem dX11_readAll_83 : decode cX11_readAll 83 = .ok (.putfield 369, 3) := by decide +kernel
theorem dX11_readAll_86 : decode cX11_readAll 86 = .ok (.aload_n 0, 1) := by decide +kernel
theorem dX11_readAll_87 : decode cX11_readAll 87 = .ok (.iconst 0, 1) := by decide +kernel
theorem dX11_readAll_88 : decode cX11_readAll 88 = .ok (.putfield 375, 3) := by decide +kernel
theorem dX11_readAll_91 : decode cX11_readAll 91 = .ok (.aload_n 0, 1) := by decide +kernel
theorem dX11_readAll_92 : decode cX11_readAll 92 = .ok (.iconst 0, 1) := by decide +kernel
theorem dX11_readAll_93 : decode cX11_readAll 93 = .ok (.putfield 291, 3) := by decide +kernel
theorem dX11_readAll_96 : decode cX11_readAll 96 = .ok (.aload_n 0, 1) := by decide +kernel
theorem dX11_readAll_97 : decode cX11_readAll 97 = .ok (.iconst 0, 1) := by decide +kernel
theorem dX11_readAll_98 : decode cX11_readAll 98 = .ok (.putfield 269, 3) := by decide +kernel
theorem dX11_readAll_101 : decode cX11_readAll 101 = .ok (.aload_n 0, 1) := by decide +kernel
theorem dX11_readAll_102 : decode cX11_readAll 102 = .ok (.invokevirtual 235, 3) := by decide +kernel
theorem dX11_readAll_105 : decode cX11_readAll 105 = .ok (.aload_n 0, 1) := by decide +kernel
theorem dX11_readAll_106 : decode cX11_readAll 106 = .ok (.getfield 179, 3) := by decide +kernel
theorem dX11_readAll_109 : decode cX11_readAll 109 = .ok (.ifCond .ne 17, 3) := by decide +kernel
theorem dX11_readAll_112 : decode cX11_readAll 112 = .ok (.aload_n 0, 1) := by decide +kernel
theorem dX11_readAll_113 : decode cX11_readAll 113 = .ok (.getfield 166, 3) := by decide +kernel
theorem dX11_readAll_116 : decode cX11_readAll 116 = .ok (.ifCond .eq 10, 3) := by decide +kernel
theorem dX11_readAll_126 : decode cX11_readAll 126 = .ok (.return_, 1) := by decide +kernel
theorem dX11_redo_0 : decode cX11_redo 0 = .ok (.aload_n 0, 1) := by decide +kernel
theorem dX11_redo_1 : decode cX11_redo 1 = .ok (.getfield 408, 3) := by decide +kernel
theorem dX11_redo_4 : decode cX11_redo 4 = .ok (.ifCond .ne 5, 3) := by decide +kernel
theorem dX11_redo_7 : decode cX11_redo 7 = .ok (.iconst 0, 1) := by decide +kernel
theorem dX11_redo_8 : decode cX11_redo 8 = .ok (.ireturn, 1) := by decide +kernel
theorem dX11_regiment_0 : decode cX11_regiment 0 = .ok (.aload_n 0, 1) := by decide +kernel
theorem dX11_regiment_1 : decode cX11_regiment 1 = .ok (.invokevirtual 384, 3) := by decide +kernel
theorem dX11_regiment_4 : decode cX11_regiment 4 = .ok (.aload_n 0, 1) := by decide +kernel
theorem dX11_regiment_5 : decode cX11_regiment 5 = .ok (.getfield 179, 3) := by decide +kernel
theorem dX11_regiment_8 : decode cX11_regiment 8 = .ok (.ifCond .le 5, 3) := by decide +kernel
theorem dX11_regiment_13 : decode cX11_regiment 13 = .ok (.aload_n 0, 1) := by decide +kernel
theorem dX11_regiment_14 : decode cX11_regiment 14 = .ok (.aload_n 0, 1) := by decide +kernel
theorem dX11_regiment_15 : decode cX11_regiment 15 = .ok (.getfield 330, 3) := by decide +kernel
theorem dX11_regiment_18 : decode cX11_regiment 18 = .ok (.putfield 387, 3) := by decide +kernel
theorem dX11_regiment_21 : decode cX11_regiment 21 = .ok (.aload_n 0, 1) := by decide +kernel
theorem dX11_regiment_22 : decode cX11_regiment 22 = .ok (.aload_n 0, 1) := by decide +kernel
theorem dX11_regiment_23 : decode cX11_regiment 23 = .ok (.getfield 339, 3) := by decide +kernel
theorem dX11_regiment_26 : decode cX11_regiment 26 = .ok (.putfield 390, 3) := by decide +kernel
theorem dX11_regiment_29 : decode cX11_regiment 29 = .ok (.aload_n 0, 1) := by decide +kernel
theorem dX11_regiment_30 : decode cX11_regiment 30 = .ok (.aload_n 0, 1) := by decide +kernel
theorem dX11_regiment_31 : decode cX11_regiment 31 = .ok (.getfield 354, 3) := by decide +kernel
theorem dX11_regiment_34 : decode cX11_regiment 34 = .ok (.putfield 84, 3) := by decide +kernel
theorem dX11_regiment_37 : decode cX11_regiment 37 = .ok (.aload_n 0, 1) := by decide +kernel
theorem dX11_regiment_38 : decode cX11_regiment 38 = .ok (.aload_n 0, 1) := by decide +kernel
theorem dX11_regiment_39 : decode cX11_regiment 39 = .ok (.getfield 360, 3) := by decide +kernel
theorem dX11_regiment_42 : decode cX11_regiment 42 = .ok (.putfield 87, 3) := by decide +kernel
theorem dX11_regiment_45 : decode cX11_regiment 45 = .ok (.aload_n 0, 1) := by decide +kernel
theorem dX11_regiment_46 : decode cX11_regiment 46 = .ok (.aload_n 0, 1) := by decide +kernel
theorem dX11_regiment_47 : decode cX11_regiment 47 = .ok (.getfield 366, 3) := by decide +kernel
theorem dX11_regiment_50 : decode cX11_regiment 50 = .ok (.putfield 90, 3) := by decide +kernel
theorem dX11_regiment_53 : decode cX11_regiment 53 = .ok (.aload_n 0, 1) := by decide +kernel
theorem dX11_regiment_54 : decode cX11_regiment 54 = .ok (.aload_n 0, 1) := by decide +kernel
theorem dX11_regiment_55 : decode cX11_regiment 55 = .ok (.getfield 372, 3) := by decide +kernel
theorem dX11_regiment_58 : decode cX11_regiment 58 = .ok (.putfield 393, 3) := by decide +kernel
theorem dX11_regiment_61 : decode cX11_regiment 61 = .ok (.aload_n 0, 1) := by decide +kernel
theorem dX11_regiment_62 : decode cX11_regiment 62 = .ok (.aload_n 0, 1) := by decide +kernel
theorem dX11_regiment_63 : decode cX11_regiment 63 = .ok (.getfield 269, 3) := by decide +kernel
theorem dX11_regiment_66 : decode cX11_regiment 66 = .ok (.putfield 396, 3) := by decide +kernel
theorem dX11_regiment_69 : decode cX11_regiment 69 = .ok (.aload_n 0, 1) := by decide +kernel
theorem dX11_regiment_70 : decode cX11_regiment 70 = .ok (.aload_n 0, 1) := by decide +kernel
theorem dX11_regiment_71 : decode cX11_regiment 71 = .ok (.getfield 291, 3) := by decide +kernel
theorem dX11_regiment_74 : decode cX11_regiment 74 = .ok (.putfield 317, 3) := by decide +kernel
theorem dX11_regiment_77 : decode cX11_regiment 77 = .ok (.aload_n 0, 1) := by decide +kernel
theorem dX11_regiment_78 : decode cX11_regiment 78 = .ok (.aload_n 0, 1) := by decide +kernel
theorem dX11_regiment_79 : decode cX11_regiment 79 = .ok (.getfield 291, 3) := by decide +kernel
theorem dX11_regiment_82 : decode cX11_regiment 82 = .ok (.ifCond .eq 10, 3) := by decide +kernel
theorem dX11_regiment_92 : decode cX11_regiment 92 = .ok (.iconst 0, 1) := by decide +kernel
theorem dX11_regiment_93 : decode cX11_regiment 93 = .ok (.putfield 323, 3) := by decide +kernel
theorem dX11_regiment_96 : decode cX11_regiment 96 = .ok (.iconst 0, 1) := by decide +kernel
theorem dX11_regiment_97 : decode cX11_regiment 97 = .ok (.istore_n 1, 1) := by decide +kernel
theorem dX11_regiment_98 : decode cX11_regiment 98 = .ok (.iload_n 1, 1) := by decide +kernel
theorem dX11_regiment_99 : decode cX11_regiment 99 = .ok (.aload_n 0, 1) := by decide +kernel
theorem dX11_regiment_100 : decode cX11_regiment 100 = .ok (.getfield 323, 3) := by decide +kernel
theorem dX11_regiment_103 : decode cX11_regiment 103 = .ok (.if_icmp .ge 33, 3) := by decide +kernel
theorem dX11_regiment_136 : decode cX11_regiment 136 = .ok (.iconst 0, 1) := by decide +kernel
theorem dX11_regiment_137 : decode cX11_regiment 137 = .ok (.istore_n 1, 1) := by decide +kernel
theorem dX11_regiment_138 : decode cX11_regiment 138 = .ok (.iload_n 1, 1) := by decide +kernel
theorem dX11_regiment_139 : decode cX11_regiment 139 = .ok (.aload_n 0, 1) := by decide +kernel
theorem dX11_regiment_140 : decode cX11_regiment 140 = .ok (.getfield 387, 3) := by decide +kernel
theorem dX11_regiment_143 : decode cX11_regiment 143 = .ok (.if_icmp .ge 45, 3) := by decide +kernel
theorem dX11_regiment_188 : decode cX11_regiment 188 = .ok (.iconst 0, 1) := by decide +kernel
theorem dX11_regiment_189 : decode cX11_regiment 189 = .ok (.istore_n 1, 1) := by decide +kernel
theorem dX11_regiment_190 : decode cX11_regiment 190 = .ok (.iload_n 1, 1) := by decide +kernel
theorem dX11_regiment_191 : decode cX11_regiment 191 = .ok (.aload_n 0, 1) := by decide +kernel
theorem dX11_regiment_192 : decode cX11_regiment 192 = .ok (.getfield 390, 3) := by decide +kernel
theorem dX11_regiment_195 : decode cX11_regiment 195 = .ok (.if_icmp .ge 57, 3) := by decide +kernel
theorem dX11_regiment_252 : decode cX11_regiment 252 = .ok (.aload_n 0, 1) := by decide +kernel
theorem dX11_regiment_253 : decode cX11_regiment 253 = .ok (.invokevirtual 399, 3) := by decide +kernel
theorem dX11_regiment_256 : decode cX11_regiment 256 = .ok (.aload_n 0, 1) := by decide +kernel
theorem dX11_regiment_257 : decode cX11_regiment 257 = .ok (.getfield 96, 3) := by decide +kernel
theorem dX11_regiment_260 : decode cX11_regiment 260 = .ok (.bipush 38, 2) := by decide +kernel
theorem dX11_regiment_262 : decode cX11_regiment 262 = .ok (.aload_n 0, 1) := by decide +kernel
theorem dX11_regiment_263 : decode cX11_regiment 263 = .ok (.getfield 378, 3) := by decide +kernel
theorem dX11_regiment_266 : decode cX11_regiment 266 = .ok (.iastore, 1) := by decide +kernel
theorem dX11_regiment_267 : decode cX11_regiment 267 = .ok (.aload_n 0, 1) := by decide +kernel
theorem dX11_regiment_268 : decode cX11_regiment 268 = .ok (.invokevirtual 402, 3) := by decide +kernel
theorem dX11_regiment_271 : decode cX11_regiment 271 = .ok (.aload_n 0, 1) := by decide +kernel
theorem dX11_regiment_272 : decode cX11_regiment 272 = .ok (.iconst 0, 1) := by decide +kernel
theorem dX11_regiment_273 : decode cX11_regiment 273 = .ok (.putfield 405, 3) := by decide +kernel
theorem dX11_regiment_276 : decode cX11_regiment 276 = .ok (.aload_n 0, 1) := by decide +kernel
theorem dX11_regiment_277 : decode cX11_regiment 277 = .ok (.iconst 0, 1) := by decide +kernel
theorem dX11_regiment_278 : decode cX11_regiment 278 = .ok (.putfield 408, 3) := by decide +kernel
theorem dX11_regiment_281 : decode cX11_regiment 281 = .ok (.aload_n 0, 1) := by decide +kernel
theorem dX11_regiment_282 : decode cX11_regiment 282 = .ok (.iconst 0, 1) := by decide +kernel
theorem dX11_regiment_283 : decode cX11_regiment 283 = .ok (.putfield 411, 3) := by decide +kernel
theorem dX11_regiment_286 : decode cX11_regiment 286 = .ok (.aload_n 0, 1) := by decide +kernel
theorem dX11_regiment_287 : decode cX11_regiment 287 = .ok (.iconst 0, 1) := by decide +kernel
theorem dX11_regiment_288 : decode cX11_regiment 288 = .ok (.putfield 414, 3) := by decide +kernel
theorem dX11_regiment_291 : decode cX11_regiment 291 = .ok (.iconst 0, 1) := by decide +kernel
theorem dX11_regiment_292 : decode cX11_regiment 292 = .ok (.istore_n 1, 1) := by decide +kernel
theorem dX11_regiment_293 : decode cX11_regiment 293 = .ok (.iload_n 1, 1) := by decide +kernel
theorem dX11_regiment_294 : decode cX11_regiment 294 = .ok (.iconst 3, 1) := by decide +kernel
theorem dX11_regiment_295 : decode cX11_regiment 295 = .ok (.if_icmp .ge 16, 3) := by decide +kernel
theorem dX11_regiment_298 : decode cX11_regiment 298 = .ok (.aload_n 0, 1) := by decide +kernel
theorem dX11_regiment_299 : decode cX11_regiment 299 = .ok (.getfield 133, 3) := by decide +kernel
theorem dX11_regiment_302 : decode cX11_regiment 302 = .ok (.iload_n 1, 1) := by decide +kernel
theorem dX11_regiment_303 : decode cX11_regiment 303 = .ok (.iconst 0, 1) := by decide +kernel
theorem dX11_regiment_304 : decode cX11_regiment 304 = .ok (.bastore, 1) := by decide +kernel
theorem dX11_regiment_305 : decode cX11_regiment 305 = .ok (.iinc 1 1, 3) := by decide +kernel
theorem dX11_regiment_308 : decode cX11_regiment 308 = .ok (.goto (-15), 3) := by decide +kernel
theorem dX11_regiment_311 : decode cX11_regiment 311 = .ok (.aload_n 0, 1) := by decide +kernel
theorem dX11_regiment_312 : decode cX11_regiment 312 = .ok (.getfield 387, 3) := by decide +kernel
theorem dX11_regiment_315 : decode cX11_regiment 315 = .ok (.ireturn, 1) := by decide +kernel
theorem dX11_rota_0 : decode cX11_rota 0 = .ok (.iload_n 1, 1) := by decide +kernel
theorem dX11_rota_1 : decode cX11_rota 1 = .ok (.iconst 0, 1) := by decide +kernel
theorem dX11_rota_2 : decode cX11_rota 2 = .ok (.iconst 1, 1) := by decide +kernel
theorem dX11_rota_3 : decode cX11_rota 3 = .ok (.invokestatic 417, 3) := by decide +kernel
theorem dX11_rota_6 : decode cX11_rota 6 = .ok (.ifCond .eq 10, 3) := by decide +kernel
theorem dX11_rota_9 : decode cX11_rota 9 = .ok (.aload_n 0, 1) := by decide +kernel
theorem dX11_rota_10 : decode cX11_rota 10 = .ok (.getfield 387, 3) := by decide +kernel
theorem dX11_rota_13 : decode cX11_rota 13 = .ok (.ifCond .ne 5, 3) := by decide +kernel
theorem dX11_rota_16 : decode cX11_rota 16 = .ok (.iconst (-1), 1) := by decide +kernel
theorem dX11_rota_17 : decode cX11_rota 17 = .ok (.ireturn, 1) := by decide +kernel
theorem dX11_rout_0 : decode cX11_rout 0 = .ok (.aload_n 0, 1) := by decide +kernel
theorem dX11_rout_1 : decode cX11_rout 1 = .ok (.invokevirtual 449, 3) := by decide +kernel
theorem dX11_rout_4 : decode cX11_rout 4 = .ok (.iconst 0, 1) := by decide +kernel
theorem dX11_rout_5 : decode cX11_rout 5 = .ok (.istore_n 1, 1) := by decide +kernel
theorem dX11_rout_6 : decode cX11_rout 6 = .ok (.iload_n 1, 1) := by decide +kernel
theorem dX11_rout_7 : decode cX11_rout 7 = .ok (.bipush 60, 2) := by decide +kernel
theorem dX11_rout_9 : decode cX11_rout 9 = .ok (.if_icmp .gt 24, 3) := by decide +kernel
theorem dX11_rout_12 : decode cX11_rout 12 = .ok (.aload_n 0, 1) := by decide +kernel
theorem dX11_rout_13 : decode cX11_rout 13 = .ok (.invokevirtual 440, 3) := by decide +kernel
theorem dX11_rout_16 : decode cX11_rout 16 = .ok (.ifCond .ne 5, 3) := by decide +kernel
theorem dX11_rout_19 : decode cX11_rout 19 = .ok (.iload_n 1, 1) := by decide +kernel
theorem dX11_rout_20 : decode cX11_rout 20 = .ok (.ireturn, 1) := by decide +kernel
theorem dX11_seen_0 : decode cX11_seen 0 = .ok (.iload_n 1, 1) := by decide +kernel
theorem dX11_seen_1 : decode cX11_seen 1 = .ok (.iconst 0, 1) := by decide +kernel
theorem dX11_seen_2 : decode cX11_seen 2 = .ok (.bipush 20, 2) := by decide +kernel
theorem dX11_seen_4 : decode cX11_seen 4 = .ok (.invokestatic 417, 3) := by decide +kernel
theorem dX11_seen_7 : decode cX11_seen 7 = .ok (.ifCond .eq 26, 3) := by decide +kernel
theorem dX11_seen_10 : decode cX11_seen 10 = .ok (.aload_n 0, 1) := by decide +kernel
theorem dX11_seen_11 : decode cX11_seen 11 = .ok (.getfield 387, 3) := by decide +kernel
theorem dX11_seen_14 : decode cX11_seen 14 = .ok (.ifCond .eq 19, 3) := by decide +kernel
theorem dX11_seen_33 : decode cX11_seen 33 = .ok (.iconst (-1), 1) := by decide +kernel
theorem dX11_seen_34 : decode cX11_seen 34 = .ok (.ireturn, 1) := by decide +kernel
theorem dX11_sewing_0 : decode cX11_sewing 0 = .ok (.aload_n 0, 1) := by decide +kernel
theorem dX11_sewing_1 : decode cX11_sewing 1 = .ok (.iload_n 1, 1) := by decide +kernel
theorem dX11_sewing_2 : decode cX11_sewing 2 = .ok (.invokevirtual 455, 3) := by decide +kernel
theorem dX11_sewing_5 : decode cX11_sewing 5 = .ok (.ifCond .eq 20, 3) := by decide +kernel
theorem dX11_sewing_25 : decode cX11_sewing 25 = .ok (.bipush (-100), 2) := by decide +kernel
theorem dX11_sewing_27 : decode cX11_sewing 27 = .ok (.ireturn, 1) := by decide +kernel
theorem dX11_sure_0 : decode cX11_sure 0 = .ok (.iload_n 1, 1) := by decide +kernel
theorem dX11_sure_1 : decode cX11_sure 1 = .ok (.iconst 0, 1) := by decide +kernel
theorem dX11_sure_2 : decode cX11_sure 2 = .ok (.iconst 1, 1) := by decide +kernel
theorem dX11_sure_3 : decode cX11_sure 3 = .ok (.invokestatic 417, 3) := by decide +kernel
theorem dX11_sure_6 : decode cX11_sure 6 = .ok (.ifCond .eq 11, 3) := by decide +kernel
theorem dX11_sure_9 : decode cX11_sure 9 = .ok (.aload_n 0, 1) := by decide +kernel
theorem dX11_sure_10 : decode cX11_sure 10 = .ok (.iload_n 2, 1) := by decide +kernel
theorem dX11_sure_11 : decode cX11_sure 11 = .ok (.invokevirtual 534, 3) := by decide +kernel
theorem dX11_sure_14 : decode cX11_sure 14 = .ok (.ifCond .ne 5, 3) := by decide +kernel
theorem dX11_sure_17 : decode cX11_sure 17 = .ok (.iconst (-1), 1) := by decide +kernel
theorem dX11_sure_18 : decode cX11_sure 18 = .ok (.ireturn, 1) := by decide +kernel
theorem dX11_takein_0 : decode cX11_takein 0 = .ok (.aload_n 0, 1) := by decide +kernel
theorem dX11_takein_1 : decode cX11_takein 1 = .ok (.iload_n 1, 1) := by decide +kernel
theorem dX11_takein_2 : decode cX11_takein 2 = .ok (.invokevirtual 455, 3) := by decide +kernel
theorem dX11_takein_5 : decode cX11_takein 5 = .ok (.ifCond .eq 36, 3) := by decide +kernel
theorem dX11_takein_41 : decode cX11_takein 41 = .ok (.iconst (-1), 1) := by decide +kernel
theorem dX11_takein_42 : decode cX11_takein 42 = .ok (.ireturn, 1) := by decide +kernel
theorem dX11_token_0 : decode cX11_token 0 = .ok (.aload_n 0, 1) := by decide +kernel
theorem dX11_token_1 : decode cX11_token 1 = .ok (.iconst 0, 1) := by decide +kernel
theorem dX11_token_2 : decode cX11_token 2 = .ok (.invokevirtual 152, 3) := by decide +kernel
theorem dX11_token_5 : decode cX11_token 5 = .ok (.bipush 32, 2) := by decide +kernel
theorem dX11_token_7 : decode cX11_token 7 = .ok (.if_icmp .eq 13, 3) := by decide +kernel
theorem dX11_token_10 : decode cX11_token 10 = .ok (.aload_n 0, 1) := by decide +kernel
theorem dX11_token_11 : decode cX11_token 11 = .ok (.iconst 0, 1) := by decide +kernel
theorem dX11_token_12 : decode cX11_token 12 = .ok (.invokevirtual 152, 3) := by decide +kernel
theorem dX11_token_15 : decode cX11_token 15 = .ok (.bipush 10, 2) := by decide +kernel
theorem dX11_token_17 : decode cX11_token 17 = .ok (.if_icmp .ne 16, 3) := by decide +kernel
theorem dX11_token_33 : decode cX11_token 33 = .ok (.aload_n 0, 1) := by decide +kernel
theorem dX11_token_34 : decode cX11_token 34 = .ok (.aload_n 0, 1) := by decide +kernel
theorem dX11_token_35 : decode cX11_token 35 = .ok (.getfield 146, 3) := by decide +kernel
theorem dX11_token_38 : decode cX11_token 38 = .ok (.putfield 156, 3) := by decide +kernel
theorem dX11_token_41 : decode cX11_token 41 = .ok (.aload_n 0, 1) := by decide +kernel
theorem dX11_token_42 : decode cX11_token 42 = .ok (.iconst 0, 1) := by decide +kernel
theorem dX11_token_43 : decode cX11_token 43 = .ok (.invokevirtual 152, 3) := by decide +kernel
theorem dX11_token_46 : decode cX11_token 46 = .ok (.istore_n 1, 1) := by decide +kernel
theorem dX11_token_47 : decode cX11_token 47 = .ok (.iconst 0, 1) := by decide +kernel
theorem dX11_token_48 : decode cX11_token 48 = .ok (.istore_n 2, 1) := by decide +kernel
theorem dX11_token_49 : decode cX11_token 49 = .ok (.aload_n 0, 1) := by decide +kernel
theorem dX11_token_50 : decode cX11_token 50 = .ok (.lconst 0, 1) := by decide +kernel
theorem dX11_token_51 : decode cX11_token 51 = .ok (.putfield 159, 3) := by decide +kernel
theorem dX11_token_54 : decode cX11_token 54 = .ok (.aload_n 0, 1) := by decide +kernel
theorem dX11_token_55 : decode cX11_token 55 = .ok (.iconst 0, 1) := by decide +kernel
theorem dX11_token_56 : decode cX11_token 56 = .ok (.putfield 163, 3) := by decide +kernel
theorem dX11_token_59 : decode cX11_token 59 = .ok (.iload_n 1, 1) := by decide +kernel
theorem dX11_token_60 : decode cX11_token 60 = .ok (.ifCond .ge 11, 3) := by decide +kernel
theorem dX11_token_63 : decode cX11_token 63 = .ok (.aload_n 0, 1) := by decide +kernel
theorem dX11_token_64 : decode cX11_token 64 = .ok (.iconst 0, 1) := by decide +kernel
theorem dX11_token_65 : decode cX11_token 65 = .ok (.putfield 166, 3) := by decide +kernel
theorem dX11_token_68 : decode cX11_token 68 = .ok (.goto 164, 3) := by decide +kernel
theorem dX11_token_232 : decode cX11_token 232 = .ok (.aload_n 0, 1) := by decide +kernel
theorem dX11_token_233 : decode cX11_token 233 = .ok (.getfield 166, 3) := by decide +kernel
theorem dX11_token_236 : decode cX11_token 236 = .ok (.iconst 3, 1) := by decide +kernel
theorem dX11_token_237 : decode cX11_token 237 = .ok (.if_icmp .eq 13, 3) := by decide +kernel
theorem dX11_token_240 : decode cX11_token 240 = .ok (.aload_n 0, 1) := by decide +kernel
theorem dX11_token_241 : decode cX11_token 241 = .ok (.dup, 1) := by decide +kernel
theorem dX11_token_242 : decode cX11_token 242 = .ok (.getfield 146, 3) := by decide +kernel
theorem dX11_token_245 : decode cX11_token 245 = .ok (.iload_n 2, 1) := by decide +kernel
theorem dX11_token_246 : decode cX11_token 246 = .ok (.iadd, 1) := by decide +kernel
theorem dX11_token_247 : decode cX11_token 247 = .ok (.putfield 146, 3) := by decide +kernel
theorem dX11_token_250 : decode cX11_token 250 = .ok (.return_, 1) := by decide +kernel
theorem dX11_turn_0 : decode cX11_turn 0 = .ok (.aload_n 0, 1) := by decide +kernel
theorem dX11_turn_1 : decode cX11_turn 1 = .ok (.iload_n 1, 1) := by decide +kernel
theorem dX11_turn_2 : decode cX11_turn 2 = .ok (.invokevirtual 455, 3) := by decide +kernel
theorem dX11_turn_5 : decode cX11_turn 5 = .ok (.ifCond .eq 18, 3) := by decide +kernel
theorem dX11_turn_23 : decode cX11_turn 23 = .ok (.iconst (-1), 1) := by decide +kernel
theorem dX11_turn_24 : decode cX11_turn 24 = .ok (.ireturn, 1) := by decide +kernel
theorem dX11_turning_0 : decode cX11_turning 0 = .ok (.iconst (-1), 1) := by decide +kernel
theorem dX11_turning_1 : decode cX11_turning 1 = .ok (.istore_n 1, 1) := by decide +kernel
theorem dX11_turning_2 : decode cX11_turning 2 = .ok (.iconst (-1), 1) := by decide +kernel
theorem dX11_turning_3 : decode cX11_turning 3 = .ok (.istore_n 2, 1) := by decide +kernel
theorem dX11_turning_4 : decode cX11_turning 4 = .ok (.iconst 0, 1) := by decide +kernel
theorem dX11_turning_5 : decode cX11_turning 5 = .ok (.istore_n 3, 1) := by decide +kernel
theorem dX11_turning_6 : decode cX11_turning 6 = .ok (.iload_n 3, 1) := by decide +kernel
theorem dX11_turning_7 : decode cX11_turning 7 = .ok (.aload_n 0, 1) := by decide +kernel
theorem dX11_turning_8 : decode cX11_turning 8 = .ok (.getfield 390, 3) := by decide +kernel
theorem dX11_turning_11 : decode cX11_turning 11 = .ok (.if_icmp .ge 64, 3) := by decide +kernel
theorem dX11_turning_75 : decode cX11_turning 75 = .ok (.iload_n 1, 1) := by decide +kernel
theorem dX11_turning_76 : decode cX11_turning 76 = .ok (.ireturn, 1) := by decide +kernel
theorem dX11_undo_0 : decode cX11_undo 0 = .ok (.aload_n 0, 1) := by decide +kernel
theorem dX11_undo_1 : decode cX11_undo 1 = .ok (.getfield 405, 3) := by decide +kernel
theorem dX11_undo_4 : decode cX11_undo 4 = .ok (.ifCond .ne 5, 3) := by decide +kernel
theorem dX11_undo_7 : decode cX11_undo 7 = .ok (.iconst 0, 1) := by decide +kernel
theorem dX11_undo_8 : decode cX11_undo 8 = .ok (.ireturn, 1) := by decide +kernel
theorem dX11_untell_0 : decode cX11_untell 0 = .ok (.iload_n 1, 1) := by decide +kernel
theorem dX11_untell_1 : decode cX11_untell 1 = .ok (.iconst 0, 1) := by decide +kernel
theorem dX11_untell_2 : decode cX11_untell 2 = .ok (.aload_n 0, 1) := by decide +kernel
theorem dX11_untell_3 : decode cX11_untell 3 = .ok (.getfield 411, 3) := by decide +kernel
theorem dX11_untell_6 : decode cX11_untell 6 = .ok (.iconst 1, 1) := by decide +kernel
theorem dX11_untell_7 : decode cX11_untell 7 = .ok (.isub, 1) := by decide +kernel
theorem dX11_untell_8 : decode cX11_untell 8 = .ok (.invokestatic 417, 3) := by decide +kernel
theorem dX11_untell_11 : decode cX11_untell 11 = .ok (.ifCond .eq 12, 3) := by decide +kernel
theorem dX11_untell_23 : decode cX11_untell 23 = .ok (.iconst 0, 1) := by decide +kernel
theorem dX11_untell_24 : decode cX11_untell 24 = .ok (.ireturn, 1) := by decide +kernel
theorem dX11_wearers_0 : decode cX11_wearers 0 = .ok (.iconst 0, 1) := by decide +kernel
theorem dX11_wearers_1 : decode cX11_wearers 1 = .ok (.istore_n 1, 1) := by decide +kernel
theorem dX11_wearers_2 : decode cX11_wearers 2 = .ok (.iconst 0, 1) := by decide +kernel
theorem dX11_wearers_3 : decode cX11_wearers 3 = .ok (.istore_n 2, 1) := by decide +kernel
theorem dX11_wearers_4 : decode cX11_wearers 4 = .ok (.iload_n 2, 1) := by decide +kernel
theorem dX11_wearers_5 : decode cX11_wearers 5 = .ok (.aload_n 0, 1) := by decide +kernel
theorem dX11_wearers_6 : decode cX11_wearers 6 = .ok (.getfield 387, 3) := by decide +kernel
theorem dX11_wearers_9 : decode cX11_wearers 9 = .ok (.if_icmp .ge 34, 3) := by decide +kernel
theorem dX11_wearers_43 : decode cX11_wearers 43 = .ok (.iload_n 1, 1) := by decide +kernel
theorem dX11_wearers_44 : decode cX11_wearers 44 = .ok (.ireturn, 1) := by decide +kernel
theorem dX11_wideOf_0 : decode cX11_wideOf 0 = .ok (.iconst 0, 1) := by decide +kernel
theorem dX11_wideOf_1 : decode cX11_wideOf 1 = .ok (.istore_n 2, 1) := by decide +kernel
theorem dX11_wideOf_2 : decode cX11_wideOf 2 = .ok (.iconst 0, 1) := by decide +kernel
theorem dX11_wideOf_3 : decode cX11_wideOf 3 = .ok (.istore_n 3, 1) := by decide +kernel
theorem dX11_wideOf_4 : decode cX11_wideOf 4 = .ok (.iload_n 3, 1) := by decide +kernel
theorem dX11_wideOf_5 : decode cX11_wideOf 5 = .ok (.aload_n 0, 1) := by decide +kernel
theorem dX11_wideOf_6 : decode cX11_wideOf 6 = .ok (.getfield 387, 3) := by decide +kernel
theorem dX11_wideOf_9 : decode cX11_wideOf 9 = .ok (.if_icmp .ge 42, 3) := by decide +kernel
theorem dX11_wideOf_51 : decode cX11_wideOf 51 = .ok (.iload_n 2, 1) := by decide +kernel
theorem dX11_wideOf_52 : decode cX11_wideOf 52 = .ok (.ireturn, 1) := by decide +kernel
theorem dX11_will_0 : decode cX11_will 0 = .ok (.aload_n 0, 1) := by decide +kernel
theorem dX11_will_1 : decode cX11_will 1 = .ok (.iload_n 1, 1) := by decide +kernel
theorem dX11_will_2 : decode cX11_will 2 = .ok (.invokevirtual 446, 3) := by decide +kernel
theorem dX11_will_5 : decode cX11_will 5 = .ok (.ifCond .eq 22, 3) := by decide +kernel
theorem dX11_will_27 : decode cX11_will 27 = .ok (.bipush (-2), 2) := by decide +kernel
theorem dX11_will_29 : decode cX11_will 29 = .ok (.ireturn, 1) := by decide +kernel
theorem dX11_wings_0 : decode cX11_wings 0 = .ok (.iload_n 1, 1) := by decide +kernel
theorem dX11_wings_1 : decode cX11_wings 1 = .ok (.iconst 0, 1) := by decide +kernel
theorem dX11_wings_2 : decode cX11_wings 2 = .ok (.iconst 1, 1) := by decide +kernel
theorem dX11_wings_3 : decode cX11_wings 3 = .ok (.invokestatic 417, 3) := by decide +kernel
theorem dX11_wings_6 : decode cX11_wings 6 = .ok (.ifCond .ne 5, 3) := by decide +kernel
theorem dX11_wings_9 : decode cX11_wings 9 = .ok (.iconst (-1), 1) := by decide +kernel
theorem dX11_wings_10 : decode cX11_wings 10 = .ok (.ireturn, 1) := by decide +kernel
theorem dX11_wings_11 : decode cX11_wings 11 = .ok (.aload_n 0, 1) := by decide +kernel
theorem dX11_wings_12 : decode cX11_wings 12 = .ok (.invokevirtual 449, 3) := by decide +kernel
theorem dX11_wings_15 : decode cX11_wings 15 = .ok (.aload_n 0, 1) := by decide +kernel
theorem dX11_wings_16 : decode cX11_wings 16 = .ok (.invokevirtual 440, 3) := by decide +kernel
theorem dX11_wings_19 : decode cX11_wings 19 = .ok (.istore_n 2, 1) := by decide +kernel
theorem dX11_wings_20 : decode cX11_wings 20 = .ok (.iconst 0, 1) := by decide +kernel
theorem dX11_wings_21 : decode cX11_wings 21 = .ok (.istore_n 3, 1) := by decide +kernel
theorem dX11_wings_22 : decode cX11_wings 22 = .ok (.iconst 5, 1) := by decide +kernel
theorem dX11_wings_23 : decode cX11_wings 23 = .ok (.istore 4, 2) := by decide +kernel
theorem dX11_wings_25 : decode cX11_wings 25 = .ok (.iload 4, 2) := by decide +kernel
theorem dX11_wings_27 : decode cX11_wings 27 = .ok (.ifCond .lt 28, 3) := by decide +kernel
theorem dX11_wings_30 : decode cX11_wings 30 = .ok (.iload_n 2, 1) := by decide +kernel
theorem dX11_wings_31 : decode cX11_wings 31 = .ok (.iload 4, 2) := by decide +kernel
theorem dX11_wings_33 : decode cX11_wings 33 = .ok (.ishr, 1) := by decide +kernel
theorem dX11_wings_34 : decode cX11_wings 34 = .ok (.iconst 1, 1) := by decide +kernel
theorem dX11_wings_35 : decode cX11_wings 35 = .ok (.iand, 1) := by decide +kernel
theorem dX11_wings_36 : decode cX11_wings 36 = .ok (.iconst 1, 1) := by decide +kernel
theorem dX11_wings_37 : decode cX11_wings 37 = .ok (.if_icmp .ne 10, 3) := by decide +kernel
theorem dX11_wings_47 : decode cX11_wings 47 = .ok (.iload_n 3, 1) := by decide +kernel
theorem dX11_wings_48 : decode cX11_wings 48 = .ok (.istore_n 3, 1) := by decide +kernel
theorem dX11_wings_49 : decode cX11_wings 49 = .ok (.iinc 4 (-1), 3) := by decide +kernel
theorem dX11_wings_52 : decode cX11_wings 52 = .ok (.goto (-27), 3) := by decide +kernel
theorem dX11_wings_55 : decode cX11_wings 55 = .ok (.iload_n 2, 1) := by decide +kernel
theorem dX11_wings_56 : decode cX11_wings 56 = .ok (.istore 4, 2) := by decide +kernel
theorem dX11_wings_58 : decode cX11_wings 58 = .ok (.aload_n 0, 1) := by decide +kernel
theorem dX11_wings_59 : decode cX11_wings 59 = .ok (.iload_n 2, 1) := by decide +kernel
theorem dX11_wings_60 : decode cX11_wings 60 = .ok (.invokevirtual 492, 3) := by decide +kernel
theorem dX11_wings_63 : decode cX11_wings 63 = .ok (.istore 5, 2) := by decide +kernel
theorem dX11_wings_65 : decode cX11_wings 65 = .ok (.iconst 0, 1) := by decide +kernel
theorem dX11_wings_66 : decode cX11_wings 66 = .ok (.istore 6, 2) := by decide +kernel
theorem dX11_wings_68 : decode cX11_wings 68 = .ok (.iload 6, 2) := by decide +kernel
theorem dX11_wings_70 : decode cX11_wings 70 = .ok (.iload_n 2, 1) := by decide +kernel
theorem dX11_wings_71 : decode cX11_wings 71 = .ok (.if_icmp .gt 83, 3) := by decide +kernel
theorem dX11_wings_74 : decode cX11_wings 74 = .ok (.iload 6, 2) := by decide +kernel
theorem dX11_wings_76 : decode cX11_wings 76 = .ok (.iload_n 2, 1) := by decide +kernel
theorem dX11_wings_77 : decode cX11_wings 77 = .ok (.iconst (-1), 1) := by decide +kernel
theorem dX11_wings_78 : decode cX11_wings 78 = .ok (.ixor, 1) := by decide +kernel
theorem dX11_wings_79 : decode cX11_wings 79 = .ok (.iand, 1) := by decide +kernel
theorem dX11_wings_80 : decode cX11_wings 80 = .ok (.ifCond .ne 68, 3) := by decide +kernel
theorem dX11_wings_83 : decode cX11_wings 83 = .ok (.iload 6, 2) := by decide +kernel
theorem dX11_wings_85 : decode cX11_wings 85 = .ok (.iload_n 3, 1) := by decide +kernel
theorem dX11_wings_86 : decode cX11_wings 86 = .ok (.iand, 1) := by decide +kernel
theorem dX11_wings_87 : decode cX11_wings 87 = .ok (.iload_n 3, 1) := by decide +kernel
theorem dX11_wings_88 : decode cX11_wings 88 = .ok (.if_icmp .eq 6, 3) := by decide +kernel
theorem dX11_wings_94 : decode cX11_wings 94 = .ok (.aload_n 0, 1) := by decide +kernel
theorem dX11_wings_95 : decode cX11_wings 95 = .ok (.iload 6, 2) := by decide +kernel
theorem dX11_wings_97 : decode cX11_wings 97 = .ok (.invokevirtual 492, 3) := by decide +kernel
theorem dX11_wings_100 : decode cX11_wings 100 = .ok (.aload_n 0, 1) := by decide +kernel
theorem dX11_wings_101 : decode cX11_wings 101 = .ok (.iload_n 2, 1) := by decide +kernel
theorem dX11_wings_102 : decode cX11_wings 102 = .ok (.iload 6, 2) := by decide +kernel
theorem dX11_wings_104 : decode cX11_wings 104 = .ok (.iconst (-1), 1) := by decide +kernel
theorem dX11_wings_105 : decode cX11_wings 105 = .ok (.ixor, 1) := by decide +kernel
theorem dX11_wings_106 : decode cX11_wings 106 = .ok (.iand, 1) := by decide +kernel
theorem dX11_wings_107 : decode cX11_wings 107 = .ok (.invokevirtual 492, 3) := by decide +kernel
theorem dX11_wings_110 : decode cX11_wings 110 = .ok (.isub, 1) := by decide +kernel
theorem dX11_wings_111 : decode cX11_wings 111 = .ok (.invokestatic 495, 3) := by decide +kernel
theorem dX11_wings_114 : decode cX11_wings 114 = .ok (.istore 7, 2) := by decide +kernel
theorem dX11_wings_116 : decode cX11_wings 116 = .ok (.iload 7, 2) := by decide +kernel
theorem dX11_wings_118 : decode cX11_wings 118 = .ok (.iload 5, 2) := by decide +kernel
theorem dX11_wings_120 : decode cX11_wings 120 = .ok (.if_icmp .gt 28, 3) := by decide +kernel
theorem dX11_wings_123 : decode cX11_wings 123 = .ok (.iload 7, 2) := by decide +kernel
theorem dX11_wings_125 : decode cX11_wings 125 = .ok (.iload 5, 2) := by decide +kernel
theorem dX11_wings_127 : decode cX11_wings 127 = .ok (.if_icmp .ne 13, 3) := by decide +kernel
theorem dX11_wings_130 : decode cX11_wings 130 = .ok (.iload 6, 2) := by decide +kernel
theorem dX11_wings_132 : decode cX11_wings 132 = .ok (.iload 4, 2) := by decide +kernel
theorem dX11_wings_134 : decode cX11_wings 134 = .ok (.if_icmp .lt 6, 3) := by decide +kernel
theorem dX11_wings_137 : decode cX11_wings 137 = .ok (.goto 11, 3) := by decide +kernel
theorem dX11_wings_148 : decode cX11_wings 148 = .ok (.iinc 6 1, 3) := by decide +kernel
theorem dX11_wings_151 : decode cX11_wings 151 = .ok (.goto (-83), 3) := by decide +kernel
theorem dX11_wings_154 : decode cX11_wings 154 = .ok (.iload_n 1, 1) := by decide +kernel
theorem dX11_wings_155 : decode cX11_wings 155 = .ok (.ifCond .ne 8, 3) := by decide +kernel
theorem dX11_wings_158 : decode cX11_wings 158 = .ok (.iload 5, 2) := by decide +kernel
theorem dX11_wings_160 : decode cX11_wings 160 = .ok (.goto 5, 3) := by decide +kernel
theorem dX11_wings_163 : decode cX11_wings 163 = .ok (.iload 4, 2) := by decide +kernel
theorem dX11_wings_165 : decode cX11_wings 165 = .ok (.ireturn, 1) := by decide +kernel
theorem dX1_copy_0 : decode cX1_copy 0 = .ok (.aload_n 1, 1) := by decide +kernel
theorem dX1_copy_1 : decode cX1_copy 1 = .ok (.getfield 11, 3) := by decide +kernel
theorem dX1_copy_4 : decode cX1_copy 4 = .ok (.iconst 0, 1) := by decide +kernel
theorem dX1_copy_5 : decode cX1_copy 5 = .ok (.aload_n 0, 1) := by decide +kernel
theorem dX1_copy_6 : decode cX1_copy 6 = .ok (.getfield 11, 3) := by decide +kernel
theorem dX1_copy_9 : decode cX1_copy 9 = .ok (.iconst 0, 1) := by decide +kernel
theorem dX1_copy_10 : decode cX1_copy 10 = .ok (.bipush 44, 2) := by decide +kernel
theorem dX1_copy_12 : decode cX1_copy 12 = .ok (.invokestatic 35, 3) := by decide +kernel
theorem dX1_copy_15 : decode cX1_copy 15 = .ok (.return_, 1) := by decide +kernel
theorem dX1_fittedMen_0 : decode cX1_fittedMen 0 = .ok (.iconst 0, 1) := by decide +kernel
theorem dX1_fittedMen_1 : decode cX1_fittedMen 1 = .ok (.istore_n 1, 1) := by decide +kernel
theorem dX1_fittedMen_2 : decode cX1_fittedMen 2 = .ok (.iconst 0, 1) := by decide +kernel
theorem dX1_fittedMen_3 : decode cX1_fittedMen 3 = .ok (.istore_n 2, 1) := by decide +kernel
theorem dX1_fittedMen_4 : decode cX1_fittedMen 4 = .ok (.iload_n 2, 1) := by decide +kernel
theorem dX1_fittedMen_5 : decode cX1_fittedMen 5 = .ok (.aload_n 0, 1) := by decide +kernel
theorem dX1_fittedMen_6 : decode cX1_fittedMen 6 = .ok (.getfield 15, 3) := by decide +kernel
theorem dX1_fittedMen_9 : decode cX1_fittedMen 9 = .ok (.getfield 48, 3) := by decide +kernel
theorem dX1_fittedMen_12 : decode cX1_fittedMen 12 = .ok (.if_icmp .ge 28, 3) := by decide +kernel
theorem dX1_fittedMen_40 : decode cX1_fittedMen 40 = .ok (.iload_n 1, 1) := by decide +kernel
theorem dX1_fittedMen_41 : decode cX1_fittedMen 41 = .ok (.ireturn, 1) := by decide +kernel
theorem dX1_init_0 : decode cX1_init 0 = .ok (.aload_n 0, 1) := by decide +kernel
theorem dX1_init_1 : decode cX1_init 1 = .ok (.invokespecial 5, 3) := by decide +kernel
theorem dX1_init_4 : decode cX1_init 4 = .ok (.aload_n 0, 1) := by decide +kernel
theorem dX1_init_5 : decode cX1_init 5 = .ok (.bipush 44, 2) := by decide +kernel
theorem dX1_init_7 : decode cX1_init 7 = .ok (.newarray .int, 2) := by decide +kernel
theorem dX1_init_9 : decode cX1_init 9 = .ok (.putfield 11, 3) := by decide +kernel
theorem dX1_init_12 : decode cX1_init 12 = .ok (.aload_n 0, 1) := by decide +kernel
theorem dX1_init_13 : decode cX1_init 13 = .ok (.aload_n 1, 1) := by decide +kernel
theorem dX1_init_14 : decode cX1_init 14 = .ok (.putfield 15, 3) := by decide +kernel
theorem dX1_init_17 : decode cX1_init 17 = .ok (.aload_n 0, 1) := by decide +kernel
theorem dX1_init_18 : decode cX1_init 18 = .ok (.invokevirtual 19, 3) := by decide +kernel
theorem dX1_init_21 : decode cX1_init 21 = .ok (.return_, 1) := by decide +kernel
theorem dX1_muster_0 : decode cX1_muster 0 = .ok (.iconst 0, 1) := by decide +kernel
theorem dX1_muster_1 : decode cX1_muster 1 = .ok (.istore_n 1, 1) := by decide +kernel
theorem dX1_muster_2 : decode cX1_muster 2 = .ok (.iload_n 1, 1) := by decide +kernel
theorem dX1_muster_3 : decode cX1_muster 3 = .ok (.bipush 6, 2) := by decide +kernel
theorem dX1_muster_5 : decode cX1_muster 5 = .ok (.if_icmp .ge 34, 3) := by decide +kernel
theorem dX1_muster_8 : decode cX1_muster 8 = .ok (.aload_n 0, 1) := by decide +kernel
theorem dX1_muster_9 : decode cX1_muster 9 = .ok (.getfield 11, 3) := by decide +kernel
theorem dX1_muster_12 : decode cX1_muster 12 = .ok (.iload_n 1, 1) := by decide +kernel
theorem dX1_muster_13 : decode cX1_muster 13 = .ok (.aload_n 0, 1) := by decide +kernel
theorem dX1_muster_14 : decode cX1_muster 14 = .ok (.getfield 15, 3) := by decide +kernel
theorem dX1_muster_17 : decode cX1_muster 17 = .ok (.iconst 1, 1) := by decide +kernel
theorem dX1_muster_18 : decode cX1_muster 18 = .ok (.iload_n 1, 1) := by decide +kernel
theorem dX1_muster_19 : decode cX1_muster 19 = .ok (.invokevirtual 22, 3) := by decide +kernel
theorem dX1_muster_22 : decode cX1_muster 22 = .ok (.iastore, 1) := by decide +kernel
theorem dX1_muster_23 : decode cX1_muster 23 = .ok (.aload_n 0, 1) := by decide +kernel
theorem dX1_muster_24 : decode cX1_muster 24 = .ok (.getfield 11, 3) := by decide +kernel
theorem dX1_muster_27 : decode cX1_muster 27 = .ok (.bipush 6, 2) := by decide +kernel
theorem dX1_muster_29 : decode cX1_muster 29 = .ok (.iload_n 1, 1) := by decide +kernel
theorem dX1_muster_30 : decode cX1_muster 30 = .ok (.iadd, 1) := by decide +kernel
theorem dX1_muster_31 : decode cX1_muster 31 = .ok (.iconst (-1), 1) := by decide +kernel
theorem dX1_muster_32 : decode cX1_muster 32 = .ok (.iastore, 1) := by decide +kernel
theorem dX1_muster_33 : decode cX1_muster 33 = .ok (.iinc 1 1, 3) := by decide +kernel
theorem dX1_muster_36 : decode cX1_muster 36 = .ok (.goto (-34), 3) := by decide +kernel
theorem dX1_muster_39 : decode cX1_muster 39 = .ok (.iconst 0, 1) := by decide +kernel
theorem dX1_muster_40 : decode cX1_muster 40 = .ok (.istore_n 1, 1) := by decide +kernel
theorem dX1_muster_41 : decode cX1_muster 41 = .ok (.iload_n 1, 1) := by decide +kernel
theorem dX1_muster_42 : decode cX1_muster 42 = .ok (.bipush 6, 2) := by decide +kernel
theorem dX1_muster_44 : decode cX1_muster 44 = .ok (.if_icmp .ge 45, 3) := by decide +kernel
theorem dX1_muster_47 : decode cX1_muster 47 = .ok (.iconst 0, 1) := by decide +kernel
theorem dX1_muster_48 : decode cX1_muster 48 = .ok (.istore_n 2, 1) := by decide +kernel
theorem dX1_muster_49 : decode cX1_muster 49 = .ok (.iload_n 2, 1) := by decide +kernel
theorem dX1_muster_50 : decode cX1_muster 50 = .ok (.iconst 5, 1) := by decide +kernel
theorem dX1_muster_51 : decode cX1_muster 51 = .ok (.if_icmp .ge 32, 3) := by decide +kernel
theorem dX1_muster_54 : decode cX1_muster 54 = .ok (.aload_n 0, 1) := by decide +kernel
theorem dX1_muster_55 : decode cX1_muster 55 = .ok (.getfield 11, 3) := by decide +kernel
theorem dX1_muster_58 : decode cX1_muster 58 = .ok (.bipush 12, 2) := by decide +kernel
theorem dX1_muster_60 : decode cX1_muster 60 = .ok (.iload_n 2, 1) := by decide +kernel
theorem dX1_muster_61 : decode cX1_muster 61 = .ok (.bipush 6, 2) := by decide +kernel
theorem dX1_muster_63 : decode cX1_muster 63 = .ok (.imul, 1) := by decide +kernel
theorem dX1_muster_64 : decode cX1_muster 64 = .ok (.iadd, 1) := by decide +kernel
theorem dX1_muster_65 : decode cX1_muster 65 = .ok (.iload_n 1, 1) := by decide +kernel
theorem dX1_muster_66 : decode cX1_muster 66 = .ok (.iadd, 1) := by decide +kernel
theorem dX1_muster_67 : decode cX1_muster 67 = .ok (.aload_n 0, 1) := by decide +kernel
theorem dX1_muster_68 : decode cX1_muster 68 = .ok (.getfield 15, 3) := by decide +kernel
theorem dX1_muster_71 : decode cX1_muster 71 = .ok (.iload_n 2, 1) := by decide +kernel
theorem dX1_muster_72 : decode cX1_muster 72 = .ok (.iload_n 1, 1) := by decide +kernel
theorem dX1_muster_73 : decode cX1_muster 73 = .ok (.invokevirtual 28, 3) := by decide +kernel
theorem dX1_muster_76 : decode cX1_muster 76 = .ok (.iastore, 1) := by decide +kernel
theorem dX1_muster_77 : decode cX1_muster 77 = .ok (.iinc 2 1, 3) := by decide +kernel
theorem dX1_muster_80 : decode cX1_muster 80 = .ok (.goto (-31), 3) := by decide +kernel
theorem dX1_muster_83 : decode cX1_muster 83 = .ok (.iinc 1 1, 3) := by decide +kernel
theorem dX1_muster_86 : decode cX1_muster 86 = .ok (.goto (-45), 3) := by decide +kernel
theorem dX1_muster_89 : decode cX1_muster 89 = .ok (.aload_n 0, 1) := by decide +kernel
theorem dX1_muster_90 : decode cX1_muster 90 = .ok (.getfield 11, 3) := by decide +kernel
theorem dX1_muster_93 : decode cX1_muster 93 = .ok (.bipush 42, 2) := by decide +kernel
theorem dX1_muster_95 : decode cX1_muster 95 = .ok (.iconst 0, 1) := by decide +kernel
theorem dX1_muster_96 : decode cX1_muster 96 = .ok (.iastore, 1) := by decide +kernel
theorem dX1_muster_97 : decode cX1_muster 97 = .ok (.aload_n 0, 1) := by decide +kernel
theorem dX1_muster_98 : decode cX1_muster 98 = .ok (.getfield 11, 3) := by decide +kernel
theorem dX1_muster_101 : decode cX1_muster 101 = .ok (.bipush 43, 2) := by decide +kernel
theorem dX1_muster_103 : decode cX1_muster 103 = .ok (.aload_n 0, 1) := by decide +kernel
theorem dX1_muster_104 : decode cX1_muster 104 = .ok (.getfield 15, 3) := by decide +kernel
theorem dX1_muster_107 : decode cX1_muster 107 = .ok (.getfield 31, 3) := by decide +kernel
theorem dX1_muster_110 : decode cX1_muster 110 = .ok (.iastore, 1) := by decide +kernel
theorem dX1_muster_111 : decode cX1_muster 111 = .ok (.return_, 1) := by decide +kernel
theorem dX1_part_0 : decode cX1_part 0 = .ok (.aload_n 0, 1) := by decide +kernel
theorem dX1_part_1 : decode cX1_part 1 = .ok (.getfield 15, 3) := by decide +kernel
theorem dX1_part_4 : decode cX1_part 4 = .ok (.iload_n 2, 1) := by decide +kernel
theorem dX1_part_5 : decode cX1_part 5 = .ok (.invokevirtual 45, 3) := by decide +kernel
theorem dX1_part_8 : decode cX1_part 8 = .ok (.ifCond .eq 16, 3) := by decide +kernel
theorem dX1_part_24 : decode cX1_part 24 = .ok (.iconst 0, 1) := by decide +kernel
theorem dX1_part_25 : decode cX1_part 25 = .ok (.istore_n 3, 1) := by decide +kernel
theorem dX1_part_26 : decode cX1_part 26 = .ok (.iload_n 3, 1) := by decide +kernel
theorem dX1_part_27 : decode cX1_part 27 = .ok (.ifCond .eq 20, 3) := by decide +kernel
theorem dX1_part_47 : decode cX1_part 47 = .ok (.iconst 0, 1) := by decide +kernel
theorem dX1_part_48 : decode cX1_part 48 = .ok (.ireturn, 1) := by decide +kernel
theorem dX1_passDay_0 : decode cX1_passDay 0 = .ok (.iconst 0, 1) := by decide +kernel
theorem dX1_passDay_1 : decode cX1_passDay 1 = .ok (.istore_n 2, 1) := by decide +kernel
theorem dX1_passDay_2 : decode cX1_passDay 2 = .ok (.iload_n 2, 1) := by decide +kernel
theorem dX1_passDay_3 : decode cX1_passDay 3 = .ok (.aload_n 0, 1) := by decide +kernel
theorem dX1_passDay_4 : decode cX1_passDay 4 = .ok (.getfield 15, 3) := by decide +kernel
theorem dX1_passDay_7 : decode cX1_passDay 7 = .ok (.getfield 48, 3) := by decide +kernel
theorem dX1_passDay_10 : decode cX1_passDay 10 = .ok (.if_icmp .ge 36, 3) := by decide +kernel
theorem dX1_passDay_46 : decode cX1_passDay 46 = .ok (.aload_n 0, 1) := by decide +kernel
theorem dX1_passDay_47 : decode cX1_passDay 47 = .ok (.getfield 11, 3) := by decide +kernel
theorem dX1_passDay_50 : decode cX1_passDay 50 = .ok (.bipush 43, 2) := by decide +kernel
theorem dX1_passDay_52 : decode cX1_passDay 52 = .ok (.aload_n 0, 1) := by decide +kernel
theorem dX1_passDay_53 : decode cX1_passDay 53 = .ok (.getfield 11, 3) := by decide +kernel
theorem dX1_passDay_56 : decode cX1_passDay 56 = .ok (.bipush 43, 2) := by decide +kernel
theorem dX1_passDay_58 : decode cX1_passDay 58 = .ok (.iaload, 1) := by decide +kernel
theorem dX1_passDay_59 : decode cX1_passDay 59 = .ok (.sipush 137, 3) := by decide +kernel
theorem dX1_passDay_62 : decode cX1_passDay 62 = .ok (.imul, 1) := by decide +kernel
theorem dX1_passDay_63 : decode cX1_passDay 63 = .ok (.bipush 71, 2) := by decide +kernel
theorem dX1_passDay_65 : decode cX1_passDay 65 = .ok (.iadd, 1) := by decide +kernel
theorem dX1_passDay_66 : decode cX1_passDay 66 = .ok (.sipush 1000, 3) := by decide +kernel
theorem dX1_passDay_69 : decode cX1_passDay 69 = .ok (.irem, 1) := by decide +kernel
theorem dX1_passDay_70 : decode cX1_passDay 70 = .ok (.iastore, 1) := by decide +kernel
theorem dX1_passDay_71 : decode cX1_passDay 71 = .ok (.aload_n 0, 1) := by decide +kernel
theorem dX1_passDay_72 : decode cX1_passDay 72 = .ok (.getfield 11, 3) := by decide +kernel
theorem dX1_passDay_75 : decode cX1_passDay 75 = .ok (.bipush 43, 2) := by decide +kernel
theorem dX1_passDay_77 : decode cX1_passDay 77 = .ok (.iaload, 1) := by decide +kernel
theorem dX1_passDay_78 : decode cX1_passDay 78 = .ok (.bipush 100, 2) := by decide +kernel
theorem dX1_passDay_80 : decode cX1_passDay 80 = .ok (.irem, 1) := by decide +kernel
theorem dX1_passDay_81 : decode cX1_passDay 81 = .ok (.iload_n 1, 1) := by decide +kernel
theorem dX1_passDay_82 : decode cX1_passDay 82 = .ok (.if_icmp .ge 7, 3) := by decide +kernel
theorem dX1_passDay_89 : decode cX1_passDay 89 = .ok (.iconst 0, 1) := by decide +kernel
theorem dX1_passDay_90 : decode cX1_passDay 90 = .ok (.istore_n 2, 1) := by decide +kernel
theorem dX1_passDay_91 : decode cX1_passDay 91 = .ok (.iconst 0, 1) := by decide +kernel
theorem dX1_passDay_92 : decode cX1_passDay 92 = .ok (.istore_n 3, 1) := by decide +kernel
theorem dX1_passDay_93 : decode cX1_passDay 93 = .ok (.iload_n 3, 1) := by decide +kernel
theorem dX1_passDay_94 : decode cX1_passDay 94 = .ok (.aload_n 0, 1) := by decide +kernel
theorem dX1_passDay_95 : decode cX1_passDay 95 = .ok (.getfield 15, 3) := by decide +kernel
theorem dX1_passDay_98 : decode cX1_passDay 98 = .ok (.getfield 48, 3) := by decide +kernel
theorem dX1_passDay_101 : decode cX1_passDay 101 = .ok (.if_icmp .ge 19, 3) := by decide +kernel
theorem dX1_passDay_120 : decode cX1_passDay 120 = .ok (.aload_n 0, 1) := by decide +kernel
theorem dX1_passDay_121 : decode cX1_passDay 121 = .ok (.getfield 11, 3) := by decide +kernel
theorem dX1_passDay_124 : decode cX1_passDay 124 = .ok (.bipush 42, 2) := by decide +kernel
theorem dX1_passDay_126 : decode cX1_passDay 126 = .ok (.dup2, 1) := by decide +kernel
theorem dX1_passDay_127 : decode cX1_passDay 127 = .ok (.iaload, 1) := by decide +kernel
theorem dX1_passDay_128 : decode cX1_passDay 128 = .ok (.iconst 1, 1) := by decide +kernel
theorem dX1_passDay_129 : decode cX1_passDay 129 = .ok (.iadd, 1) := by decide +kernel
theorem dX1_passDay_130 : decode cX1_passDay 130 = .ok (.iastore, 1) := by decide +kernel
theorem dX1_passDay_131 : decode cX1_passDay 131 = .ok (.iconst 0, 1) := by decide +kernel
theorem dX1_passDay_132 : decode cX1_passDay 132 = .ok (.istore_n 3, 1) := by decide +kernel
theorem dX1_passDay_133 : decode cX1_passDay 133 = .ok (.iconst 0, 1) := by decide +kernel
theorem dX1_passDay_134 : decode cX1_passDay 134 = .ok (.istore 4, 2) := by decide +kernel
theorem dX1_passDay_136 : decode cX1_passDay 136 = .ok (.iload 4, 2) := by decide +kernel
theorem dX1_passDay_138 : decode cX1_passDay 138 = .ok (.aload_n 0, 1) := by decide +kernel
theorem dX1_passDay_139 : decode cX1_passDay 139 = .ok (.getfield 15, 3) := by decide +kernel
theorem dX1_passDay_142 : decode cX1_passDay 142 = .ok (.getfield 48, 3) := by decide +kernel
theorem dX1_passDay_145 : decode cX1_passDay 145 = .ok (.if_icmp .ge 48, 3) := by decide +kernel
theorem dX1_passDay_193 : decode cX1_passDay 193 = .ok (.iload_n 3, 1) := by decide +kernel
theorem dX1_passDay_194 : decode cX1_passDay 194 = .ok (.ireturn, 1) := by decide +kernel
theorem dX1_saveTo_0 : decode cX1_saveTo 0 = .ok (.iload_n 2, 1) := by decide +kernel
theorem dX1_saveTo_1 : decode cX1_saveTo 1 = .ok (.ifCond .lt 27, 3) := by decide +kernel
theorem dX1_saveTo_4 : decode cX1_saveTo 4 = .ok (.iload_n 2, 1) := by decide +kernel
theorem dX1_saveTo_5 : decode cX1_saveTo 5 = .ok (.aload_n 1, 1) := by decide +kernel
theorem dX1_saveTo_6 : decode cX1_saveTo 6 = .ok (.arraylength, 1) := by decide +kernel
theorem dX1_saveTo_7 : decode cX1_saveTo 7 = .ok (.bipush 44, 2) := by decide +kernel
theorem dX1_saveTo_9 : decode cX1_saveTo 9 = .ok (.idiv, 1) := by decide +kernel
theorem dX1_saveTo_10 : decode cX1_saveTo 10 = .ok (.if_icmp .ge 18, 3) := by decide +kernel
theorem dX1_saveTo_13 : decode cX1_saveTo 13 = .ok (.aload_n 0, 1) := by decide +kernel
theorem dX1_saveTo_14 : decode cX1_saveTo 14 = .ok (.getfield 11, 3) := by decide +kernel
theorem dX1_saveTo_17 : decode cX1_saveTo 17 = .ok (.iconst 0, 1) := by decide +kernel
theorem dX1_saveTo_18 : decode cX1_saveTo 18 = .ok (.aload_n 1, 1) := by decide +kernel
theorem dX1_saveTo_19 : decode cX1_saveTo 19 = .ok (.iload_n 2, 1) := by decide +kernel
theorem dX1_saveTo_20 : decode cX1_saveTo 20 = .ok (.bipush 44, 2) := by decide +kernel
theorem dX1_saveTo_22 : decode cX1_saveTo 22 = .ok (.imul, 1) := by decide +kernel
theorem dX1_saveTo_23 : decode cX1_saveTo 23 = .ok (.bipush 44, 2) := by decide +kernel
theorem dX1_saveTo_25 : decode cX1_saveTo 25 = .ok (.invokestatic 35, 3) := by decide +kernel
theorem dX1_saveTo_28 : decode cX1_saveTo 28 = .ok (.return_, 1) := by decide +kernel
theorem dX1_seed_0 : decode cX1_seed 0 = .ok (.aload_n 0, 1) := by decide +kernel
theorem dX1_seed_1 : decode cX1_seed 1 = .ok (.getfield 11, 3) := by decide +kernel
theorem dX1_seed_4 : decode cX1_seed 4 = .ok (.bipush 43, 2) := by decide +kernel
theorem dX1_seed_6 : decode cX1_seed 6 = .ok (.iaload, 1) := by decide +kernel
theorem dX1_seed_7 : decode cX1_seed 7 = .ok (.ireturn, 1) := by decide +kernel
theorem dX1_today_0 : decode cX1_today 0 = .ok (.aload_n 0, 1) := by decide +kernel
theorem dX1_today_1 : decode cX1_today 1 = .ok (.getfield 11, 3) := by decide +kernel
theorem dX1_today_4 : decode cX1_today 4 = .ok (.bipush 42, 2) := by decide +kernel
theorem dX1_today_6 : decode cX1_today 6 = .ok (.iaload, 1) := by decide +kernel
theorem dX1_today_7 : decode cX1_today 7 = .ok (.ireturn, 1) := by decide +kernel
theorem dX1_wearers_0 : decode cX1_wearers 0 = .ok (.iconst 0, 1) := by decide +kernel
theorem dX1_wearers_1 : decode cX1_wearers 1 = .ok (.istore_n 1, 1) := by decide +kernel
theorem dX1_wearers_2 : decode cX1_wearers 2 = .ok (.iconst 0, 1) := by decide +kernel
theorem dX1_wearers_3 : decode cX1_wearers 3 = .ok (.istore_n 2, 1) := by decide +kernel
theorem dX1_wearers_4 : decode cX1_wearers 4 = .ok (.iload_n 2, 1) := by decide +kernel
theorem dX1_wearers_5 : decode cX1_wearers 5 = .ok (.aload_n 0, 1) := by decide +kernel
theorem dX1_wearers_6 : decode cX1_wearers 6 = .ok (.getfield 15, 3) := by decide +kernel
theorem dX1_wearers_9 : decode cX1_wearers 9 = .ok (.getfield 48, 3) := by decide +kernel
theorem dX1_wearers_12 : decode cX1_wearers 12 = .ok (.if_icmp .ge 24, 3) := by decide +kernel
theorem dX1_wearers_36 : decode cX1_wearers 36 = .ok (.iload_n 1, 1) := by decide +kernel
theorem dX1_wearers_37 : decode cX1_wearers 37 = .ok (.ireturn, 1) := by decide +kernel
theorem dX1_wears_0 : decode cX1_wears 0 = .ok (.aload_n 0, 1) := by decide +kernel
theorem dX1_wears_1 : decode cX1_wears 1 = .ok (.getfield 15, 3) := by decide +kernel
theorem dX1_wears_4 : decode cX1_wears 4 = .ok (.iload_n 1, 1) := by decide +kernel
theorem dX1_wears_5 : decode cX1_wears 5 = .ok (.invokevirtual 41, 3) := by decide +kernel
theorem dX1_wears_8 : decode cX1_wears 8 = .ok (.ifCond .eq 15, 3) := by decide +kernel
theorem dX1_wears_23 : decode cX1_wears 23 = .ok (.iconst (-1), 1) := by decide +kernel
theorem dX1_wears_24 : decode cX1_wears 24 = .ok (.ireturn, 1) := by decide +kernel
theorem dX2_difference_0 : decode cX2_difference 0 = .ok (.aload_n 0, 1) := by decide +kernel
theorem dX2_difference_1 : decode cX2_difference 1 = .ok (.aload_n 0, 1) := by decide +kernel
theorem dX2_difference_2 : decode cX2_difference 2 = .ok (.getfield 19, 3) := by decide +kernel
theorem dX2_difference_5 : decode cX2_difference 5 = .ok (.invokevirtual 39, 3) := by decide +kernel
theorem dX2_difference_8 : decode cX2_difference 8 = .ok (.invokevirtual 48, 3) := by decide +kernel
theorem dX2_difference_11 : decode cX2_difference 11 = .ok (.iconst 2, 1) := by decide +kernel
theorem dX2_difference_12 : decode cX2_difference 12 = .ok (.aload_n 0, 1) := by decide +kernel
theorem dX2_difference_13 : decode cX2_difference 13 = .ok (.iload_n 1, 1) := by decide +kernel
theorem dX2_difference_14 : decode cX2_difference 14 = .ok (.invokevirtual 48, 3) := by decide +kernel
theorem dX2_difference_17 : decode cX2_difference 17 = .ok (.imul, 1) := by decide +kernel
theorem dX2_difference_18 : decode cX2_difference 18 = .ok (.isub, 1) := by decide +kernel
theorem dX2_difference_19 : decode cX2_difference 19 = .ok (.invokestatic 61, 3) := by decide +kernel
theorem dX2_difference_22 : decode cX2_difference 22 = .ok (.ireturn, 1) := by decide +kernel
theorem dX2_frontOf_0 : decode cX2_frontOf 0 = .ok (.iconst (-1), 1) := by decide +kernel
theorem dX2_frontOf_1 : decode cX2_frontOf 1 = .ok (.istore_n 2, 1) := by decide +kernel
theorem dX2_frontOf_2 : decode cX2_frontOf 2 = .ok (.aload_n 0, 1) := by decide +kernel
theorem dX2_frontOf_3 : decode cX2_frontOf 3 = .ok (.getfield 19, 3) := by decide +kernel
theorem dX2_frontOf_6 : decode cX2_frontOf 6 = .ok (.invokevirtual 39, 3) := by decide +kernel
theorem dX2_frontOf_9 : decode cX2_frontOf 9 = .ok (.iconst (-1), 1) := by decide +kernel
theorem dX2_frontOf_10 : decode cX2_frontOf 10 = .ok (.ixor, 1) := by decide +kernel
theorem dX2_frontOf_11 : decode cX2_frontOf 11 = .ok (.istore_n 3, 1) := by decide +kernel
theorem dX2_frontOf_12 : decode cX2_frontOf 12 = .ok (.iconst 0, 1) := by decide +kernel
theorem dX2_frontOf_13 : decode cX2_frontOf 13 = .ok (.istore 4, 2) := by decide +kernel
theorem dX2_frontOf_15 : decode cX2_frontOf 15 = .ok (.iload 4, 2) := by decide +kernel
theorem dX2_frontOf_17 : decode cX2_frontOf 17 = .ok (.bipush 64, 2) := by decide +kernel
theorem dX2_frontOf_19 : decode cX2_frontOf 19 = .ok (.if_icmp .ge 58, 3) := by decide +kernel
theorem dX2_frontOf_22 : decode cX2_frontOf 22 = .ok (.iload_n 2, 1) := by decide +kernel
theorem dX2_frontOf_23 : decode cX2_frontOf 23 = .ok (.iconst (-1), 1) := by decide +kernel
theorem dX2_frontOf_24 : decode cX2_frontOf 24 = .ok (.if_icmp .eq 15, 3) := by decide +kernel
theorem dX2_frontOf_27 : decode cX2_frontOf 27 = .ok (.iload 4, 2) := by decide +kernel
theorem dX2_frontOf_29 : decode cX2_frontOf 29 = .ok (.invokestatic 43, 3) := by decide +kernel
theorem dX2_frontOf_32 : decode cX2_frontOf 32 = .ok (.iload_n 2, 1) := by decide +kernel
theorem dX2_frontOf_33 : decode cX2_frontOf 33 = .ok (.invokestatic 43, 3) := by decide +kernel
theorem dX2_frontOf_36 : decode cX2_frontOf 36 = .ok (.if_icmp .ge 7, 3) := by decide +kernel
theorem dX2_frontOf_39 : decode cX2_frontOf 39 = .ok (.iconst 1, 1) := by decide +kernel
theorem dX2_frontOf_40 : decode cX2_frontOf 40 = .ok (.goto 4, 3) := by decide +kernel
theorem dX2_frontOf_43 : decode cX2_frontOf 43 = .ok (.iconst 0, 1) := by decide +kernel
theorem dX2_frontOf_44 : decode cX2_frontOf 44 = .ok (.istore 5, 2) := by decide +kernel
theorem dX2_frontOf_46 : decode cX2_frontOf 46 = .ok (.iload 4, 2) := by decide +kernel
theorem dX2_frontOf_48 : decode cX2_frontOf 48 = .ok (.iload_n 3, 1) := by decide +kernel
theorem dX2_frontOf_49 : decode cX2_frontOf 49 = .ok (.iand, 1) := by decide +kernel
theorem dX2_frontOf_50 : decode cX2_frontOf 50 = .ok (.ifCond .ne 21, 3) := by decide +kernel
theorem dX2_frontOf_53 : decode cX2_frontOf 53 = .ok (.iload 5, 2) := by decide +kernel
theorem dX2_frontOf_55 : decode cX2_frontOf 55 = .ok (.ifCond .eq 16, 3) := by decide +kernel
theorem dX2_frontOf_58 : decode cX2_frontOf 58 = .ok (.aload_n 0, 1) := by decide +kernel
theorem dX2_frontOf_59 : decode cX2_frontOf 59 = .ok (.iload 4, 2) := by decide +kernel
theorem dX2_frontOf_61 : decode cX2_frontOf 61 = .ok (.invokevirtual 48, 3) := by decide +kernel
theorem dX2_frontOf_64 : decode cX2_frontOf 64 = .ok (.iload_n 1, 1) := by decide +kernel
theorem dX2_frontOf_65 : decode cX2_frontOf 65 = .ok (.if_icmp .lt 6, 3) := by decide +kernel
theorem dX2_frontOf_68 : decode cX2_frontOf 68 = .ok (.iload 4, 2) := by decide +kernel
theorem dX2_frontOf_70 : decode cX2_frontOf 70 = .ok (.istore_n 2, 1) := by decide +kernel
theorem dX2_frontOf_71 : decode cX2_frontOf 71 = .ok (.iinc 4 1, 3) := by decide +kernel
theorem dX2_frontOf_74 : decode cX2_frontOf 74 = .ok (.goto (-59), 3) := by decide +kernel
theorem dX2_frontOf_77 : decode cX2_frontOf 77 = .ok (.iload_n 2, 1) := by decide +kernel
theorem dX2_frontOf_78 : decode cX2_frontOf 78 = .ok (.ireturn, 1) := by decide +kernel
theorem dX2_init_0 : decode cX2_init 0 = .ok (.aload_n 0, 1) := by decide +kernel
theorem dX2_init_1 : decode cX2_init 1 = .ok (.invokespecial 3, 3) := by decide +kernel
theorem dX2_init_4 : decode cX2_init 4 = .ok (.aload_n 0, 1) := by decide +kernel
theorem dX2_init_5 : decode cX2_init 5 = .ok (.bipush 64, 2) := by decide +kernel
theorem dX2_init_7 : decode cX2_init 7 = .ok (.newarray .int, 2) := by decide +kernel
theorem dX2_init_9 : decode cX2_init 9 = .ok (.putfield 9, 3) := by decide +kernel
theorem dX2_init_12 : decode cX2_init 12 = .ok (.aload_n 0, 1) := by decide +kernel
theorem dX2_init_13 : decode cX2_init 13 = .ok (.aload_n 1, 1) := by decide +kernel
theorem dX2_init_14 : decode cX2_init 14 = .ok (.putfield 15, 3) := by decide +kernel
theorem dX2_init_17 : decode cX2_init 17 = .ok (.aload_n 0, 1) := by decide +kernel
theorem dX2_init_18 : decode cX2_init 18 = .ok (.aload_n 2, 1) := by decide +kernel
theorem dX2_init_19 : decode cX2_init 19 = .ok (.putfield 19, 3) := by decide +kernel
theorem dX2_init_22 : decode cX2_init 22 = .ok (.return_, 1) := by decide +kernel
theorem dX2_isEvener_0 : decode cX2_isEvener 0 = .ok (.aload_n 0, 1) := by decide +kernel
theorem dX2_isEvener_1 : decode cX2_isEvener 1 = .ok (.iload_n 1, 1) := by decide +kernel
theorem dX2_isEvener_2 : decode cX2_isEvener 2 = .ok (.invokevirtual 58, 3) := by decide +kernel
theorem dX2_isEvener_5 : decode cX2_isEvener 5 = .ok (.aload_n 0, 1) := by decide +kernel
theorem dX2_isEvener_6 : decode cX2_isEvener 6 = .ok (.iload_n 2, 1) := by decide +kernel
theorem dX2_isEvener_7 : decode cX2_isEvener 7 = .ok (.invokevirtual 58, 3) := by decide +kernel
theorem dX2_isEvener_10 : decode cX2_isEvener 10 = .ok (.isub, 1) := by decide +kernel
theorem dX2_isEvener_11 : decode cX2_isEvener 11 = .ok (.istore_n 3, 1) := by decide +kernel
theorem dX2_isEvener_12 : decode cX2_isEvener 12 = .ok (.iload_n 3, 1) := by decide +kernel
theorem dX2_isEvener_13 : decode cX2_isEvener 13 = .ok (.ifCond .lt 12, 3) := by decide +kernel
theorem dX2_isEvener_16 : decode cX2_isEvener 16 = .ok (.iload_n 3, 1) := by decide +kernel
theorem dX2_isEvener_17 : decode cX2_isEvener 17 = .ok (.ifCond .ne 12, 3) := by decide +kernel
theorem dX2_isEvener_20 : decode cX2_isEvener 20 = .ok (.iload_n 1, 1) := by decide +kernel
theorem dX2_isEvener_21 : decode cX2_isEvener 21 = .ok (.iload_n 2, 1) := by decide +kernel
theorem dX2_isEvener_22 : decode cX2_isEvener 22 = .ok (.if_icmp .ge 7, 3) := by decide +kernel
theorem dX2_isEvener_29 : decode cX2_isEvener 29 = .ok (.iconst 0, 1) := by decide +kernel
theorem dX2_isEvener_30 : decode cX2_isEvener 30 = .ok (.ireturn, 1) := by decide +kernel
theorem dX2_leastCloth_0 : decode cX2_leastCloth 0 = .ok (.iconst 1, 1) := by decide +kernel
theorem dX2_leastCloth_1 : decode cX2_leastCloth 1 = .ok (.aload_n 0, 1) := by decide +kernel
theorem dX2_leastCloth_2 : decode cX2_leastCloth 2 = .ok (.getfield 15, 3) := by decide +kernel
theorem dX2_leastCloth_5 : decode cX2_leastCloth 5 = .ok (.getfield 66, 3) := by decide +kernel
theorem dX2_leastCloth_8 : decode cX2_leastCloth 8 = .ok (.ishl, 1) := by decide +kernel
theorem dX2_leastCloth_9 : decode cX2_leastCloth 9 = .ok (.iconst 1, 1) := by decide +kernel
theorem dX2_leastCloth_10 : decode cX2_leastCloth 10 = .ok (.isub, 1) := by decide +kernel
theorem dX2_leastCloth_11 : decode cX2_leastCloth 11 = .ok (.istore_n 1, 1) := by decide +kernel
theorem dX2_leastCloth_12 : decode cX2_leastCloth 12 = .ok (.iconst 0, 1) := by decide +kernel
theorem dX2_leastCloth_13 : decode cX2_leastCloth 13 = .ok (.istore_n 2, 1) := by decide +kernel
theorem dX2_leastCloth_14 : decode cX2_leastCloth 14 = .ok (.iload_n 2, 1) := by decide +kernel
theorem dX2_leastCloth_15 : decode cX2_leastCloth 15 = .ok (.aload_n 0, 1) := by decide +kernel
theorem dX2_leastCloth_16 : decode cX2_leastCloth 16 = .ok (.getfield 15, 3) := by decide +kernel
theorem dX2_leastCloth_19 : decode cX2_leastCloth 19 = .ok (.getfield 66, 3) := by decide +kernel
theorem dX2_leastCloth_22 : decode cX2_leastCloth 22 = .ok (.if_icmp .ge 30, 3) := by decide +kernel
theorem dX2_leastCloth_52 : decode cX2_leastCloth 52 = .ok (.aload_n 0, 1) := by decide +kernel
theorem dX2_leastCloth_53 : decode cX2_leastCloth 53 = .ok (.getfield 9, 3) := by decide +kernel
theorem dX2_leastCloth_56 : decode cX2_leastCloth 56 = .ok (.iconst 0, 1) := by decide +kernel
theorem dX2_leastCloth_57 : decode cX2_leastCloth 57 = .ok (.iconst 0, 1) := by decide +kernel
theorem dX2_leastCloth_58 : decode cX2_leastCloth 58 = .ok (.iastore, 1) := by decide +kernel
theorem dX2_leastCloth_59 : decode cX2_leastCloth 59 = .ok (.iconst 1, 1) := by decide +kernel
theorem dX2_leastCloth_60 : decode cX2_leastCloth 60 = .ok (.istore_n 2, 1) := by decide +kernel
theorem dX2_leastCloth_61 : decode cX2_leastCloth 61 = .ok (.iload_n 2, 1) := by decide +kernel
theorem dX2_leastCloth_62 : decode cX2_leastCloth 62 = .ok (.iload_n 1, 1) := by decide +kernel
theorem dX2_leastCloth_63 : decode cX2_leastCloth 63 = .ok (.if_icmp .gt 26, 3) := by decide +kernel
theorem dX2_leastCloth_89 : decode cX2_leastCloth 89 = .ok (.iload_n 1, 1) := by decide +kernel
theorem dX2_leastCloth_90 : decode cX2_leastCloth 90 = .ok (.ifCond .lt 18, 3) := by decide +kernel
theorem dX2_leastCloth_93 : decode cX2_leastCloth 93 = .ok (.iload_n 1, 1) := by decide +kernel
theorem dX2_leastCloth_94 : decode cX2_leastCloth 94 = .ok (.bipush 64, 2) := by decide +kernel
theorem dX2_leastCloth_96 : decode cX2_leastCloth 96 = .ok (.if_icmp .ge 12, 3) := by decide +kernel
theorem dX2_leastCloth_99 : decode cX2_leastCloth 99 = .ok (.aload_n 0, 1) := by decide +kernel
theorem dX2_leastCloth_100 : decode cX2_leastCloth 100 = .ok (.getfield 9, 3) := by decide +kernel
theorem dX2_leastCloth_103 : decode cX2_leastCloth 103 = .ok (.iload_n 1, 1) := by decide +kernel
theorem dX2_leastCloth_104 : decode cX2_leastCloth 104 = .ok (.iaload, 1) := by decide +kernel
theorem dX2_leastCloth_105 : decode cX2_leastCloth 105 = .ok (.goto 4, 3) := by decide +kernel
theorem dX2_leastCloth_109 : decode cX2_leastCloth 109 = .ok (.ireturn, 1) := by decide +kernel
theorem dX2_leftWing_0 : decode cX2_leftWing 0 = .ok (.aload_n 0, 1) := by decide +kernel
theorem dX2_leftWing_1 : decode cX2_leftWing 1 = .ok (.getfield 19, 3) := by decide +kernel
theorem dX2_leftWing_4 : decode cX2_leftWing 4 = .ok (.invokevirtual 39, 3) := by decide +kernel
theorem dX2_leftWing_7 : decode cX2_leftWing 7 = .ok (.istore_n 1, 1) := by decide +kernel
theorem dX2_leftWing_8 : decode cX2_leftWing 8 = .ok (.iload_n 1, 1) := by decide +kernel
theorem dX2_leftWing_9 : decode cX2_leftWing 9 = .ok (.invokestatic 51, 3) := by decide +kernel
theorem dX2_leftWing_12 : decode cX2_leftWing 12 = .ok (.istore_n 2, 1) := by decide +kernel
theorem dX2_leftWing_13 : decode cX2_leftWing 13 = .ok (.iload_n 1, 1) := by decide +kernel
theorem dX2_leftWing_14 : decode cX2_leftWing 14 = .ok (.istore_n 3, 1) := by decide +kernel
theorem dX2_leftWing_15 : decode cX2_leftWing 15 = .ok (.iconst 0, 1) := by decide +kernel
theorem dX2_leftWing_16 : decode cX2_leftWing 16 = .ok (.istore 4, 2) := by decide +kernel
theorem dX2_leftWing_18 : decode cX2_leftWing 18 = .ok (.iload 4, 2) := by decide +kernel
theorem dX2_leftWing_20 : decode cX2_leftWing 20 = .ok (.bipush 64, 2) := by decide +kernel
theorem dX2_leftWing_22 : decode cX2_leftWing 22 = .ok (.if_icmp .ge 51, 3) := by decide +kernel
theorem dX2_leftWing_25 : decode cX2_leftWing 25 = .ok (.iload 4, 2) := by decide +kernel
theorem dX2_leftWing_27 : decode cX2_leftWing 27 = .ok (.iload_n 1, 1) := by decide +kernel
theorem dX2_leftWing_28 : decode cX2_leftWing 28 = .ok (.iconst (-1), 1) := by decide +kernel
theorem dX2_leftWing_29 : decode cX2_leftWing 29 = .ok (.ixor, 1) := by decide +kernel
theorem dX2_leftWing_30 : decode cX2_leftWing 30 = .ok (.iand, 1) := by decide +kernel
theorem dX2_leftWing_31 : decode cX2_leftWing 31 = .ok (.ifCond .ne 15, 3) := by decide +kernel
theorem dX2_leftWing_34 : decode cX2_leftWing 34 = .ok (.iload 4, 2) := by decide +kernel
theorem dX2_leftWing_36 : decode cX2_leftWing 36 = .ok (.iload_n 2, 1) := by decide +kernel
theorem dX2_leftWing_37 : decode cX2_leftWing 37 = .ok (.iand, 1) := by decide +kernel
theorem dX2_leftWing_38 : decode cX2_leftWing 38 = .ok (.iload_n 2, 1) := by decide +kernel
theorem dX2_leftWing_39 : decode cX2_leftWing 39 = .ok (.if_icmp .ne 7, 3) := by decide +kernel
theorem dX2_leftWing_42 : decode cX2_leftWing 42 = .ok (.iconst 1, 1) := by decide +kernel
theorem dX2_leftWing_43 : decode cX2_leftWing 43 = .ok (.goto 4, 3) := by decide +kernel
theorem dX2_leftWing_46 : decode cX2_leftWing 46 = .ok (.iconst 0, 1) := by decide +kernel
theorem dX2_leftWing_47 : decode cX2_leftWing 47 = .ok (.istore 5, 2) := by decide +kernel
theorem dX2_leftWing_49 : decode cX2_leftWing 49 = .ok (.iload 5, 2) := by decide +kernel
theorem dX2_leftWing_51 : decode cX2_leftWing 51 = .ok (.ifCond .eq 16, 3) := by decide +kernel
theorem dX2_leftWing_54 : decode cX2_leftWing 54 = .ok (.aload_n 0, 1) := by decide +kernel
theorem dX2_leftWing_55 : decode cX2_leftWing 55 = .ok (.iload 4, 2) := by decide +kernel
theorem dX2_leftWing_57 : decode cX2_leftWing 57 = .ok (.iload_n 3, 1) := by decide +kernel
theorem dX2_leftWing_58 : decode cX2_leftWing 58 = .ok (.invokevirtual 54, 3) := by decide +kernel
theorem dX2_leftWing_61 : decode cX2_leftWing 61 = .ok (.ifCond .eq 6, 3) := by decide +kernel
theorem dX2_leftWing_67 : decode cX2_leftWing 67 = .ok (.iinc 4 1, 3) := by decide +kernel
theorem dX2_leftWing_70 : decode cX2_leftWing 70 = .ok (.goto (-52), 3) := by decide +kernel
theorem dX2_leftWing_73 : decode cX2_leftWing 73 = .ok (.iload_n 3, 1) := by decide +kernel
theorem dX2_leftWing_74 : decode cX2_leftWing 74 = .ok (.ireturn, 1) := by decide +kernel
theorem dX2_wideTogether_0 : decode cX2_wideTogether 0 = .ok (.iconst 0, 1) := by decide +kernel
theorem dX2_wideTogether_1 : decode cX2_wideTogether 1 = .ok (.istore_n 2, 1) := by decide +kernel
theorem dX2_wideTogether_2 : decode cX2_wideTogether 2 = .ok (.iconst 0, 1) := by decide +kernel
theorem dX2_wideTogether_3 : decode cX2_wideTogether 3 = .ok (.istore_n 3, 1) := by decide +kernel
theorem dX2_wideTogether_4 : decode cX2_wideTogether 4 = .ok (.iload_n 3, 1) := by decide +kernel
theorem dX2_wideTogether_5 : decode cX2_wideTogether 5 = .ok (.aload_n 0, 1) := by decide +kernel
theorem dX2_wideTogether_6 : decode cX2_wideTogether 6 = .ok (.getfield 15, 3) := by decide +kernel
theorem dX2_wideTogether_9 : decode cX2_wideTogether 9 = .ok (.getfield 23, 3) := by decide +kernel
theorem dX2_wideTogether_12 : decode cX2_wideTogether 12 = .ok (.if_icmp .ge 36, 3) := by decide +kernel
theorem dX2_wideTogether_48 : decode cX2_wideTogether 48 = .ok (.iload_n 2, 1) := by decide +kernel
theorem dX2_wideTogether_49 : decode cX2_wideTogether 49 = .ok (.ireturn, 1) := by decide +kernel
theorem dX3_bestTurning_0 : decode cX3_bestTurning 0 = .ok (.iconst (-1), 1) := by decide +kernel
theorem dX3_bestTurning_1 : decode cX3_bestTurning 1 = .ok (.istore_n 1, 1) := by decide +kernel
theorem dX3_bestTurning_2 : decode cX3_bestTurning 2 = .ok (.iconst (-1), 1) := by decide +kernel
theorem dX3_bestTurning_3 : decode cX3_bestTurning 3 = .ok (.istore_n 2, 1) := by decide +kernel
theorem dX3_bestTurning_4 : decode cX3_bestTurning 4 = .ok (.iconst 0, 1) := by decide +kernel
theorem dX3_bestTurning_5 : decode cX3_bestTurning 5 = .ok (.istore_n 3, 1) := by decide +kernel
theorem dX3_bestTurning_6 : decode cX3_bestTurning 6 = .ok (.iload_n 3, 1) := by decide +kernel
theorem dX3_bestTurning_7 : decode cX3_bestTurning 7 = .ok (.aload_n 0, 1) := by decide +kernel
theorem dX3_bestTurning_8 : decode cX3_bestTurning 8 = .ok (.getfield 9, 3) := by decide +kernel
theorem dX3_bestTurning_11 : decode cX3_bestTurning 11 = .ok (.getfield 122, 3) := by decide +kernel
theorem dX3_bestTurning_14 : decode cX3_bestTurning 14 = .ok (.if_icmp .ge 65, 3) := by decide +kernel
theorem dX3_bestTurning_79 : decode cX3_bestTurning 79 = .ok (.iload_n 1, 1) := by decide +kernel
theorem dX3_bestTurning_80 : decode cX3_bestTurning 80 = .ok (.ireturn, 1) := by decide +kernel
theorem dX3_daysTillRout_0 : decode cX3_daysTillRout 0 = .ok (.aload_n 0, 1) := by decide +kernel
theorem dX3_daysTillRout_1 : decode cX3_daysTillRout 1 = .ok (.getfield 24, 3) := by decide +kernel
theorem dX3_daysTillRout_4 : decode cX3_daysTillRout 4 = .ok (.aload_n 0, 1) := by decide +kernel
theorem dX3_daysTillRout_5 : decode cX3_daysTillRout 5 = .ok (.getfield 15, 3) := by decide +kernel
theorem dX3_daysTillRout_8 : decode cX3_daysTillRout 8 = .ok (.invokevirtual 27, 3) := by decide +kernel
theorem dX3_daysTillRout_11 : decode cX3_daysTillRout 11 = .ok (.iconst 0, 1) := by decide +kernel
theorem dX3_daysTillRout_12 : decode cX3_daysTillRout 12 = .ok (.istore_n 1, 1) := by decide +kernel
theorem dX3_daysTillRout_13 : decode cX3_daysTillRout 13 = .ok (.iload_n 1, 1) := by decide +kernel
theorem dX3_daysTillRout_14 : decode cX3_daysTillRout 14 = .ok (.bipush 60, 2) := by decide +kernel
theorem dX3_daysTillRout_16 : decode cX3_daysTillRout 16 = .ok (.if_icmp .gt 30, 3) := by decide +kernel
theorem dX3_daysTillRout_19 : decode cX3_daysTillRout 19 = .ok (.aload_n 0, 1) := by decide +kernel
theorem dX3_daysTillRout_20 : decode cX3_daysTillRout 20 = .ok (.getfield 24, 3) := by decide +kernel
theorem dX3_daysTillRout_23 : decode cX3_daysTillRout 23 = .ok (.invokevirtual 38, 3) := by decide +kernel
theorem dX3_daysTillRout_26 : decode cX3_daysTillRout 26 = .ok (.ifCond .ne 5, 3) := by decide +kernel
theorem dX3_daysTillRout_29 : decode cX3_daysTillRout 29 = .ok (.iload_n 1, 1) := by decide +kernel
theorem dX3_daysTillRout_30 : decode cX3_daysTillRout 30 = .ok (.ireturn, 1) := by decide +kernel
theorem dX3_findChange_0 : decode cX3_findChange 0 = .ok (.aload_n 0, 1) := by decide +kernel
theorem dX3_findChange_1 : decode cX3_findChange 1 = .ok (.getfield 15, 3) := by decide +kernel
theorem dX3_findChange_4 : decode cX3_findChange 4 = .ok (.invokevirtual 102, 3) := by decide +kernel
theorem dX3_findChange_7 : decode cX3_findChange 7 = .ok (.invokestatic 105, 3) := by decide +kernel
theorem dX3_findChange_10 : decode cX3_findChange 10 = .ok (.istore_n 1, 1) := by decide +kernel
theorem dX3_findChange_11 : decode cX3_findChange 11 = .ok (.aload_n 0, 1) := by decide +kernel
theorem dX3_findChange_12 : decode cX3_findChange 12 = .ok (.iload_n 1, 1) := by decide +kernel
theorem dX3_findChange_13 : decode cX3_findChange 13 = .ok (.putfield 110, 3) := by decide +kernel
theorem dX3_findChange_16 : decode cX3_findChange 16 = .ok (.iconst 0, 1) := by decide +kernel
theorem dX3_findChange_17 : decode cX3_findChange 17 = .ok (.istore_n 2, 1) := by decide +kernel
theorem dX3_findChange_18 : decode cX3_findChange 18 = .ok (.iload_n 2, 1) := by decide +kernel
theorem dX3_findChange_19 : decode cX3_findChange 19 = .ok (.aload_n 0, 1) := by decide +kernel
theorem dX3_findChange_20 : decode cX3_findChange 20 = .ok (.getfield 9, 3) := by decide +kernel
theorem dX3_findChange_23 : decode cX3_findChange 23 = .ok (.getfield 92, 3) := by decide +kernel
theorem dX3_findChange_26 : decode cX3_findChange 26 = .ok (.if_icmp .ge 63, 3) := by decide +kernel
theorem dX3_findChange_89 : decode cX3_findChange 89 = .ok (.aload_n 0, 1) := by decide +kernel
theorem dX3_findChange_90 : decode cX3_findChange 90 = .ok (.getfield 110, 3) := by decide +kernel
theorem dX3_findChange_93 : decode cX3_findChange 93 = .ok (.iload_n 1, 1) := by decide +kernel
theorem dX3_findChange_94 : decode cX3_findChange 94 = .ok (.if_icmp .le 7, 3) := by decide +kernel
theorem dX3_findChange_101 : decode cX3_findChange 101 = .ok (.iconst 0, 1) := by decide +kernel
theorem dX3_findChange_102 : decode cX3_findChange 102 = .ok (.ireturn, 1) := by decide +kernel
theorem dX3_fittingBy_0 : decode cX3_fittingBy 0 = .ok (.iconst 0, 1) := by decide +kernel
theorem dX3_fittingBy_1 : decode cX3_fittingBy 1 = .ok (.istore_n 2, 1) := by decide +kernel
theorem dX3_fittingBy_2 : decode cX3_fittingBy 2 = .ok (.iconst 0, 1) := by decide +kernel
theorem dX3_fittingBy_3 : decode cX3_fittingBy 3 = .ok (.istore_n 3, 1) := by decide +kernel
theorem dX3_fittingBy_4 : decode cX3_fittingBy 4 = .ok (.iload_n 3, 1) := by decide +kernel
theorem dX3_fittingBy_5 : decode cX3_fittingBy 5 = .ok (.aload_n 0, 1) := by decide +kernel
theorem dX3_fittingBy_6 : decode cX3_fittingBy 6 = .ok (.getfield 9, 3) := by decide +kernel
theorem dX3_fittingBy_9 : decode cX3_fittingBy 9 = .ok (.getfield 92, 3) := by decide +kernel
theorem dX3_fittingBy_12 : decode cX3_fittingBy 12 = .ok (.if_icmp .ge 42, 3) := by decide +kernel
theorem dX3_fittingBy_54 : decode cX3_fittingBy 54 = .ok (.iload_n 2, 1) := by decide +kernel
theorem dX3_fittingBy_55 : decode cX3_fittingBy 55 = .ok (.ireturn, 1) := by decide +kernel
theorem dX3_init_0 : decode cX3_init 0 = .ok (.aload_n 0, 1) := by decide +kernel
theorem dX3_init_1 : decode cX3_init 1 = .ok (.invokespecial 3, 3) := by decide +kernel
theorem dX3_init_4 : decode cX3_init 4 = .ok (.aload_n 0, 1) := by decide +kernel
theorem dX3_init_5 : decode cX3_init 5 = .ok (.aload_n 1, 1) := by decide +kernel
theorem dX3_init_6 : decode cX3_init 6 = .ok (.putfield 9, 3) := by decide +kernel
theorem dX3_init_9 : decode cX3_init 9 = .ok (.aload_n 0, 1) := by decide +kernel
theorem dX3_init_10 : decode cX3_init 10 = .ok (.aload_n 2, 1) := by decide +kernel
theorem dX3_init_11 : decode cX3_init 11 = .ok (.putfield 15, 3) := by decide +kernel
theorem dX3_init_14 : decode cX3_init 14 = .ok (.aload_n 0, 1) := by decide +kernel
theorem dX3_init_15 : decode cX3_init 15 = .ok (.new 19, 3) := by decide +kernel
theorem dX3_init_18 : decode cX3_init 18 = .ok (.dup, 1) := by decide +kernel
theorem dX3_init_19 : decode cX3_init 19 = .ok (.aload_n 1, 1) := by decide +kernel
theorem dX3_init_20 : decode cX3_init 20 = .ok (.invokespecial 21, 3) := by decide +kernel
theorem dX3_init_23 : decode cX3_init 23 = .ok (.putfield 24, 3) := by decide +kernel
theorem dX3_init_26 : decode cX3_init 26 = .ok (.return_, 1) := by decide +kernel
theorem dX3_worstIllness_0 : decode cX3_worstIllness 0 = .ok (.iconst 0, 1) := by decide +kernel
theorem dX3_worstIllness_1 : decode cX3_worstIllness 1 = .ok (.istore_n 1, 1) := by decide +kernel
theorem dX3_worstIllness_2 : decode cX3_worstIllness 2 = .ok (.iconst 0, 1) := by decide +kernel
theorem dX3_worstIllness_3 : decode cX3_worstIllness 3 = .ok (.istore_n 2, 1) := by decide +kernel
theorem dX3_worstIllness_4 : decode cX3_worstIllness 4 = .ok (.iload_n 2, 1) := by decide +kernel
