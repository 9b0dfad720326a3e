theorem dX11_reach_138 : decode cX11_reach 138 = .ok (.iinc 5 1, 3) := by decide +kernel
theorem dX11_reach_141 : decode cX11_reach 141 = .ok (.goto (-94), 3) := by decide +kernel
theorem dX11_reach_144 : decode cX11_reach 144 = .ok (.iload 4, 2) := by decide +kernel
theorem dX11_reach_146 : decode cX11_reach 146 = .ok (.ireturn, 1) := by decide +kernel
theorem dX11_reached_0 : decode cX11_reached 0 = .ok (.iload_n 2, 1) := by decide +kernel
theorem dX11_reached_1 : decode cX11_reached 1 = .ok (.iload_n 3, 1) := by decide +kernel
theorem dX11_reached_2 : decode cX11_reached 2 = .ok (.if_icmp .ne 9, 3) := by decide +kernel
theorem dX11_reached_5 : decode cX11_reached 5 = .ok (.sipush 1000, 3) := by decide +kernel
theorem dX11_reached_8 : decode cX11_reached 8 = .ok (.goto 14, 3) := by decide +kernel
theorem dX11_reached_11 : decode cX11_reached 11 = .ok (.aload_n 0, 1) := by decide +kernel
theorem dX11_reached_12 : decode cX11_reached 12 = .ok (.getfield 108, 3) := by decide +kernel
theorem dX11_reached_15 : decode cX11_reached 15 = .ok (.bipush 6, 2) := by decide +kernel
theorem dX11_reached_17 : decode cX11_reached 17 = .ok (.iload_n 1, 1) := by decide +kernel
theorem dX11_reached_18 : decode cX11_reached 18 = .ok (.imul, 1) := by decide +kernel
theorem dX11_reached_19 : decode cX11_reached 19 = .ok (.iload_n 2, 1) := by decide +kernel
theorem dX11_reached_20 : decode cX11_reached 20 = .ok (.iadd, 1) := by decide +kernel
theorem dX11_reached_21 : decode cX11_reached 21 = .ok (.iaload, 1) := by decide +kernel
theorem dX11_reached_22 : decode cX11_reached 22 = .ok (.ireturn, 1) := by decide +kernel
theorem dX11_readAll_0 : decode cX11_readAll 0 = .ok (.aload_n 0, 1) := by decide +kernel
theorem dX11_readAll_1 : decode cX11_readAll 1 = .ok (.aload_n 0, 1) := by decide +kernel
theorem dX11_readAll_2 : decode cX11_readAll 2 = .ok (.getfield 139, 3) := by decide +kernel
theorem dX11_readAll_5 : decode cX11_readAll 5 = .ok (.putfield 149, 3) := by decide +kernel
theorem dX11_readAll_8 : decode cX11_readAll 8 = .ok (.aload_n 0, 1) := by decide +kernel
theorem dX11_readAll_9 : decode cX11_readAll 9 = .ok (.iconst 0, 1) := by decide +kernel
theorem dX11_readAll_10 : decode cX11_readAll 10 = .ok (.putfield 139, 3) := by decide +kernel
theorem dX11_readAll_13 : decode cX11_readAll 13 = .ok (.aload_n 0, 1) := by decide +kernel
theorem dX11_readAll_14 : decode cX11_readAll 14 = .ok (.iconst 0, 1) := by decide +kernel
theorem dX11_readAll_15 : decode cX11_readAll 15 = .ok (.putfield 146, 3) := by decide +kernel
theorem dX11_readAll_18 : decode cX11_readAll 18 = .ok (.aload_n 0, 1) := by decide +kernel
theorem dX11_readAll_19 : decode cX11_readAll 19 = .ok (.iconst 0, 1) := by decide +kernel
theorem dX11_readAll_20 : decode cX11_readAll 20 = .ok (.putfield 179, 3) := by decide +kernel
theorem dX11_readAll_23 : decode cX11_readAll 23 = .ok (.aload_n 0, 1) := by decide +kernel
theorem dX11_readAll_24 : decode cX11_readAll 24 = .ok (.iconst (-1), 1) := by decide +kernel
theorem dX11_readAll_25 : decode cX11_readAll 25 = .ok (.putfield 13, 3) := by decide +kernel
theorem dX11_readAll_28 : decode cX11_readAll 28 = .ok (.aload_n 0, 1) := by decide +kernel
theorem dX11_readAll_29 : decode cX11_readAll 29 = .ok (.iconst 0, 1) := by decide +kernel
theorem dX11_readAll_30 : decode cX11_readAll 30 = .ok (.putfield 330, 3) := by decide +kernel
theorem dX11_readAll_33 : decode cX11_readAll 33 = .ok (.aload_n 0, 1) := by decide +kernel
theorem dX11_readAll_34 : decode cX11_readAll 34 = .ok (.iconst 0, 1) := by decide +kernel
theorem dX11_readAll_35 : decode cX11_readAll 35 = .ok (.putfield 339, 3) := by decide +kernel
theorem dX11_readAll_38 : decode cX11_readAll 38 = .ok (.aload_n 0, 1) := by decide +kernel
theorem dX11_readAll_39 : decode cX11_readAll 39 = .ok (.bipush 10, 2) := by decide +kernel
theorem dX11_readAll_41 : decode cX11_readAll 41 = .ok (.putfield 354, 3) := by decide +kernel
theorem dX11_readAll_44 : decode cX11_readAll 44 = .ok (.aload_n 0, 1) := by decide +kernel
theorem dX11_readAll_45 : decode cX11_readAll 45 = .ok (.sipush 150, 3) := by decide +kernel
theorem dX11_readAll_48 : decode cX11_readAll 48 = .ok (.putfield 360, 3) := by decide +kernel
theorem dX11_readAll_51 : decode cX11_readAll 51 = .ok (.aload_n 0, 1) := by decide +kernel
theorem dX11_readAll_52 : decode cX11_readAll 52 = .ok (.iconst 2, 1) := by decide +kernel
theorem dX11_readAll_53 : decode cX11_readAll 53 = .ok (.putfield 366, 3) := by decide +kernel
theorem dX11_readAll_56 : decode cX11_readAll 56 = .ok (.aload_n 0, 1) := by decide +kernel
theorem dX11_readAll_57 : decode cX11_readAll 57 = .ok (.iconst 0, 1) := by decide +kernel
theorem dX11_readAll_58 : decode cX11_readAll 58 = .ok (.putfield 372, 3) := by decide +kernel
theorem dX11_readAll_61 : decode cX11_readAll 61 = .ok (.aload_n 0, 1) := by decide +kernel
theorem dX11_readAll_62 : decode cX11_readAll 62 = .ok (.iconst 0, 1) := by decide +kernel
theorem dX11_readAll_63 : decode cX11_readAll 63 = .ok (.putfield 378, 3) := by decide +kernel
theorem dX11_readAll_66 : decode cX11_readAll 66 = .ok (.aload_n 0, 1) := by decide +kernel
theorem dX11_readAll_67 : decode cX11_readAll 67 = .ok (.iconst 0, 1) := by decide +kernel
theorem dX11_readAll_68 : decode cX11_readAll 68 = .ok (.putfield 351, 3) := by decide +kernel
theorem dX11_readAll_71 : decode cX11_readAll 71 = .ok (.aload_n 0, 1) := by decide +kernel
theorem dX11_readAll_72 : decode cX11_readAll 72 = .ok (.iconst 0, 1) := by decide +kernel
theorem dX11_readAll_73 : decode cX11_readAll 73 = .ok (.putfield 357, 3) := by decide +kernel
theorem dX11_readAll_76 : decode cX11_readAll 76 = .ok (.aload_n 0, 1) := by decide +kernel
theorem dX11_readAll_77 : decode cX11_readAll 77 = .ok (.iconst 0, 1) := by decide +kernel
theorem dX11_readAll_78 : decode cX11_readAll 78 = .ok (.putfield 363, 3) := by decide +kernel
theorem dX11_readAll_81 : decode cX11_readAll 81 = .ok (.aload_n 0, 1) := by decide +kernel
theorem dX11_readAll_82 : decode cX11_readAll 82 = .ok (.iconst 0, 1) := by decide +kernel
theorem dX11_readAll_83 : decode cX11_readAll 83 = .ok (.putfield 369, 3) := by decide +kernel
theorem dX11_readAll_86 : decode cX11_readAll 86 = .ok (.aload_n 0, 1) := by decide +kernel
theorem dX11_readAll_87 : decode cX11_readAll 87 = .ok (.iconst 0, 1) := by decide +kernel
theorem dX11_readAll_88 : decode cX11_readAll 88 = .ok (.putfield 375, 3) := by decide +kernel
theorem dX11_readAll_91 : decode cX11_readAll 91 = .ok (.aload_n 0, 1) := by decide +kernel
theorem dX11_readAll_92 : decode cX11_readAll 92 = .ok (.iconst 0, 1) := by decide +kernel
theorem dX11_readAll_93 : decode cX11_readAll 93 = .ok (.putfield 291, 3) := by decide +kernel
theorem dX11_readAll_96 : decode cX11_readAll 96 = .ok (.aload_n 0, 1) := by decide +kernel
theorem dX11_readAll_97 : decode cX11_readAll 97 = .ok (.iconst 0, 1) := by decide +kernel
theorem dX11_readAll_98 : decode cX11_readAll 98 = .ok (.putfield 269, 3) := by decide +kernel
theorem dX11_readAll_101 : decode cX11_readAll 101 = .ok (.aload_n 0, 1) := by decide +kernel
theorem dX11_readAll_102 : decode cX11_readAll 102 = .ok (.invokevirtual 235, 3) := by decide +kernel
theorem dX11_readAll_105 : decode cX11_readAll 105 = .ok (.aload_n 0, 1) := by decide +kernel
theorem dX11_readAll_106 : decode cX11_readAll 106 = .ok (.getfield 179, 3) := by decide +kernel
theorem dX11_readAll_109 : decode cX11_readAll 109 = .ok (.ifCond .ne 17, 3) := by decide +kernel
theorem dX11_readAll_112 : decode cX11_readAll 112 = .ok (.aload_n 0, 1) := by decide +kernel
theorem dX11_readAll_113 : decode cX11_readAll 113 = .ok (.getfield 166, 3) := by decide +kernel
theorem dX11_readAll_116 : decode cX11_readAll 116 = .ok (.ifCond .eq 10, 3) := by decide +kernel
theorem dX11_readAll_119 : decode cX11_readAll 119 = .ok (.aload_n 0, 1) := by decide +kernel
theorem dX11_readAll_120 : decode cX11_readAll 120 = .ok (.invokevirtual 381, 3) := by decide +kernel
theorem dX11_readAll_123 : decode cX11_readAll 123 = .ok (.goto (-18), 3) := by decide +kernel
theorem dX11_readAll_126 : decode cX11_readAll 126 = .ok (.return_, 1) := by decide +kernel
theorem dX11_readCoat_0 : decode cX11_readCoat 0 = .ok (.aload_n 0, 1) := by decide +kernel
theorem dX11_readCoat_1 : decode cX11_readCoat 1 = .ok (.bipush 6, 2) := by decide +kernel
theorem dX11_readCoat_3 : decode cX11_readCoat 3 = .ok (.aload_n 0, 1) := by decide +kernel
theorem dX11_readCoat_4 : decode cX11_readCoat 4 = .ok (.getfield 339, 3) := by decide +kernel
theorem dX11_readCoat_7 : decode cX11_readCoat 7 = .ok (.invokevirtual 333, 3) := by decide +kernel
theorem dX11_readCoat_10 : decode cX11_readCoat 10 = .ok (.aload_n 0, 1) := by decide +kernel
theorem dX11_readCoat_11 : decode cX11_readCoat 11 = .ok (.getfield 51, 3) := by decide +kernel
theorem dX11_readCoat_14 : decode cX11_readCoat 14 = .ok (.aload_n 0, 1) := by decide +kernel
theorem dX11_readCoat_15 : decode cX11_readCoat 15 = .ok (.getfield 339, 3) := by decide +kernel
theorem dX11_readCoat_18 : decode cX11_readCoat 18 = .ok (.aload_n 0, 1) := by decide +kernel
theorem dX11_readCoat_19 : decode cX11_readCoat 19 = .ok (.ldc2_w 184, 3) := by decide +kernel
theorem dX11_readCoat_22 : decode cX11_readCoat 22 = .ok (.bipush 99, 2) := by decide +kernel
theorem dX11_readCoat_24 : decode cX11_readCoat 24 = .ok (.invokevirtual 246, 3) := by decide +kernel
theorem dX11_readCoat_27 : decode cX11_readCoat 27 = .ok (.iastore, 1) := by decide +kernel
theorem dX11_readCoat_28 : decode cX11_readCoat 28 = .ok (.aload_n 0, 1) := by decide +kernel
theorem dX11_readCoat_29 : decode cX11_readCoat 29 = .ok (.getfield 54, 3) := by decide +kernel
theorem dX11_readCoat_32 : decode cX11_readCoat 32 = .ok (.aload_n 0, 1) := by decide +kernel
theorem dX11_readCoat_33 : decode cX11_readCoat 33 = .ok (.getfield 339, 3) := by decide +kernel
theorem dX11_readCoat_36 : decode cX11_readCoat 36 = .ok (.aload_n 0, 1) := by decide +kernel
theorem dX11_readCoat_37 : decode cX11_readCoat 37 = .ok (.ldc2_w 186, 3) := by decide +kernel
theorem dX11_readCoat_40 : decode cX11_readCoat 40 = .ok (.bipush 99, 2) := by decide +kernel
theorem dX11_readCoat_42 : decode cX11_readCoat 42 = .ok (.invokevirtual 246, 3) := by decide +kernel
theorem dX11_readCoat_45 : decode cX11_readCoat 45 = .ok (.iastore, 1) := by decide +kernel
theorem dX11_readCoat_46 : decode cX11_readCoat 46 = .ok (.aload_n 0, 1) := by decide +kernel
theorem dX11_readCoat_47 : decode cX11_readCoat 47 = .ok (.getfield 57, 3) := by decide +kernel
theorem dX11_readCoat_50 : decode cX11_readCoat 50 = .ok (.aload_n 0, 1) := by decide +kernel
theorem dX11_readCoat_51 : decode cX11_readCoat 51 = .ok (.getfield 339, 3) := by decide +kernel
theorem dX11_readCoat_54 : decode cX11_readCoat 54 = .ok (.aload_n 0, 1) := by decide +kernel
theorem dX11_readCoat_55 : decode cX11_readCoat 55 = .ok (.ldc2_w 192, 3) := by decide +kernel
theorem dX11_readCoat_58 : decode cX11_readCoat 58 = .ok (.bipush 20, 2) := by decide +kernel
theorem dX11_readCoat_60 : decode cX11_readCoat 60 = .ok (.invokevirtual 336, 3) := by decide +kernel
theorem dX11_readCoat_63 : decode cX11_readCoat 63 = .ok (.iastore, 1) := by decide +kernel
theorem dX11_readCoat_64 : decode cX11_readCoat 64 = .ok (.aload_n 0, 1) := by decide +kernel
theorem dX11_readCoat_65 : decode cX11_readCoat 65 = .ok (.getfield 60, 3) := by decide +kernel
theorem dX11_readCoat_68 : decode cX11_readCoat 68 = .ok (.aload_n 0, 1) := by decide +kernel
theorem dX11_readCoat_69 : decode cX11_readCoat 69 = .ok (.getfield 339, 3) := by decide +kernel
theorem dX11_readCoat_72 : decode cX11_readCoat 72 = .ok (.aload_n 0, 1) := by decide +kernel
theorem dX11_readCoat_73 : decode cX11_readCoat 73 = .ok (.ldc2_w 194, 3) := by decide +kernel
theorem dX11_readCoat_76 : decode cX11_readCoat 76 = .ok (.bipush 99, 2) := by decide +kernel
theorem dX11_readCoat_78 : decode cX11_readCoat 78 = .ok (.invokevirtual 336, 3) := by decide +kernel
theorem dX11_readCoat_81 : decode cX11_readCoat 81 = .ok (.iastore, 1) := by decide +kernel
theorem dX11_readCoat_82 : decode cX11_readCoat 82 = .ok (.aload_n 0, 1) := by decide +kernel
theorem dX11_readCoat_83 : decode cX11_readCoat 83 = .ok (.getfield 179, 3) := by decide +kernel
theorem dX11_readCoat_86 : decode cX11_readCoat 86 = .ok (.ifCond .ne 13, 3) := by decide +kernel
theorem dX11_readCoat_89 : decode cX11_readCoat 89 = .ok (.aload_n 0, 1) := by decide +kernel
theorem dX11_readCoat_90 : decode cX11_readCoat 90 = .ok (.dup, 1) := by decide +kernel
theorem dX11_readCoat_91 : decode cX11_readCoat 91 = .ok (.getfield 339, 3) := by decide +kernel
theorem dX11_readCoat_94 : decode cX11_readCoat 94 = .ok (.iconst 1, 1) := by decide +kernel
theorem dX11_readCoat_95 : decode cX11_readCoat 95 = .ok (.iadd, 1) := by decide +kernel
theorem dX11_readCoat_96 : decode cX11_readCoat 96 = .ok (.putfield 339, 3) := by decide +kernel
theorem dX11_readCoat_99 : decode cX11_readCoat 99 = .ok (.return_, 1) := by decide +kernel
theorem dX11_readLine_0 : decode cX11_readLine 0 = .ok (.aload_n 0, 1) := by decide +kernel
theorem dX11_readLine_1 : decode cX11_readLine 1 = .ok (.ldc2_w 182, 3) := by decide +kernel
theorem dX11_readLine_4 : decode cX11_readLine 4 = .ok (.invokevirtual 228, 3) := by decide +kernel
theorem dX11_readLine_7 : decode cX11_readLine 7 = .ok (.ifCond .eq 19, 3) := by decide +kernel
theorem dX11_readLine_10 : decode cX11_readLine 10 = .ok (.aload_n 0, 1) := by decide +kernel
theorem dX11_readLine_11 : decode cX11_readLine 11 = .ok (.getfield 330, 3) := by decide +kernel
theorem dX11_readLine_14 : decode cX11_readLine 14 = .ok (.bipush 6, 2) := by decide +kernel
theorem dX11_readLine_16 : decode cX11_readLine 16 = .ok (.if_icmp .ge 10, 3) := by decide +kernel
theorem dX11_readLine_19 : decode cX11_readLine 19 = .ok (.aload_n 0, 1) := by decide +kernel
theorem dX11_readLine_20 : decode cX11_readLine 20 = .ok (.invokevirtual 342, 3) := by decide +kernel
theorem dX11_readLine_23 : decode cX11_readLine 23 = .ok (.goto 251, 3) := by decide +kernel
theorem dX11_readLine_26 : decode cX11_readLine 26 = .ok (.aload_n 0, 1) := by decide +kernel
theorem dX11_readLine_27 : decode cX11_readLine 27 = .ok (.ldc2_w 190, 3) := by decide +kernel
theorem dX11_readLine_30 : decode cX11_readLine 30 = .ok (.invokevirtual 228, 3) := by decide +kernel
theorem dX11_readLine_33 : decode cX11_readLine 33 = .ok (.ifCond .eq 19, 3) := by decide +kernel
theorem dX11_readLine_36 : decode cX11_readLine 36 = .ok (.aload_n 0, 1) := by decide +kernel
theorem dX11_readLine_37 : decode cX11_readLine 37 = .ok (.getfield 339, 3) := by decide +kernel
theorem dX11_readLine_40 : decode cX11_readLine 40 = .ok (.bipush 6, 2) := by decide +kernel
theorem dX11_readLine_42 : decode cX11_readLine 42 = .ok (.if_icmp .ge 10, 3) := by decide +kernel
theorem dX11_readLine_45 : decode cX11_readLine 45 = .ok (.aload_n 0, 1) := by decide +kernel
theorem dX11_readLine_46 : decode cX11_readLine 46 = .ok (.invokevirtual 345, 3) := by decide +kernel
theorem dX11_readLine_49 : decode cX11_readLine 49 = .ok (.goto 225, 3) := by decide +kernel
theorem dX11_readLine_52 : decode cX11_readLine 52 = .ok (.aload_n 0, 1) := by decide +kernel
theorem dX11_readLine_53 : decode cX11_readLine 53 = .ok (.ldc2_w 196, 3) := by decide +kernel
theorem dX11_readLine_56 : decode cX11_readLine 56 = .ok (.invokevirtual 228, 3) := by decide +kernel
theorem dX11_readLine_59 : decode cX11_readLine 59 = .ok (.ifCond .eq 17, 3) := by decide +kernel
theorem dX11_readLine_62 : decode cX11_readLine 62 = .ok (.aload_n 0, 1) := by decide +kernel
theorem dX11_readLine_63 : decode cX11_readLine 63 = .ok (.getfield 291, 3) := by decide +kernel
theorem dX11_readLine_66 : decode cX11_readLine 66 = .ok (.ifCond .ne 10, 3) := by decide +kernel
theorem dX11_readLine_69 : decode cX11_readLine 69 = .ok (.aload_n 0, 1) := by decide +kernel
theorem dX11_readLine_70 : decode cX11_readLine 70 = .ok (.invokevirtual 348, 3) := by decide +kernel
theorem dX11_readLine_73 : decode cX11_readLine 73 = .ok (.goto 201, 3) := by decide +kernel
theorem dX11_readLine_76 : decode cX11_readLine 76 = .ok (.aload_n 0, 1) := by decide +kernel
theorem dX11_readLine_77 : decode cX11_readLine 77 = .ok (.ldc2_w 198, 3) := by decide +kernel
theorem dX11_readLine_80 : decode cX11_readLine 80 = .ok (.invokevirtual 228, 3) := by decide +kernel
theorem dX11_readLine_83 : decode cX11_readLine 83 = .ok (.ifCond .eq 32, 3) := by decide +kernel
theorem dX11_readLine_86 : decode cX11_readLine 86 = .ok (.aload_n 0, 1) := by decide +kernel
theorem dX11_readLine_87 : decode cX11_readLine 87 = .ok (.getfield 351, 3) := by decide +kernel
theorem dX11_readLine_90 : decode cX11_readLine 90 = .ok (.ifCond .ne 25, 3) := by decide +kernel
theorem dX11_readLine_93 : decode cX11_readLine 93 = .ok (.aload_n 0, 1) := by decide +kernel
theorem dX11_readLine_94 : decode cX11_readLine 94 = .ok (.iconst 1, 1) := by decide +kernel
theorem dX11_readLine_95 : decode cX11_readLine 95 = .ok (.putfield 351, 3) := by decide +kernel
theorem dX11_readLine_98 : decode cX11_readLine 98 = .ok (.aload_n 0, 1) := by decide +kernel
theorem dX11_readLine_99 : decode cX11_readLine 99 = .ok (.aload_n 0, 1) := by decide +kernel
theorem dX11_readLine_100 : decode cX11_readLine 100 = .ok (.ldc2_w 198, 3) := by decide +kernel
theorem dX11_readLine_103 : decode cX11_readLine 103 = .ok (.sipush 999, 3) := by decide +kernel
theorem dX11_readLine_106 : decode cX11_readLine 106 = .ok (.invokevirtual 246, 3) := by decide +kernel
theorem dX11_readLine_109 : decode cX11_readLine 109 = .ok (.putfield 354, 3) := by decide +kernel
theorem dX11_readLine_112 : decode cX11_readLine 112 = .ok (.goto 162, 3) := by decide +kernel
theorem dX11_readLine_115 : decode cX11_readLine 115 = .ok (.aload_n 0, 1) := by decide +kernel
theorem dX11_readLine_116 : decode cX11_readLine 116 = .ok (.ldc2_w 200, 3) := by decide +kernel
theorem dX11_readLine_119 : decode cX11_readLine 119 = .ok (.invokevirtual 228, 3) := by decide +kernel
theorem dX11_readLine_122 : decode cX11_readLine 122 = .ok (.ifCond .eq 32, 3) := by decide +kernel
theorem dX11_readLine_125 : decode cX11_readLine 125 = .ok (.aload_n 0, 1) := by decide +kernel
theorem dX11_readLine_126 : decode cX11_readLine 126 = .ok (.getfield 357, 3) := by decide +kernel
theorem dX11_readLine_129 : decode cX11_readLine 129 = .ok (.ifCond .ne 25, 3) := by decide +kernel
theorem dX11_readLine_132 : decode cX11_readLine 132 = .ok (.aload_n 0, 1) := by decide +kernel
theorem dX11_readLine_133 : decode cX11_readLine 133 = .ok (.iconst 1, 1) := by decide +kernel
theorem dX11_readLine_134 : decode cX11_readLine 134 = .ok (.putfield 357, 3) := by decide +kernel
theorem dX11_readLine_137 : decode cX11_readLine 137 = .ok (.aload_n 0, 1) := by decide +kernel
theorem dX11_readLine_138 : decode cX11_readLine 138 = .ok (.aload_n 0, 1) := by decide +kernel
theorem dX11_readLine_139 : decode cX11_readLine 139 = .ok (.ldc2_w 200, 3) := by decide +kernel
theorem dX11_readLine_142 : decode cX11_readLine 142 = .ok (.sipush 999, 3) := by decide +kernel
theorem dX11_readLine_145 : decode cX11_readLine 145 = .ok (.invokevirtual 246, 3) := by decide +kernel
theorem dX11_readLine_148 : decode cX11_readLine 148 = .ok (.putfield 360, 3) := by decide +kernel
theorem dX11_readLine_151 : decode cX11_readLine 151 = .ok (.goto 123, 3) := by decide +kernel
theorem dX11_readLine_154 : decode cX11_readLine 154 = .ok (.aload_n 0, 1) := by decide +kernel
theorem dX11_readLine_155 : decode cX11_readLine 155 = .ok (.ldc2_w 202, 3) := by decide +kernel
theorem dX11_readLine_158 : decode cX11_readLine 158 = .ok (.invokevirtual 228, 3) := by decide +kernel
theorem dX11_readLine_161 : decode cX11_readLine 161 = .ok (.ifCond .eq 31, 3) := by decide +kernel
theorem dX11_readLine_164 : decode cX11_readLine 164 = .ok (.aload_n 0, 1) := by decide +kernel
theorem dX11_readLine_165 : decode cX11_readLine 165 = .ok (.getfield 363, 3) := by decide +kernel
theorem dX11_readLine_168 : decode cX11_readLine 168 = .ok (.ifCond .ne 24, 3) := by decide +kernel
theorem dX11_readLine_171 : decode cX11_readLine 171 = .ok (.aload_n 0, 1) := by decide +kernel
theorem dX11_readLine_172 : decode cX11_readLine 172 = .ok (.iconst 1, 1) := by decide +kernel
theorem dX11_readLine_173 : decode cX11_readLine 173 = .ok (.putfield 363, 3) := by decide +kernel
theorem dX11_readLine_176 : decode cX11_readLine 176 = .ok (.aload_n 0, 1) := by decide +kernel
theorem dX11_readLine_177 : decode cX11_readLine 177 = .ok (.aload_n 0, 1) := by decide +kernel
theorem dX11_readLine_178 : decode cX11_readLine 178 = .ok (.ldc2_w 202, 3) := by decide +kernel
theorem dX11_readLine_181 : decode cX11_readLine 181 = .ok (.bipush 99, 2) := by decide +kernel
theorem dX11_readLine_183 : decode cX11_readLine 183 = .ok (.invokevirtual 246, 3) := by decide +kernel
theorem dX11_readLine_186 : decode cX11_readLine 186 = .ok (.putfield 366, 3) := by decide +kernel
theorem dX11_readLine_189 : decode cX11_readLine 189 = .ok (.goto 85, 3) := by decide +kernel
theorem dX11_readLine_192 : decode cX11_readLine 192 = .ok (.aload_n 0, 1) := by decide +kernel
theorem dX11_readLine_193 : decode cX11_readLine 193 = .ok (.ldc2_w 204, 3) := by decide +kernel
theorem dX11_readLine_196 : decode cX11_readLine 196 = .ok (.invokevirtual 228, 3) := by decide +kernel
theorem dX11_readLine_199 : decode cX11_readLine 199 = .ok (.ifCond .eq 31, 3) := by decide +kernel
theorem dX11_readLine_202 : decode cX11_readLine 202 = .ok (.aload_n 0, 1) := by decide +kernel
theorem dX11_readLine_203 : decode cX11_readLine 203 = .ok (.getfield 369, 3) := by decide +kernel
theorem dX11_readLine_206 : decode cX11_readLine 206 = .ok (.ifCond .ne 24, 3) := by decide +kernel
theorem dX11_readLine_209 : decode cX11_readLine 209 = .ok (.aload_n 0, 1) := by decide +kernel
theorem dX11_readLine_210 : decode cX11_readLine 210 = .ok (.iconst 1, 1) := by decide +kernel
theorem dX11_readLine_211 : decode cX11_readLine 211 = .ok (.putfield 369, 3) := by decide +kernel
theorem dX11_readLine_214 : decode cX11_readLine 214 = .ok (.aload_n 0, 1) := by decide +kernel
theorem dX11_readLine_215 : decode cX11_readLine 215 = .ok (.aload_n 0, 1) := by decide +kernel
theorem dX11_readLine_216 : decode cX11_readLine 216 = .ok (.ldc2_w 204, 3) := by decide +kernel
theorem dX11_readLine_219 : decode cX11_readLine 219 = .ok (.bipush 100, 2) := by decide +kernel
theorem dX11_readLine_221 : decode cX11_readLine 221 = .ok (.invokevirtual 246, 3) := by decide +kernel
theorem dX11_readLine_224 : decode cX11_readLine 224 = .ok (.putfield 372, 3) := by decide +kernel
theorem dX11_readLine_227 : decode cX11_readLine 227 = .ok (.goto 47, 3) := by decide +kernel
theorem dX11_readLine_230 : decode cX11_readLine 230 = .ok (.aload_n 0, 1) := by decide +kernel
theorem dX11_readLine_231 : decode cX11_readLine 231 = .ok (.ldc2_w 206, 3) := by decide +kernel
theorem dX11_readLine_234 : decode cX11_readLine 234 = .ok (.invokevirtual 228, 3) := by decide +kernel
theorem dX11_readLine_237 : decode cX11_readLine 237 = .ok (.ifCond .eq 32, 3) := by decide +kernel
theorem dX11_readLine_240 : decode cX11_readLine 240 = .ok (.aload_n 0, 1) := by decide +kernel
theorem dX11_readLine_241 : decode cX11_readLine 241 = .ok (.getfield 375, 3) := by decide +kernel
theorem dX11_readLine_244 : decode cX11_readLine 244 = .ok (.ifCond .ne 25, 3) := by decide +kernel
theorem dX11_readLine_247 : decode cX11_readLine 247 = .ok (.aload_n 0, 1) := by decide +kernel
theorem dX11_readLine_248 : decode cX11_readLine 248 = .ok (.iconst 1, 1) := by decide +kernel
theorem dX11_readLine_249 : decode cX11_readLine 249 = .ok (.putfield 375, 3) := by decide +kernel
theorem dX11_readLine_252 : decode cX11_readLine 252 = .ok (.aload_n 0, 1) := by decide +kernel
theorem dX11_readLine_253 : decode cX11_readLine 253 = .ok (.aload_n 0, 1) := by decide +kernel
theorem dX11_readLine_254 : decode cX11_readLine 254 = .ok (.ldc2_w 206, 3) := by decide +kernel
theorem dX11_readLine_257 : decode cX11_readLine 257 = .ok (.sipush 999, 3) := by decide +kernel
theorem dX11_readLine_260 : decode cX11_readLine 260 = .ok (.invokevirtual 246, 3) := by decide +kernel
theorem dX11_readLine_263 : decode cX11_readLine 263 = .ok (.putfield 378, 3) := by decide +kernel
theorem dX11_readLine_266 : decode cX11_readLine 266 = .ok (.goto 8, 3) := by decide +kernel
theorem dX11_readLine_269 : decode cX11_readLine 269 = .ok (.aload_n 0, 1) := by decide +kernel
theorem dX11_readLine_270 : decode cX11_readLine 270 = .ok (.iconst 2, 1) := by decide +kernel
theorem dX11_readLine_271 : decode cX11_readLine 271 = .ok (.invokevirtual 232, 3) := by decide +kernel
theorem dX11_readLine_274 : decode cX11_readLine 274 = .ok (.aload_n 0, 1) := by decide +kernel
theorem dX11_readLine_275 : decode cX11_readLine 275 = .ok (.getfield 179, 3) := by decide +kernel
theorem dX11_readLine_278 : decode cX11_readLine 278 = .ok (.ifCond .ne 17, 3) := by decide +kernel
theorem dX11_readLine_281 : decode cX11_readLine 281 = .ok (.aload_n 0, 1) := by decide +kernel
theorem dX11_readLine_282 : decode cX11_readLine 282 = .ok (.getfield 166, 3) := by decide +kernel
theorem dX11_readLine_285 : decode cX11_readLine 285 = .ok (.bipush 59, 2) := by decide +kernel
theorem dX11_readLine_287 : decode cX11_readLine 287 = .ok (.if_icmp .eq 8, 3) := by decide +kernel
theorem dX11_readLine_290 : decode cX11_readLine 290 = .ok (.aload_n 0, 1) := by decide +kernel
theorem dX11_readLine_291 : decode cX11_readLine 291 = .ok (.iconst 2, 1) := by decide +kernel
theorem dX11_readLine_292 : decode cX11_readLine 292 = .ok (.invokevirtual 232, 3) := by decide +kernel
theorem dX11_readLine_295 : decode cX11_readLine 295 = .ok (.aload_n 0, 1) := by decide +kernel
theorem dX11_readLine_296 : decode cX11_readLine 296 = .ok (.getfield 179, 3) := by decide +kernel
theorem dX11_readLine_299 : decode cX11_readLine 299 = .ok (.ifCond .ne 7, 3) := by decide +kernel
theorem dX11_readLine_302 : decode cX11_readLine 302 = .ok (.aload_n 0, 1) := by decide +kernel
theorem dX11_readLine_303 : decode cX11_readLine 303 = .ok (.invokevirtual 235, 3) := by decide +kernel
theorem dX11_readLine_306 : decode cX11_readLine 306 = .ok (.return_, 1) := by decide +kernel
theorem dX11_readMan_0 : decode cX11_readMan 0 = .ok (.aload_n 0, 1) := by decide +kernel
theorem dX11_readMan_1 : decode cX11_readMan 1 = .ok (.iconst 0, 1) := by decide +kernel
theorem dX11_readMan_2 : decode cX11_readMan 2 = .ok (.aload_n 0, 1) := by decide +kernel
theorem dX11_readMan_3 : decode cX11_readMan 3 = .ok (.getfield 330, 3) := by decide +kernel
theorem dX11_readMan_6 : decode cX11_readMan 6 = .ok (.invokevirtual 333, 3) := by decide +kernel
theorem dX11_readMan_9 : decode cX11_readMan 9 = .ok (.aload_n 0, 1) := by decide +kernel
theorem dX11_readMan_10 : decode cX11_readMan 10 = .ok (.getfield 42, 3) := by decide +kernel
theorem dX11_readMan_13 : decode cX11_readMan 13 = .ok (.aload_n 0, 1) := by decide +kernel
theorem dX11_readMan_14 : decode cX11_readMan 14 = .ok (.getfield 330, 3) := by decide +kernel
theorem dX11_readMan_17 : decode cX11_readMan 17 = .ok (.aload_n 0, 1) := by decide +kernel
theorem dX11_readMan_18 : decode cX11_readMan 18 = .ok (.ldc2_w 184, 3) := by decide +kernel
theorem dX11_readMan_21 : decode cX11_readMan 21 = .ok (.bipush 99, 2) := by decide +kernel
theorem dX11_readMan_23 : decode cX11_readMan 23 = .ok (.invokevirtual 246, 3) := by decide +kernel
theorem dX11_readMan_26 : decode cX11_readMan 26 = .ok (.iastore, 1) := by decide +kernel
theorem dX11_readMan_27 : decode cX11_readMan 27 = .ok (.aload_n 0, 1) := by decide +kernel
theorem dX11_readMan_28 : decode cX11_readMan 28 = .ok (.getfield 45, 3) := by decide +kernel
theorem dX11_readMan_31 : decode cX11_readMan 31 = .ok (.aload_n 0, 1) := by decide +kernel
theorem dX11_readMan_32 : decode cX11_readMan 32 = .ok (.getfield 330, 3) := by decide +kernel
theorem dX11_readMan_35 : decode cX11_readMan 35 = .ok (.aload_n 0, 1) := by decide +kernel
theorem dX11_readMan_36 : decode cX11_readMan 36 = .ok (.ldc2_w 186, 3) := by decide +kernel
theorem dX11_readMan_39 : decode cX11_readMan 39 = .ok (.bipush 99, 2) := by decide +kernel
theorem dX11_readMan_41 : decode cX11_readMan 41 = .ok (.invokevirtual 246, 3) := by decide +kernel
theorem dX11_readMan_44 : decode cX11_readMan 44 = .ok (.iastore, 1) := by decide +kernel
theorem dX11_readMan_45 : decode cX11_readMan 45 = .ok (.aload_n 0, 1) := by decide +kernel
theorem dX11_readMan_46 : decode cX11_readMan 46 = .ok (.getfield 48, 3) := by decide +kernel
theorem dX11_readMan_49 : decode cX11_readMan 49 = .ok (.aload_n 0, 1) := by decide +kernel
theorem dX11_readMan_50 : decode cX11_readMan 50 = .ok (.getfield 330, 3) := by decide +kernel
theorem dX11_readMan_53 : decode cX11_readMan 53 = .ok (.aload_n 0, 1) := by decide +kernel
theorem dX11_readMan_54 : decode cX11_readMan 54 = .ok (.ldc2_w 188, 3) := by decide +kernel
theorem dX11_readMan_57 : decode cX11_readMan 57 = .ok (.bipush 9, 2) := by decide +kernel
theorem dX11_readMan_59 : decode cX11_readMan 59 = .ok (.invokevirtual 336, 3) := by decide +kernel
theorem dX11_readMan_62 : decode cX11_readMan 62 = .ok (.iastore, 1) := by decide +kernel
theorem dX11_readMan_63 : decode cX11_readMan 63 = .ok (.aload_n 0, 1) := by decide +kernel
theorem dX11_readMan_64 : decode cX11_readMan 64 = .ok (.getfield 179, 3) := by decide +kernel
theorem dX11_readMan_67 : decode cX11_readMan 67 = .ok (.ifCond .ne 13, 3) := by decide +kernel
theorem dX11_readMan_70 : decode cX11_readMan 70 = .ok (.aload_n 0, 1) := by decide +kernel
theorem dX11_readMan_71 : decode cX11_readMan 71 = .ok (.dup, 1) := by decide +kernel
theorem dX11_readMan_72 : decode cX11_readMan 72 = .ok (.getfield 330, 3) := by decide +kernel
theorem dX11_readMan_75 : decode cX11_readMan 75 = .ok (.iconst 1, 1) := by decide +kernel
theorem dX11_readMan_76 : decode cX11_readMan 76 = .ok (.iadd, 1) := by decide +kernel
theorem dX11_readMan_77 : decode cX11_readMan 77 = .ok (.putfield 330, 3) := by decide +kernel
theorem dX11_readMan_80 : decode cX11_readMan 80 = .ok (.return_, 1) := by decide +kernel
theorem dX11_redo_0 : decode cX11_redo 0 = .ok (.aload_n 0, 1) := by decide +kernel
theorem dX11_redo_1 : decode cX11_redo 1 = .ok (.getfield 408, 3) := by decide +kernel
theorem dX11_redo_4 : decode cX11_redo 4 = .ok (.ifCond .ne 5, 3) := by decide +kernel
theorem dX11_redo_7 : decode cX11_redo 7 = .ok (.iconst 0, 1) := by decide +kernel
theorem dX11_redo_8 : decode cX11_redo 8 = .ok (.ireturn, 1) := by decide +kernel
theorem dX11_redo_9 : decode cX11_redo 9 = .ok (.aload_n 0, 1) := by decide +kernel
theorem dX11_redo_10 : decode cX11_redo 10 = .ok (.bipush 39, 2) := by decide +kernel
theorem dX11_redo_12 : decode cX11_redo 12 = .ok (.aload_n 0, 1) := by decide +kernel
theorem dX11_redo_13 : decode cX11_redo 13 = .ok (.getfield 405, 3) := by decide +kernel
theorem dX11_redo_16 : decode cX11_redo 16 = .ok (.imul, 1) := by decide +kernel
theorem dX11_redo_17 : decode cX11_redo 17 = .ok (.invokevirtual 467, 3) := by decide +kernel
theorem dX11_redo_20 : decode cX11_redo 20 = .ok (.aload_n 0, 1) := by decide +kernel
theorem dX11_redo_21 : decode cX11_redo 21 = .ok (.dup, 1) := by decide +kernel
theorem dX11_redo_22 : decode cX11_redo 22 = .ok (.getfield 405, 3) := by decide +kernel
theorem dX11_redo_25 : decode cX11_redo 25 = .ok (.iconst 1, 1) := by decide +kernel
theorem dX11_redo_26 : decode cX11_redo 26 = .ok (.iadd, 1) := by decide +kernel
theorem dX11_redo_27 : decode cX11_redo 27 = .ok (.putfield 405, 3) := by decide +kernel
theorem dX11_redo_30 : decode cX11_redo 30 = .ok (.aload_n 0, 1) := by decide +kernel
theorem dX11_redo_31 : decode cX11_redo 31 = .ok (.dup, 1) := by decide +kernel
theorem dX11_redo_32 : decode cX11_redo 32 = .ok (.getfield 408, 3) := by decide +kernel
theorem dX11_redo_35 : decode cX11_redo 35 = .ok (.iconst 1, 1) := by decide +kernel
theorem dX11_redo_36 : decode cX11_redo 36 = .ok (.isub, 1) := by decide +kernel
theorem dX11_redo_37 : decode cX11_redo 37 = .ok (.putfield 408, 3) := by decide +kernel
theorem dX11_redo_40 : decode cX11_redo 40 = .ok (.iconst 1, 1) := by decide +kernel
theorem dX11_redo_41 : decode cX11_redo 41 = .ok (.ireturn, 1) := by decide +kernel
theorem dX11_regiment_0 : decode cX11_regiment 0 = .ok (.aload_n 0, 1) := by decide +kernel
theorem dX11_regiment_1 : decode cX11_regiment 1 = .ok (.invokevirtual 384, 3) := by decide +kernel
theorem dX11_regiment_4 : decode cX11_regiment 4 = .ok (.aload_n 0, 1) := by decide +kernel
theorem dX11_regiment_5 : decode cX11_regiment 5 = .ok (.getfield 179, 3) := by decide +kernel
theorem dX11_regiment_8 : decode cX11_regiment 8 = .ok (.ifCond .le 5, 3) := by decide +kernel
theorem dX11_regiment_11 : decode cX11_regiment 11 = .ok (.iconst (-1), 1) := by decide +kernel
theorem dX11_regiment_12 : decode cX11_regiment 12 = .ok (.ireturn, 1) := by decide +kernel
theorem dX11_regiment_13 : decode cX11_regiment 13 = .ok (.aload_n 0, 1) := by decide +kernel
theorem dX11_regiment_14 : decode cX11_regiment 14 = .ok (.aload_n 0, 1) := by decide +kernel
theorem dX11_regiment_15 : decode cX11_regiment 15 = .ok (.getfield 330, 3) := by decide +kernel
theorem dX11_regiment_18 : decode cX11_regiment 18 = .ok (.putfield 387, 3) := by decide +kernel
theorem dX11_regiment_21 : decode cX11_regiment 21 = .ok (.aload_n 0, 1) := by decide +kernel
theorem dX11_regiment_22 : decode cX11_regiment 22 = .ok (.aload_n 0, 1) := by decide +kernel
theorem dX11_regiment_23 : decode cX11_regiment 23 = .ok (.getfield 339, 3) := by decide +kernel
theorem dX11_regiment_26 : decode cX11_regiment 26 = .ok (.putfield 390, 3) := by decide +kernel
theorem dX11_regiment_29 : decode cX11_regiment 29 = .ok (.aload_n 0, 1) := by decide +kernel
theorem dX11_regiment_30 : decode cX11_regiment 30 = .ok (.aload_n 0, 1) := by decide +kernel
theorem dX11_regiment_31 : decode cX11_regiment 31 = .ok (.getfield 354, 3) := by decide +kernel
theorem dX11_regiment_34 : decode cX11_regiment 34 = .ok (.putfield 84, 3) := by decide +kernel
theorem dX11_regiment_37 : decode cX11_regiment 37 = .ok (.aload_n 0, 1) := by decide +kernel
theorem dX11_regiment_38 : decode cX11_regiment 38 = .ok (.aload_n 0, 1) := by decide +kernel
theorem dX11_regiment_39 : decode cX11_regiment 39 = .ok (.getfield 360, 3) := by decide +kernel
theorem dX11_regiment_42 : decode cX11_regiment 42 = .ok (.putfield 87, 3) := by decide +kernel
theorem dX11_regiment_45 : decode cX11_regiment 45 = .ok (.aload_n 0, 1) := by decide +kernel
theorem dX11_regiment_46 : decode cX11_regiment 46 = .ok (.aload_n 0, 1) := by decide +kernel
theorem dX11_regiment_47 : decode cX11_regiment 47 = .ok (.getfield 366, 3) := by decide +kernel
theorem dX11_regiment_50 : decode cX11_regiment 50 = .ok (.putfield 90, 3) := by decide +kernel
theorem dX11_regiment_53 : decode cX11_regiment 53 = .ok (.aload_n 0, 1) := by decide +kernel
theorem dX11_regiment_54 : decode cX11_regiment 54 = .ok (.aload_n 0, 1) := by decide +kernel
theorem dX11_regiment_55 : decode cX11_regiment 55 = .ok (.getfield 372, 3) := by decide +kernel
theorem dX11_regiment_58 : decode cX11_regiment 58 = .ok (.putfield 393, 3) := by decide +kernel
theorem dX11_regiment_61 : decode cX11_regiment 61 = .ok (.aload_n 0, 1) := by decide +kernel
theorem dX11_regiment_62 : decode cX11_regiment 62 = .ok (.aload_n 0, 1) := by decide +kernel
theorem dX11_regiment_63 : decode cX11_regiment 63 = .ok (.getfield 269, 3) := by decide +kernel
theorem dX11_regiment_66 : decode cX11_regiment 66 = .ok (.putfield 396, 3) := by decide +kernel
theorem dX11_regiment_69 : decode cX11_regiment 69 = .ok (.aload_n 0, 1) := by decide +kernel
theorem dX11_regiment_70 : decode cX11_regiment 70 = .ok (.aload_n 0, 1) := by decide +kernel
theorem dX11_regiment_71 : decode cX11_regiment 71 = .ok (.getfield 291, 3) := by decide +kernel
theorem dX11_regiment_74 : decode cX11_regiment 74 = .ok (.putfield 317, 3) := by decide +kernel
theorem dX11_regiment_77 : decode cX11_regiment 77 = .ok (.aload_n 0, 1) := by decide +kernel
theorem dX11_regiment_78 : decode cX11_regiment 78 = .ok (.aload_n 0, 1) := by decide +kernel
theorem dX11_regiment_79 : decode cX11_regiment 79 = .ok (.getfield 291, 3) := by decide +kernel
theorem dX11_regiment_82 : decode cX11_regiment 82 = .ok (.ifCond .eq 10, 3) := by decide +kernel
theorem dX11_regiment_85 : decode cX11_regiment 85 = .ok (.aload_n 0, 1) := by decide +kernel
theorem dX11_regiment_86 : decode cX11_regiment 86 = .ok (.getfield 253, 3) := by decide +kernel
theorem dX11_regiment_89 : decode cX11_regiment 89 = .ok (.goto 4, 3) := by decide +kernel
theorem dX11_regiment_92 : decode cX11_regiment 92 = .ok (.iconst 0, 1) := by decide +kernel
theorem dX11_regiment_93 : decode cX11_regiment 93 = .ok (.putfield 323, 3) := by decide +kernel
theorem dX11_regiment_96 : decode cX11_regiment 96 = .ok (.iconst 0, 1) := by decide +kernel
theorem dX11_regiment_97 : decode cX11_regiment 97 = .ok (.istore_n 1, 1) := by decide +kernel
theorem dX11_regiment_98 : decode cX11_regiment 98 = .ok (.iload_n 1, 1) := by decide +kernel
theorem dX11_regiment_99 : decode cX11_regiment 99 = .ok (.aload_n 0, 1) := by decide +kernel
theorem dX11_regiment_100 : decode cX11_regiment 100 = .ok (.getfield 323, 3) := by decide +kernel
theorem dX11_regiment_103 : decode cX11_regiment 103 = .ok (.if_icmp .ge 33, 3) := by decide +kernel
theorem dX11_regiment_106 : decode cX11_regiment 106 = .ok (.aload_n 0, 1) := by decide +kernel
theorem dX11_regiment_107 : decode cX11_regiment 107 = .ok (.getfield 27, 3) := by decide +kernel
theorem dX11_regiment_110 : decode cX11_regiment 110 = .ok (.iload_n 1, 1) := by decide +kernel
theorem dX11_regiment_111 : decode cX11_regiment 111 = .ok (.aload_n 0, 1) := by decide +kernel
theorem dX11_regiment_112 : decode cX11_regiment 112 = .ok (.getfield 21, 3) := by decide +kernel
theorem dX11_regiment_115 : decode cX11_regiment 115 = .ok (.iload_n 1, 1) := by decide +kernel
theorem dX11_regiment_116 : decode cX11_regiment 116 = .ok (.iaload, 1) := by decide +kernel
theorem dX11_regiment_117 : decode cX11_regiment 117 = .ok (.iastore, 1) := by decide +kernel
theorem dX11_regiment_118 : decode cX11_regiment 118 = .ok (.aload_n 0, 1) := by decide +kernel
theorem dX11_regiment_119 : decode cX11_regiment 119 = .ok (.getfield 30, 3) := by decide +kernel
theorem dX11_regiment_122 : decode cX11_regiment 122 = .ok (.iload_n 1, 1) := by decide +kernel
theorem dX11_regiment_123 : decode cX11_regiment 123 = .ok (.aload_n 0, 1) := by decide +kernel
theorem dX11_regiment_124 : decode cX11_regiment 124 = .ok (.getfield 24, 3) := by decide +kernel
theorem dX11_regiment_127 : decode cX11_regiment 127 = .ok (.iload_n 1, 1) := by decide +kernel
theorem dX11_regiment_128 : decode cX11_regiment 128 = .ok (.iaload, 1) := by decide +kernel
theorem dX11_regiment_129 : decode cX11_regiment 129 = .ok (.iastore, 1) := by decide +kernel
theorem dX11_regiment_130 : decode cX11_regiment 130 = .ok (.iinc 1 1, 3) := by decide +kernel
theorem dX11_regiment_133 : decode cX11_regiment 133 = .ok (.goto (-35), 3) := by decide +kernel
theorem dX11_regiment_136 : decode cX11_regiment 136 = .ok (.iconst 0, 1) := by decide +kernel
theorem dX11_regiment_137 : decode cX11_regiment 137 = .ok (.istore_n 1, 1) := by decide +kernel
theorem dX11_regiment_138 : decode cX11_regiment 138 = .ok (.iload_n 1, 1) := by decide +kernel
theorem dX11_regiment_139 : decode cX11_regiment 139 = .ok (.aload_n 0, 1) := by decide +kernel
theorem dX11_regiment_140 : decode cX11_regiment 140 = .ok (.getfield 387, 3) := by decide +kernel
theorem dX11_regiment_143 : decode cX11_regiment 143 = .ok (.if_icmp .ge 45, 3) := by decide +kernel
theorem dX11_regiment_146 : decode cX11_regiment 146 = .ok (.aload_n 0, 1) := by decide +kernel
theorem dX11_regiment_147 : decode cX11_regiment 147 = .ok (.getfield 63, 3) := by decide +kernel
theorem dX11_regiment_150 : decode cX11_regiment 150 = .ok (.iload_n 1, 1) := by decide +kernel
theorem dX11_regiment_151 : decode cX11_regiment 151 = .ok (.aload_n 0, 1) := by decide +kernel
theorem dX11_regiment_152 : decode cX11_regiment 152 = .ok (.getfield 42, 3) := by decide +kernel
theorem dX11_regiment_155 : decode cX11_regiment 155 = .ok (.iload_n 1, 1) := by decide +kernel
theorem dX11_regiment_156 : decode cX11_regiment 156 = .ok (.iaload, 1) := by decide +kernel
theorem dX11_regiment_157 : decode cX11_regiment 157 = .ok (.iastore, 1) := by decide +kernel
theorem dX11_regiment_158 : decode cX11_regiment 158 = .ok (.aload_n 0, 1) := by decide +kernel
theorem dX11_regiment_159 : decode cX11_regiment 159 = .ok (.getfield 66, 3) := by decide +kernel
theorem dX11_regiment_162 : decode cX11_regiment 162 = .ok (.iload_n 1, 1) := by decide +kernel
theorem dX11_regiment_163 : decode cX11_regiment 163 = .ok (.aload_n 0, 1) := by decide +kernel
theorem dX11_regiment_164 : decode cX11_regiment 164 = .ok (.getfield 45, 3) := by decide +kernel
theorem dX11_regiment_167 : decode cX11_regiment 167 = .ok (.iload_n 1, 1) := by decide +kernel
theorem dX11_regiment_168 : decode cX11_regiment 168 = .ok (.iaload, 1) := by decide +kernel
theorem dX11_regiment_169 : decode cX11_regiment 169 = .ok (.iastore, 1) := by decide +kernel
theorem dX11_regiment_170 : decode cX11_regiment 170 = .ok (.aload_n 0, 1) := by decide +kernel
theorem dX11_regiment_171 : decode cX11_regiment 171 = .ok (.getfield 69, 3) := by decide +kernel
theorem dX11_regiment_174 : decode cX11_regiment 174 = .ok (.iload_n 1, 1) := by decide +kernel
theorem dX11_regiment_175 : decode cX11_regiment 175 = .ok (.aload_n 0, 1) := by decide +kernel
theorem dX11_regiment_176 : decode cX11_regiment 176 = .ok (.getfield 48, 3) := by decide +kernel
theorem dX11_regiment_179 : decode cX11_regiment 179 = .ok (.iload_n 1, 1) := by decide +kernel
theorem dX11_regiment_180 : decode cX11_regiment 180 = .ok (.iaload, 1) := by decide +kernel
theorem dX11_regiment_181 : decode cX11_regiment 181 = .ok (.iastore, 1) := by decide +kernel
theorem dX11_regiment_182 : decode cX11_regiment 182 = .ok (.iinc 1 1, 3) := by decide +kernel
theorem dX11_regiment_185 : decode cX11_regiment 185 = .ok (.goto (-47), 3) := by decide +kernel
theorem dX11_regiment_188 : decode cX11_regiment 188 = .ok (.iconst 0, 1) := by decide +kernel
theorem dX11_regiment_189 : decode cX11_regiment 189 = .ok (.istore_n 1, 1) := by decide +kernel
theorem dX11_regiment_190 : decode cX11_regiment 190 = .ok (.iload_n 1, 1) := by decide +kernel
theorem dX11_regiment_191 : decode cX11_regiment 191 = .ok (.aload_n 0, 1) := by decide +kernel
theorem dX11_regiment_192 : decode cX11_regiment 192 = .ok (.getfield 390, 3) := by decide +kernel
theorem dX11_regiment_195 : decode cX11_regiment 195 = .ok (.if_icmp .ge 57, 3) := by decide +kernel
theorem dX11_regiment_198 : decode cX11_regiment 198 = .ok (.aload_n 0, 1) := by decide +kernel
theorem dX11_regiment_199 : decode cX11_regiment 199 = .ok (.getfield 72, 3) := by decide +kernel
theorem dX11_regiment_202 : decode cX11_regiment 202 = .ok (.iload_n 1, 1) := by decide +kernel
theorem dX11_regiment_203 : decode cX11_regiment 203 = .ok (.aload_n 0, 1) := by decide +kernel
theorem dX11_regiment_204 : decode cX11_regiment 204 = .ok (.getfield 51, 3) := by decide +kernel
theorem dX11_regiment_207 : decode cX11_regiment 207 = .ok (.iload_n 1, 1) := by decide +kernel
theorem dX11_regiment_208 : decode cX11_regiment 208 = .ok (.iaload, 1) := by decide +kernel
theorem dX11_regiment_209 : decode cX11_regiment 209 = .ok (.iastore, 1) := by decide +kernel
theorem dX11_regiment_210 : decode cX11_regiment 210 = .ok (.aload_n 0, 1) := by decide +kernel
theorem dX11_regiment_211 : decode cX11_regiment 211 = .ok (.getfield 75, 3) := by decide +kernel
theorem dX11_regiment_214 : decode cX11_regiment 214 = .ok (.iload_n 1, 1) := by decide +kernel
theorem dX11_regiment_215 : decode cX11_regiment 215 = .ok (.aload_n 0, 1) := by decide +kernel
theorem dX11_regiment_216 : decode cX11_regiment 216 = .ok (.getfield 54, 3) := by decide +kernel
theorem dX11_regiment_219 : decode cX11_regiment 219 = .ok (.iload_n 1, 1) := by decide +kernel
theorem dX11_regiment_220 : decode cX11_regiment 220 = .ok (.iaload, 1) := by decide +kernel
theorem dX11_regiment_221 : decode cX11_regiment 221 = .ok (.iastore, 1) := by decide +kernel
theorem dX11_regiment_222 : decode cX11_regiment 222 = .ok (.aload_n 0, 1) := by decide +kernel
theorem dX11_regiment_223 : decode cX11_regiment 223 = .ok (.getfield 78, 3) := by decide +kernel
theorem dX11_regiment_226 : decode cX11_regiment 226 = .ok (.iload_n 1, 1) := by decide +kernel
theorem dX11_regiment_227 : decode cX11_regiment 227 = .ok (.aload_n 0, 1) := by decide +kernel
theorem dX11_regiment_228 : decode cX11_regiment 228 = .ok (.getfield 57, 3) := by decide +kernel
theorem dX11_regiment_231 : decode cX11_regiment 231 = .ok (.iload_n 1, 1) := by decide +kernel
theorem dX11_regiment_232 : decode cX11_regiment 232 = .ok (.iaload, 1) := by decide +kernel
theorem dX11_regiment_233 : decode cX11_regiment 233 = .ok (.iastore, 1) := by decide +kernel
theorem dX11_regiment_234 : decode cX11_regiment 234 = .ok (.aload_n 0, 1) := by decide +kernel
theorem dX11_regiment_235 : decode cX11_regiment 235 = .ok (.getfield 81, 3) := by decide +kernel
theorem dX11_regiment_238 : decode cX11_regiment 238 = .ok (.iload_n 1, 1) := by decide +kernel
theorem dX11_regiment_239 : decode cX11_regiment 239 = .ok (.aload_n 0, 1) := by decide +kernel
theorem dX11_regiment_240 : decode cX11_regiment 240 = .ok (.getfield 60, 3) := by decide +kernel
theorem dX11_regiment_243 : decode cX11_regiment 243 = .ok (.iload_n 1, 1) := by decide +kernel
theorem dX11_regiment_244 : decode cX11_regiment 244 = .ok (.iaload, 1) := by decide +kernel
theorem dX11_regiment_245 : decode cX11_regiment 245 = .ok (.iastore, 1) := by decide +kernel
theorem dX11_regiment_246 : decode cX11_regiment 246 = .ok (.iinc 1 1, 3) := by decide +kernel
theorem dX11_regiment_249 : decode cX11_regiment 249 = .ok (.goto (-59), 3) := by decide +kernel
theorem dX11_regiment_252 : decode cX11_regiment 252 = .ok (.aload_n 0, 1) := by decide +kernel
theorem dX11_regiment_253 : decode cX11_regiment 253 = .ok (.invokevirtual 399, 3) := by decide +kernel
theorem dX11_regiment_256 : decode cX11_regiment 256 = .ok (.aload_n 0, 1) := by decide +kernel
theorem dX11_regiment_257 : decode cX11_regiment 257 = .ok (.getfield 96, 3) := by decide +kernel
theorem dX11_regiment_260 : decode cX11_regiment 260 = .ok (.bipush 38, 2) := by decide +kernel
theorem dX11_regiment_262 : decode cX11_regiment 262 = .ok (.aload_n 0, 1) := by decide +kernel
theorem dX11_regiment_263 : decode cX11_regiment 263 = .ok (.getfield 378, 3) := by decide +kernel
theorem dX11_regiment_266 : decode cX11_regiment 266 = .ok (.iastore, 1) := by decide +kernel
theorem dX11_regiment_267 : decode cX11_regiment 267 = .ok (.aload_n 0, 1) := by decide +kernel
theorem dX11_regiment_268 : decode cX11_regiment 268 = .ok (.invokevirtual 402, 3) := by decide +kernel
theorem dX11_regiment_271 : decode cX11_regiment 271 = .ok (.aload_n 0, 1) := by decide +kernel
theorem dX11_regiment_272 : decode cX11_regiment 272 = .ok (.iconst 0, 1) := by decide +kernel
theorem dX11_regiment_273 : decode cX11_regiment 273 = .ok (.putfield 405, 3) := by decide +kernel
theorem dX11_regiment_276 : decode cX11_regiment 276 = .ok (.aload_n 0, 1) := by decide +kernel
theorem dX11_regiment_277 : decode cX11_regiment 277 = .ok (.iconst 0, 1) := by decide +kernel
theorem dX11_regiment_278 : decode cX11_regiment 278 = .ok (.putfield 408, 3) := by decide +kernel
theorem dX11_regiment_281 : decode cX11_regiment 281 = .ok (.aload_n 0, 1) := by decide +kernel
theorem dX11_regiment_282 : decode cX11_regiment 282 = .ok (.iconst 0, 1) := by decide +kernel
theorem dX11_regiment_283 : decode cX11_regiment 283 = .ok (.putfield 411, 3) := by decide +kernel
theorem dX11_regiment_286 : decode cX11_regiment 286 = .ok (.aload_n 0, 1) := by decide +kernel
theorem dX11_regiment_287 : decode cX11_regiment 287 = .ok (.iconst 0, 1) := by decide +kernel
theorem dX11_regiment_288 : decode cX11_regiment 288 = .ok (.putfield 414, 3) := by decide +kernel
theorem dX11_regiment_291 : decode cX11_regiment 291 = .ok (.iconst 0, 1) := by decide +kernel
theorem dX11_regiment_292 : decode cX11_regiment 292 = .ok (.istore_n 1, 1) := by decide +kernel
theorem dX11_regiment_293 : decode cX11_regiment 293 = .ok (.iload_n 1, 1) := by decide +kernel
theorem dX11_regiment_294 : decode cX11_regiment 294 = .ok (.iconst 3, 1) := by decide +kernel
theorem dX11_regiment_295 : decode cX11_regiment 295 = .ok (.if_icmp .ge 16, 3) := by decide +kernel
theorem dX11_regiment_298 : decode cX11_regiment 298 = .ok (.aload_n 0, 1) := by decide +kernel
theorem dX11_regiment_299 : decode cX11_regiment 299 = .ok (.getfield 133, 3) := by decide +kernel
theorem dX11_regiment_302 : decode cX11_regiment 302 = .ok (.iload_n 1, 1) := by decide +kernel
theorem dX11_regiment_303 : decode cX11_regiment 303 = .ok (.iconst 0, 1) := by decide +kernel
theorem dX11_regiment_304 : decode cX11_regiment 304 = .ok (.bastore, 1) := by decide +kernel
theorem dX11_regiment_305 : decode cX11_regiment 305 = .ok (.iinc 1 1, 3) := by decide +kernel
theorem dX11_regiment_308 : decode cX11_regiment 308 = .ok (.goto (-15), 3) := by decide +kernel
theorem dX11_regiment_311 : decode cX11_regiment 311 = .ok (.aload_n 0, 1) := by decide +kernel
theorem dX11_regiment_312 : decode cX11_regiment 312 = .ok (.getfield 387, 3) := by decide +kernel
theorem dX11_regiment_315 : decode cX11_regiment 315 = .ok (.ireturn, 1) := by decide +kernel
theorem dX11_rota_0 : decode cX11_rota 0 = .ok (.iload_n 1, 1) := by decide +kernel
theorem dX11_rota_1 : decode cX11_rota 1 = .ok (.iconst 0, 1) := by decide +kernel
theorem dX11_rota_2 : decode cX11_rota 2 = .ok (.iconst 1, 1) := by decide +kernel
theorem dX11_rota_3 : decode cX11_rota 3 = .ok (.invokestatic 417, 3) := by decide +kernel
theorem dX11_rota_6 : decode cX11_rota 6 = .ok (.ifCond .eq 10, 3) := by decide +kernel
theorem dX11_rota_9 : decode cX11_rota 9 = .ok (.aload_n 0, 1) := by decide +kernel
theorem dX11_rota_10 : decode cX11_rota 10 = .ok (.getfield 387, 3) := by decide +kernel
theorem dX11_rota_13 : decode cX11_rota 13 = .ok (.ifCond .ne 5, 3) := by decide +kernel
theorem dX11_rota_16 : decode cX11_rota 16 = .ok (.iconst (-1), 1) := by decide +kernel
theorem dX11_rota_17 : decode cX11_rota 17 = .ok (.ireturn, 1) := by decide +kernel
theorem dX11_rota_18 : decode cX11_rota 18 = .ok (.iconst 0, 1) := by decide +kernel
theorem dX11_rota_19 : decode cX11_rota 19 = .ok (.istore_n 2, 1) := by decide +kernel
theorem dX11_rota_20 : decode cX11_rota 20 = .ok (.iconst (-1), 1) := by decide +kernel
theorem dX11_rota_21 : decode cX11_rota 21 = .ok (.istore_n 3, 1) := by decide +kernel
theorem dX11_rota_22 : decode cX11_rota 22 = .ok (.iconst 0, 1) := by decide +kernel
theorem dX11_rota_23 : decode cX11_rota 23 = .ok (.istore 4, 2) := by decide +kernel
theorem dX11_rota_25 : decode cX11_rota 25 = .ok (.iload 4, 2) := by decide +kernel
theorem dX11_rota_27 : decode cX11_rota 27 = .ok (.aload_n 0, 1) := by decide +kernel
theorem dX11_rota_28 : decode cX11_rota 28 = .ok (.getfield 387, 3) := by decide +kernel
theorem dX11_rota_31 : decode cX11_rota 31 = .ok (.if_icmp .ge 83, 3) := by decide +kernel
theorem dX11_rota_34 : decode cX11_rota 34 = .ok (.aload_n 0, 1) := by decide +kernel
theorem dX11_rota_35 : decode cX11_rota 35 = .ok (.invokevirtual 449, 3) := by decide +kernel
theorem dX11_rota_38 : decode cX11_rota 38 = .ok (.iconst 0, 1) := by decide +kernel
theorem dX11_rota_39 : decode cX11_rota 39 = .ok (.istore 5, 2) := by decide +kernel
theorem dX11_rota_41 : decode cX11_rota 41 = .ok (.iload 5, 2) := by decide +kernel
theorem dX11_rota_43 : decode cX11_rota 43 = .ok (.aload_n 0, 1) := by decide +kernel
theorem dX11_rota_44 : decode cX11_rota 44 = .ok (.getfield 387, 3) := by decide +kernel
theorem dX11_rota_47 : decode cX11_rota 47 = .ok (.if_icmp .ge 37, 3) := by decide +kernel
theorem dX11_rota_50 : decode cX11_rota 50 = .ok (.aload_n 0, 1) := by decide +kernel
theorem dX11_rota_51 : decode cX11_rota 51 = .ok (.getfield 96, 3) := by decide +kernel
theorem dX11_rota_54 : decode cX11_rota 54 = .ok (.bipush 6, 2) := by decide +kernel
theorem dX11_rota_56 : decode cX11_rota 56 = .ok (.iload 5, 2) := by decide +kernel
theorem dX11_rota_58 : decode cX11_rota 58 = .ok (.iadd, 1) := by decide +kernel
theorem dX11_rota_59 : decode cX11_rota 59 = .ok (.aload_n 0, 1) := by decide +kernel
theorem dX11_rota_60 : decode cX11_rota 60 = .ok (.getfield 93, 3) := by decide +kernel
theorem dX11_rota_63 : decode cX11_rota 63 = .ok (.bipush 6, 2) := by decide +kernel
theorem dX11_rota_65 : decode cX11_rota 65 = .ok (.iload 5, 2) := by decide +kernel
theorem dX11_rota_67 : decode cX11_rota 67 = .ok (.iload 4, 2) := by decide +kernel
theorem dX11_rota_69 : decode cX11_rota 69 = .ok (.iadd, 1) := by decide +kernel
theorem dX11_rota_70 : decode cX11_rota 70 = .ok (.aload_n 0, 1) := by decide +kernel
theorem dX11_rota_71 : decode cX11_rota 71 = .ok (.getfield 387, 3) := by decide +kernel
theorem dX11_rota_74 : decode cX11_rota 74 = .ok (.irem, 1) := by decide +kernel
theorem dX11_rota_75 : decode cX11_rota 75 = .ok (.iadd, 1) := by decide +kernel
theorem dX11_rota_76 : decode cX11_rota 76 = .ok (.iaload, 1) := by decide +kernel
theorem dX11_rota_77 : decode cX11_rota 77 = .ok (.iastore, 1) := by decide +kernel
theorem dX11_rota_78 : decode cX11_rota 78 = .ok (.iinc 5 1, 3) := by decide +kernel
theorem dX11_rota_81 : decode cX11_rota 81 = .ok (.goto (-40), 3) := by decide +kernel
theorem dX11_rota_84 : decode cX11_rota 84 = .ok (.aload_n 0, 1) := by decide +kernel
theorem dX11_rota_85 : decode cX11_rota 85 = .ok (.invokevirtual 443, 3) := by decide +kernel
theorem dX11_rota_88 : decode cX11_rota 88 = .ok (.invokestatic 486, 3) := by decide +kernel
theorem dX11_rota_91 : decode cX11_rota 91 = .ok (.istore 5, 2) := by decide +kernel
theorem dX11_rota_93 : decode cX11_rota 93 = .ok (.iload 5, 2) := by decide +kernel
theorem dX11_rota_95 : decode cX11_rota 95 = .ok (.iload_n 3, 1) := by decide +kernel
theorem dX11_rota_96 : decode cX11_rota 96 = .ok (.if_icmp .gt 6, 3) := by decide +kernel
theorem dX11_rota_99 : decode cX11_rota 99 = .ok (.goto 9, 3) := by decide +kernel
theorem dX11_rota_102 : decode cX11_rota 102 = .ok (.iload 4, 2) := by decide +kernel
theorem dX11_rota_104 : decode cX11_rota 104 = .ok (.istore_n 2, 1) := by decide +kernel
theorem dX11_rota_105 : decode cX11_rota 105 = .ok (.iload 5, 2) := by decide +kernel
theorem dX11_rota_107 : decode cX11_rota 107 = .ok (.istore_n 3, 1) := by decide +kernel
theorem dX11_rota_108 : decode cX11_rota 108 = .ok (.iinc 4 1, 3) := by decide +kernel
theorem dX11_rota_111 : decode cX11_rota 111 = .ok (.goto (-86), 3) := by decide +kernel
theorem dX11_rota_114 : decode cX11_rota 114 = .ok (.iload_n 1, 1) := by decide +kernel
theorem dX11_rota_115 : decode cX11_rota 115 = .ok (.ifCond .ne 7, 3) := by decide +kernel
theorem dX11_rota_118 : decode cX11_rota 118 = .ok (.iload_n 2, 1) := by decide +kernel
theorem dX11_rota_119 : decode cX11_rota 119 = .ok (.goto 4, 3) := by decide +kernel
theorem dX11_rota_122 : decode cX11_rota 122 = .ok (.iload_n 3, 1) := by decide +kernel
theorem dX11_rota_123 : decode cX11_rota 123 = .ok (.ireturn, 1) := by decide +kernel
theorem dX11_rout_0 : decode cX11_rout 0 = .ok (.aload_n 0, 1) := by decide +kernel
theorem dX11_rout_1 : decode cX11_rout 1 = .ok (.invokevirtual 449, 3) := by decide +kernel
theorem dX11_rout_4 : decode cX11_rout 4 = .ok (.iconst 0, 1) := by decide +kernel
theorem dX11_rout_5 : decode cX11_rout 5 = .ok (.istore_n 1, 1) := by decide +kernel
theorem dX11_rout_6 : decode cX11_rout 6 = .ok (.iload_n 1, 1) := by decide +kernel
theorem dX11_rout_7 : decode cX11_rout 7 = .ok (.bipush 60, 2) := by decide +kernel
theorem dX11_rout_9 : decode cX11_rout 9 = .ok (.if_icmp .gt 24, 3) := by decide +kernel
theorem dX11_rout_12 : decode cX11_rout 12 = .ok (.aload_n 0, 1) := by decide +kernel
theorem dX11_rout_13 : decode cX11_rout 13 = .ok (.invokevirtual 440, 3) := by decide +kernel
theorem dX11_rout_16 : decode cX11_rout 16 = .ok (.ifCond .ne 5, 3) := by decide +kernel
theorem dX11_rout_19 : decode cX11_rout 19 = .ok (.iload_n 1, 1) := by decide +kernel
theorem dX11_rout_20 : decode cX11_rout 20 = .ok (.ireturn, 1) := by decide +kernel
theorem dX11_rout_21 : decode cX11_rout 21 = .ok (.aload_n 0, 1) := by decide +kernel
theorem dX11_rout_22 : decode cX11_rout 22 = .ok (.iconst 0, 1) := by decide +kernel
theorem dX11_rout_23 : decode cX11_rout 23 = .ok (.invokevirtual 464, 3) := by decide +kernel
theorem dX11_rout_26 : decode cX11_rout 26 = .ok (.pop, 1) := by decide +kernel
theorem dX11_rout_27 : decode cX11_rout 27 = .ok (.iinc 1 1, 3) := by decide +kernel
theorem dX11_rout_30 : decode cX11_rout 30 = .ok (.goto (-24), 3) := by decide +kernel
theorem dX11_rout_33 : decode cX11_rout 33 = .ok (.iconst (-1), 1) := by decide +kernel
theorem dX11_rout_34 : decode cX11_rout 34 = .ok (.ireturn, 1) := by decide +kernel
theorem dX11_rowOf_0 : decode cX11_rowOf 0 = .ok (.iconst 0, 1) := by decide +kernel
theorem dX11_rowOf_1 : decode cX11_rowOf 1 = .ok (.istore_n 2, 1) := by decide +kernel
theorem dX11_rowOf_2 : decode cX11_rowOf 2 = .ok (.iconst 0, 1) := by decide +kernel
theorem dX11_rowOf_3 : decode cX11_rowOf 3 = .ok (.istore_n 3, 1) := by decide +kernel
theorem dX11_rowOf_4 : decode cX11_rowOf 4 = .ok (.iconst 0, 1) := by decide +kernel
theorem dX11_rowOf_5 : decode cX11_rowOf 5 = .ok (.istore 4, 2) := by decide +kernel
theorem dX11_rowOf_7 : decode cX11_rowOf 7 = .ok (.iload 4, 2) := by decide +kernel
theorem dX11_rowOf_9 : decode cX11_rowOf 9 = .ok (.aload_n 0, 1) := by decide +kernel
theorem dX11_rowOf_10 : decode cX11_rowOf 10 = .ok (.getfield 390, 3) := by decide +kernel
theorem dX11_rowOf_13 : decode cX11_rowOf 13 = .ok (.if_icmp .ge 49, 3) := by decide +kernel
theorem dX11_rowOf_16 : decode cX11_rowOf 16 = .ok (.iload_n 1, 1) := by decide +kernel
theorem dX11_rowOf_17 : decode cX11_rowOf 17 = .ok (.iload 4, 2) := by decide +kernel
theorem dX11_rowOf_19 : decode cX11_rowOf 19 = .ok (.ishr, 1) := by decide +kernel
theorem dX11_rowOf_20 : decode cX11_rowOf 20 = .ok (.iconst 1, 1) := by decide +kernel
theorem dX11_rowOf_21 : decode cX11_rowOf 21 = .ok (.iand, 1) := by decide +kernel
theorem dX11_rowOf_22 : decode cX11_rowOf 22 = .ok (.ifCond .ne 6, 3) := by decide +kernel
theorem dX11_rowOf_25 : decode cX11_rowOf 25 = .ok (.goto 31, 3) := by decide +kernel
theorem dX11_rowOf_28 : decode cX11_rowOf 28 = .ok (.iload_n 2, 1) := by decide +kernel
theorem dX11_rowOf_29 : decode cX11_rowOf 29 = .ok (.aload_n 0, 1) := by decide +kernel
theorem dX11_rowOf_30 : decode cX11_rowOf 30 = .ok (.getfield 93, 3) := by decide +kernel
theorem dX11_rowOf_33 : decode cX11_rowOf 33 = .ok (.bipush 18, 2) := by decide +kernel
theorem dX11_rowOf_35 : decode cX11_rowOf 35 = .ok (.iload 4, 2) := by decide +kernel
theorem dX11_rowOf_37 : decode cX11_rowOf 37 = .ok (.iadd, 1) := by decide +kernel
theorem dX11_rowOf_38 : decode cX11_rowOf 38 = .ok (.iaload, 1) := by decide +kernel
theorem dX11_rowOf_39 : decode cX11_rowOf 39 = .ok (.iadd, 1) := by decide +kernel
theorem dX11_rowOf_40 : decode cX11_rowOf 40 = .ok (.istore_n 2, 1) := by decide +kernel
theorem dX11_rowOf_41 : decode cX11_rowOf 41 = .ok (.iload_n 3, 1) := by decide +kernel
theorem dX11_rowOf_42 : decode cX11_rowOf 42 = .ok (.aload_n 0, 1) := by decide +kernel
theorem dX11_rowOf_43 : decode cX11_rowOf 43 = .ok (.getfield 93, 3) := by decide +kernel
theorem dX11_rowOf_46 : decode cX11_rowOf 46 = .ok (.bipush 12, 2) := by decide +kernel
theorem dX11_rowOf_48 : decode cX11_rowOf 48 = .ok (.iload 4, 2) := by decide +kernel
theorem dX11_rowOf_50 : decode cX11_rowOf 50 = .ok (.iadd, 1) := by decide +kernel
theorem dX11_rowOf_51 : decode cX11_rowOf 51 = .ok (.iaload, 1) := by decide +kernel
theorem dX11_rowOf_52 : decode cX11_rowOf 52 = .ok (.invokestatic 437, 3) := by decide +kernel
theorem dX11_rowOf_55 : decode cX11_rowOf 55 = .ok (.istore_n 3, 1) := by decide +kernel
theorem dX11_rowOf_56 : decode cX11_rowOf 56 = .ok (.iinc 4 1, 3) := by decide +kernel
theorem dX11_rowOf_59 : decode cX11_rowOf 59 = .ok (.goto (-52), 3) := by decide +kernel
theorem dX11_rowOf_62 : decode cX11_rowOf 62 = .ok (.iload_n 2, 1) := by decide +kernel
theorem dX11_rowOf_63 : decode cX11_rowOf 63 = .ok (.aload_n 0, 1) := by decide +kernel
theorem dX11_rowOf_64 : decode cX11_rowOf 64 = .ok (.getfield 87, 3) := by decide +kernel
theorem dX11_rowOf_67 : decode cX11_rowOf 67 = .ok (.if_icmp .le 9, 3) := by decide +kernel
theorem dX11_rowOf_70 : decode cX11_rowOf 70 = .ok (.ldc_w 498, 3) := by decide +kernel
theorem dX11_rowOf_73 : decode cX11_rowOf 73 = .ok (.goto 4, 3) := by decide +kernel
theorem dX11_rowOf_76 : decode cX11_rowOf 76 = .ok (.iload_n 3, 1) := by decide +kernel
theorem dX11_rowOf_77 : decode cX11_rowOf 77 = .ok (.ireturn, 1) := by decide +kernel
theorem dX11_seen_0 : decode cX11_seen 0 = .ok (.iload_n 1, 1) := by decide +kernel
theorem dX11_seen_1 : decode cX11_seen 1 = .ok (.iconst 0, 1) := by decide +kernel
theorem dX11_seen_2 : decode cX11_seen 2 = .ok (.bipush 20, 2) := by decide +kernel
theorem dX11_seen_4 : decode cX11_seen 4 = .ok (.invokestatic 417, 3) := by decide +kernel
theorem dX11_seen_7 : decode cX11_seen 7 = .ok (.ifCond .eq 26, 3) := by decide +kernel
theorem dX11_seen_10 : decode cX11_seen 10 = .ok (.aload_n 0, 1) := by decide +kernel
theorem dX11_seen_11 : decode cX11_seen 11 = .ok (.getfield 387, 3) := by decide +kernel
theorem dX11_seen_14 : decode cX11_seen 14 = .ok (.ifCond .eq 19, 3) := by decide +kernel
theorem dX11_seen_17 : decode cX11_seen 17 = .ok (.aload_n 0, 1) := by decide +kernel
theorem dX11_seen_18 : decode cX11_seen 18 = .ok (.getfield 390, 3) := by decide +kernel
theorem dX11_seen_21 : decode cX11_seen 21 = .ok (.ifCond .eq 12, 3) := by decide +kernel
theorem dX11_seen_24 : decode cX11_seen 24 = .ok (.aload_n 0, 1) := by decide +kernel
theorem dX11_seen_25 : decode cX11_seen 25 = .ok (.getfield 411, 3) := by decide +kernel
theorem dX11_seen_28 : decode cX11_seen 28 = .ok (.bipush 30, 2) := by decide +kernel
theorem dX11_seen_30 : decode cX11_seen 30 = .ok (.if_icmp .ne 5, 3) := by decide +kernel
theorem dX11_seen_33 : decode cX11_seen 33 = .ok (.iconst (-1), 1) := by decide +kernel
theorem dX11_seen_34 : decode cX11_seen 34 = .ok (.ireturn, 1) := by decide +kernel
theorem dX11_seen_35 : decode cX11_seen 35 = .ok (.aload_n 0, 1) := by decide +kernel
theorem dX11_seen_36 : decode cX11_seen 36 = .ok (.getfield 114, 3) := by decide +kernel
theorem dX11_seen_39 : decode cX11_seen 39 = .ok (.aload_n 0, 1) := by decide +kernel
theorem dX11_seen_40 : decode cX11_seen 40 = .ok (.getfield 411, 3) := by decide +kernel
theorem dX11_seen_43 : decode cX11_seen 43 = .ok (.iload_n 1, 1) := by decide +kernel
theorem dX11_seen_44 : decode cX11_seen 44 = .ok (.iastore, 1) := by decide +kernel
theorem dX11_seen_45 : decode cX11_seen 45 = .ok (.aload_n 0, 1) := by decide +kernel
theorem dX11_seen_46 : decode cX11_seen 46 = .ok (.getfield 123, 3) := by decide +kernel
theorem dX11_seen_49 : decode cX11_seen 49 = .ok (.aload_n 0, 1) := by decide +kernel
theorem dX11_seen_50 : decode cX11_seen 50 = .ok (.getfield 411, 3) := by decide +kernel
theorem dX11_seen_53 : decode cX11_seen 53 = .ok (.iload_n 2, 1) := by decide +kernel
theorem dX11_seen_54 : decode cX11_seen 54 = .ok (.bastore, 1) := by decide +kernel
theorem dX11_seen_55 : decode cX11_seen 55 = .ok (.aload_n 0, 1) := by decide +kernel
theorem dX11_seen_56 : decode cX11_seen 56 = .ok (.getfield 117, 3) := by decide +kernel
theorem dX11_seen_59 : decode cX11_seen 59 = .ok (.aload_n 0, 1) := by decide +kernel
theorem dX11_seen_60 : decode cX11_seen 60 = .ok (.getfield 411, 3) := by decide +kernel
theorem dX11_seen_63 : decode cX11_seen 63 = .ok (.aload_n 0, 1) := by decide +kernel
theorem dX11_seen_64 : decode cX11_seen 64 = .ok (.getfield 527, 3) := by decide +kernel
theorem dX11_seen_67 : decode cX11_seen 67 = .ok (.iastore, 1) := by decide +kernel
theorem dX11_seen_68 : decode cX11_seen 68 = .ok (.aload_n 0, 1) := by decide +kernel
theorem dX11_seen_69 : decode cX11_seen 69 = .ok (.getfield 120, 3) := by decide +kernel
theorem dX11_seen_72 : decode cX11_seen 72 = .ok (.aload_n 0, 1) := by decide +kernel
theorem dX11_seen_73 : decode cX11_seen 73 = .ok (.getfield 411, 3) := by decide +kernel
theorem dX11_seen_76 : decode cX11_seen 76 = .ok (.iconst (-1), 1) := by decide +kernel
theorem dX11_seen_77 : decode cX11_seen 77 = .ok (.iastore, 1) := by decide +kernel
theorem dX11_seen_78 : decode cX11_seen 78 = .ok (.aload_n 0, 1) := by decide +kernel
theorem dX11_seen_79 : decode cX11_seen 79 = .ok (.dup, 1) := by decide +kernel
theorem dX11_seen_80 : decode cX11_seen 80 = .ok (.getfield 411, 3) := by decide +kernel
theorem dX11_seen_83 : decode cX11_seen 83 = .ok (.iconst 1, 1) := by decide +kernel
theorem dX11_seen_84 : decode cX11_seen 84 = .ok (.iadd, 1) := by decide +kernel
theorem dX11_seen_85 : decode cX11_seen 85 = .ok (.putfield 411, 3) := by decide +kernel
theorem dX11_seen_88 : decode cX11_seen 88 = .ok (.aload_n 0, 1) := by decide +kernel
theorem dX11_seen_89 : decode cX11_seen 89 = .ok (.getfield 411, 3) := by decide +kernel
theorem dX11_seen_92 : decode cX11_seen 92 = .ok (.iconst 1, 1) := by decide +kernel
theorem dX11_seen_93 : decode cX11_seen 93 = .ok (.isub, 1) := by decide +kernel
theorem dX11_seen_94 : decode cX11_seen 94 = .ok (.ireturn, 1) := by decide +kernel
theorem dX11_sewing_0 : decode cX11_sewing 0 = .ok (.aload_n 0, 1) := by decide +kernel
theorem dX11_sewing_1 : decode cX11_sewing 1 = .ok (.iload_n 1, 1) := by decide +kernel
theorem dX11_sewing_2 : decode cX11_sewing 2 = .ok (.invokevirtual 455, 3) := by decide +kernel
theorem dX11_sewing_5 : decode cX11_sewing 5 = .ok (.ifCond .eq 20, 3) := by decide +kernel
theorem dX11_sewing_8 : decode cX11_sewing 8 = .ok (.aload_n 0, 1) := by decide +kernel
theorem dX11_sewing_9 : decode cX11_sewing 9 = .ok (.iload_n 2, 1) := by decide +kernel
theorem dX11_sewing_10 : decode cX11_sewing 10 = .ok (.invokevirtual 446, 3) := by decide +kernel
theorem dX11_sewing_13 : decode cX11_sewing 13 = .ok (.ifCond .eq 12, 3) := by decide +kernel
theorem dX11_sewing_16 : decode cX11_sewing 16 = .ok (.iload_n 3, 1) := by decide +kernel
theorem dX11_sewing_17 : decode cX11_sewing 17 = .ok (.iconst 0, 1) := by decide +kernel
theorem dX11_sewing_18 : decode cX11_sewing 18 = .ok (.iconst 2, 1) := by decide +kernel
theorem dX11_sewing_19 : decode cX11_sewing 19 = .ok (.invokestatic 417, 3) := by decide +kernel
theorem dX11_sewing_22 : decode cX11_sewing 22 = .ok (.ifCond .ne 6, 3) := by decide +kernel
theorem dX11_sewing_25 : decode cX11_sewing 25 = .ok (.bipush (-100), 2) := by decide +kernel
theorem dX11_sewing_27 : decode cX11_sewing 27 = .ok (.ireturn, 1) := by decide +kernel
theorem dX11_sewing_28 : decode cX11_sewing 28 = .ok (.bipush 20, 2) := by decide +kernel
theorem dX11_sewing_30 : decode cX11_sewing 30 = .ok (.aload_n 0, 1) := by decide +kernel
theorem dX11_sewing_31 : decode cX11_sewing 31 = .ok (.getfield 93, 3) := by decide +kernel
theorem dX11_sewing_34 : decode cX11_sewing 34 = .ok (.bipush 12, 2) := by decide +kernel
theorem dX11_sewing_36 : decode cX11_sewing 36 = .ok (.iload_n 1, 1) := by decide +kernel
theorem dX11_sewing_37 : decode cX11_sewing 37 = .ok (.iadd, 1) := by decide +kernel
theorem dX11_sewing_38 : decode cX11_sewing 38 = .ok (.iaload, 1) := by decide +kernel
theorem dX11_sewing_39 : decode cX11_sewing 39 = .ok (.invokestatic 431, 3) := by decide +kernel
theorem dX11_sewing_42 : decode cX11_sewing 42 = .ok (.istore 4, 2) := by decide +kernel
theorem dX11_sewing_44 : decode cX11_sewing 44 = .ok (.bipush 20, 2) := by decide +kernel
theorem dX11_sewing_46 : decode cX11_sewing 46 = .ok (.aload_n 0, 1) := by decide +kernel
theorem dX11_sewing_47 : decode cX11_sewing 47 = .ok (.getfield 93, 3) := by decide +kernel
theorem dX11_sewing_50 : decode cX11_sewing 50 = .ok (.bipush 18, 2) := by decide +kernel
theorem dX11_sewing_52 : decode cX11_sewing 52 = .ok (.iload_n 1, 1) := by decide +kernel
theorem dX11_sewing_53 : decode cX11_sewing 53 = .ok (.iadd, 1) := by decide +kernel
theorem dX11_sewing_54 : decode cX11_sewing 54 = .ok (.iaload, 1) := by decide +kernel
theorem dX11_sewing_55 : decode cX11_sewing 55 = .ok (.invokestatic 431, 3) := by decide +kernel
theorem dX11_sewing_58 : decode cX11_sewing 58 = .ok (.istore 5, 2) := by decide +kernel
theorem dX11_sewing_60 : decode cX11_sewing 60 = .ok (.bipush 20, 2) := by decide +kernel
theorem dX11_sewing_62 : decode cX11_sewing 62 = .ok (.aload_n 0, 1) := by decide +kernel
theorem dX11_sewing_63 : decode cX11_sewing 63 = .ok (.getfield 93, 3) := by decide +kernel
theorem dX11_sewing_66 : decode cX11_sewing 66 = .ok (.bipush 24, 2) := by decide +kernel
theorem dX11_sewing_68 : decode cX11_sewing 68 = .ok (.iload_n 1, 1) := by decide +kernel
theorem dX11_sewing_69 : decode cX11_sewing 69 = .ok (.iadd, 1) := by decide +kernel
theorem dX11_sewing_70 : decode cX11_sewing 70 = .ok (.iaload, 1) := by decide +kernel
theorem dX11_sewing_71 : decode cX11_sewing 71 = .ok (.invokestatic 431, 3) := by decide +kernel
theorem dX11_sewing_74 : decode cX11_sewing 74 = .ok (.bipush 99, 2) := by decide +kernel
theorem dX11_sewing_76 : decode cX11_sewing 76 = .ok (.aload_n 0, 1) := by decide +kernel
theorem dX11_sewing_77 : decode cX11_sewing 77 = .ok (.getfield 93, 3) := by decide +kernel
theorem dX11_sewing_80 : decode cX11_sewing 80 = .ok (.bipush 18, 2) := by decide +kernel
theorem dX11_sewing_82 : decode cX11_sewing 82 = .ok (.iload_n 1, 1) := by decide +kernel
theorem dX11_sewing_83 : decode cX11_sewing 83 = .ok (.iadd, 1) := by decide +kernel
theorem dX11_sewing_84 : decode cX11_sewing 84 = .ok (.iaload, 1) := by decide +kernel
theorem dX11_sewing_85 : decode cX11_sewing 85 = .ok (.isub, 1) := by decide +kernel
theorem dX11_sewing_86 : decode cX11_sewing 86 = .ok (.invokestatic 431, 3) := by decide +kernel
theorem dX11_sewing_89 : decode cX11_sewing 89 = .ok (.istore 6, 2) := by decide +kernel
theorem dX11_sewing_91 : decode cX11_sewing 91 = .ok (.iconst 0, 1) := by decide +kernel
theorem dX11_sewing_92 : decode cX11_sewing 92 = .ok (.istore 7, 2) := by decide +kernel
theorem dX11_sewing_94 : decode cX11_sewing 94 = .ok (.iload 7, 2) := by decide +kernel
theorem dX11_sewing_96 : decode cX11_sewing 96 = .ok (.bipush 40, 2) := by decide +kernel
theorem dX11_sewing_98 : decode cX11_sewing 98 = .ok (.if_icmp .gt 128, 3) := by decide +kernel
theorem dX11_sewing_101 : decode cX11_sewing 101 = .ok (.iconst 0, 1) := by decide +kernel
theorem dX11_sewing_102 : decode cX11_sewing 102 = .ok (.istore 8, 2) := by decide +kernel
theorem dX11_sewing_104 : decode cX11_sewing 104 = .ok (.iload 8, 2) := by decide +kernel
theorem dX11_sewing_106 : decode cX11_sewing 106 = .ok (.iload 7, 2) := by decide +kernel
theorem dX11_sewing_108 : decode cX11_sewing 108 = .ok (.iload 4, 2) := by decide +kernel
theorem dX11_sewing_110 : decode cX11_sewing 110 = .ok (.invokestatic 431, 3) := by decide +kernel
theorem dX11_sewing_113 : decode cX11_sewing 113 = .ok (.if_icmp .gt 107, 3) := by decide +kernel
theorem dX11_sewing_116 : decode cX11_sewing 116 = .ok (.iload 7, 2) := by decide +kernel
theorem dX11_sewing_118 : decode cX11_sewing 118 = .ok (.iload 8, 2) := by decide +kernel
theorem dX11_sewing_120 : decode cX11_sewing 120 = .ok (.isub, 1) := by decide +kernel
theorem dX11_sewing_121 : decode cX11_sewing 121 = .ok (.istore 9, 2) := by decide +kernel
theorem dX11_sewing_123 : decode cX11_sewing 123 = .ok (.iload 9, 2) := by decide +kernel
theorem dX11_sewing_125 : decode cX11_sewing 125 = .ok (.iload 5, 2) := by decide +kernel
theorem dX11_sewing_127 : decode cX11_sewing 127 = .ok (.if_icmp .gt 38, 3) := by decide +kernel
theorem dX11_sewing_130 : decode cX11_sewing 130 = .ok (.aload_n 0, 1) := by decide +kernel
theorem dX11_sewing_131 : decode cX11_sewing 131 = .ok (.iload_n 1, 1) := by decide +kernel
theorem dX11_sewing_132 : decode cX11_sewing 132 = .ok (.iload_n 2, 1) := by decide +kernel
theorem dX11_sewing_133 : decode cX11_sewing 133 = .ok (.iload 8, 2) := by decide +kernel
theorem dX11_sewing_135 : decode cX11_sewing 135 = .ok (.iload 9, 2) := by decide +kernel
theorem dX11_sewing_137 : decode cX11_sewing 137 = .ok (.invokevirtual 482, 3) := by decide +kernel
theorem dX11_sewing_140 : decode cX11_sewing 140 = .ok (.ifCond .eq 25, 3) := by decide +kernel
theorem dX11_sewing_143 : decode cX11_sewing 143 = .ok (.iload_n 3, 1) := by decide +kernel
theorem dX11_sewing_144 : decode cX11_sewing 144 = .ok (.ifCond .ne 8, 3) := by decide +kernel
theorem dX11_sewing_147 : decode cX11_sewing 147 = .ok (.iload 7, 2) := by decide +kernel
theorem dX11_sewing_149 : decode cX11_sewing 149 = .ok (.goto 15, 3) := by decide +kernel
theorem dX11_sewing_152 : decode cX11_sewing 152 = .ok (.iload_n 3, 1) := by decide +kernel
theorem dX11_sewing_153 : decode cX11_sewing 153 = .ok (.iconst 1, 1) := by decide +kernel
theorem dX11_sewing_154 : decode cX11_sewing 154 = .ok (.if_icmp .ne 8, 3) := by decide +kernel
theorem dX11_sewing_157 : decode cX11_sewing 157 = .ok (.iload 8, 2) := by decide +kernel
theorem dX11_sewing_159 : decode cX11_sewing 159 = .ok (.goto 5, 3) := by decide +kernel
theorem dX11_sewing_162 : decode cX11_sewing 162 = .ok (.iload 9, 2) := by decide +kernel
theorem dX11_sewing_164 : decode cX11_sewing 164 = .ok (.ireturn, 1) := by decide +kernel
theorem dX11_sewing_165 : decode cX11_sewing 165 = .ok (.iload 9, 2) := by decide +kernel
theorem dX11_sewing_167 : decode cX11_sewing 167 = .ok (.ifCond .le 47, 3) := by decide +kernel
theorem dX11_sewing_170 : decode cX11_sewing 170 = .ok (.iload 9, 2) := by decide +kernel
theorem dX11_sewing_172 : decode cX11_sewing 172 = .ok (.iload 6, 2) := by decide +kernel
theorem dX11_sewing_174 : decode cX11_sewing 174 = .ok (.if_icmp .gt 40, 3) := by decide +kernel
theorem dX11_sewing_177 : decode cX11_sewing 177 = .ok (.aload_n 0, 1) := by decide +kernel
theorem dX11_sewing_178 : decode cX11_sewing 178 = .ok (.iload_n 1, 1) := by decide +kernel
theorem dX11_sewing_179 : decode cX11_sewing 179 = .ok (.iload_n 2, 1) := by decide +kernel
theorem dX11_sewing_180 : decode cX11_sewing 180 = .ok (.iload 8, 2) := by decide +kernel
theorem dX11_sewing_182 : decode cX11_sewing 182 = .ok (.iload 9, 2) := by decide +kernel
theorem dX11_sewing_184 : decode cX11_sewing 184 = .ok (.ineg, 1) := by decide +kernel
theorem dX11_sewing_185 : decode cX11_sewing 185 = .ok (.invokevirtual 482, 3) := by decide +kernel
theorem dX11_sewing_188 : decode cX11_sewing 188 = .ok (.ifCond .eq 26, 3) := by decide +kernel
theorem dX11_sewing_191 : decode cX11_sewing 191 = .ok (.iload_n 3, 1) := by decide +kernel
theorem dX11_sewing_192 : decode cX11_sewing 192 = .ok (.ifCond .ne 8, 3) := by decide +kernel
theorem dX11_sewing_195 : decode cX11_sewing 195 = .ok (.iload 7, 2) := by decide +kernel
theorem dX11_sewing_197 : decode cX11_sewing 197 = .ok (.goto 16, 3) := by decide +kernel
theorem dX11_sewing_200 : decode cX11_sewing 200 = .ok (.iload_n 3, 1) := by decide +kernel
theorem dX11_sewing_201 : decode cX11_sewing 201 = .ok (.iconst 1, 1) := by decide +kernel
theorem dX11_sewing_202 : decode cX11_sewing 202 = .ok (.if_icmp .ne 8, 3) := by decide +kernel
theorem dX11_sewing_205 : decode cX11_sewing 205 = .ok (.iload 8, 2) := by decide +kernel
theorem dX11_sewing_207 : decode cX11_sewing 207 = .ok (.goto 6, 3) := by decide +kernel
theorem dX11_sewing_210 : decode cX11_sewing 210 = .ok (.iload 9, 2) := by decide +kernel
theorem dX11_sewing_212 : decode cX11_sewing 212 = .ok (.ineg, 1) := by decide +kernel
theorem dX11_sewing_213 : decode cX11_sewing 213 = .ok (.ireturn, 1) := by decide +kernel
theorem dX11_sewing_214 : decode cX11_sewing 214 = .ok (.iinc 8 1, 3) := by decide +kernel
theorem dX11_sewing_217 : decode cX11_sewing 217 = .ok (.goto (-113), 3) := by decide +kernel
theorem dX11_sewing_220 : decode cX11_sewing 220 = .ok (.iinc 7 1, 3) := by decide +kernel
theorem dX11_sewing_223 : decode cX11_sewing 223 = .ok (.goto (-129), 3) := by decide +kernel
theorem dX11_sewing_226 : decode cX11_sewing 226 = .ok (.bipush (-100), 2) := by decide +kernel
theorem dX11_sewing_228 : decode cX11_sewing 228 = .ok (.ireturn, 1) := by decide +kernel
theorem dX11_sign_0 : decode cX11_sign 0 = .ok (.aload_n 0, 1) := by decide +kernel
theorem dX11_sign_1 : decode cX11_sign 1 = .ok (.ldc2_w 218, 3) := by decide +kernel
theorem dX11_sign_4 : decode cX11_sign 4 = .ok (.invokevirtual 228, 3) := by decide +kernel
theorem dX11_sign_7 : decode cX11_sign 7 = .ok (.ifCond .eq 6, 3) := by decide +kernel
theorem dX11_sign_10 : decode cX11_sign 10 = .ok (.bipush 38, 2) := by decide +kernel
theorem dX11_sign_12 : decode cX11_sign 12 = .ok (.ireturn, 1) := by decide +kernel
theorem dX11_sign_13 : decode cX11_sign 13 = .ok (.aload_n 0, 1) := by decide +kernel
theorem dX11_sign_14 : decode cX11_sign 14 = .ok (.ldc2_w 220, 3) := by decide +kernel
theorem dX11_sign_17 : decode cX11_sign 17 = .ok (.invokevirtual 228, 3) := by decide +kernel
theorem dX11_sign_20 : decode cX11_sign 20 = .ok (.ifCond .eq 6, 3) := by decide +kernel
theorem dX11_sign_23 : decode cX11_sign 23 = .ok (.bipush 124, 2) := by decide +kernel
theorem dX11_sign_25 : decode cX11_sign 25 = .ok (.ireturn, 1) := by decide +kernel
theorem dX11_sign_26 : decode cX11_sign 26 = .ok (.aload_n 0, 1) := by decide +kernel
theorem dX11_sign_27 : decode cX11_sign 27 = .ok (.getfield 166, 3) := by decide +kernel
theorem dX11_sign_30 : decode cX11_sign 30 = .ok (.bipush 60, 2) := by decide +kernel
theorem dX11_sign_32 : decode cX11_sign 32 = .ok (.if_icmp .eq 66, 3) := by decide +kernel
theorem dX11_sign_35 : decode cX11_sign 35 = .ok (.aload_n 0, 1) := by decide +kernel
theorem dX11_sign_36 : decode cX11_sign 36 = .ok (.getfield 166, 3) := by decide +kernel
theorem dX11_sign_39 : decode cX11_sign 39 = .ok (.bipush 62, 2) := by decide +kernel
theorem dX11_sign_41 : decode cX11_sign 41 = .ok (.if_icmp .eq 57, 3) := by decide +kernel
theorem dX11_sign_44 : decode cX11_sign 44 = .ok (.aload_n 0, 1) := by decide +kernel
theorem dX11_sign_45 : decode cX11_sign 45 = .ok (.getfield 166, 3) := by decide +kernel
theorem dX11_sign_48 : decode cX11_sign 48 = .ok (.bipush 61, 2) := by decide +kernel
theorem dX11_sign_50 : decode cX11_sign 50 = .ok (.if_icmp .eq 48, 3) := by decide +kernel
theorem dX11_sign_53 : decode cX11_sign 53 = .ok (.aload_n 0, 1) := by decide +kernel
theorem dX11_sign_54 : decode cX11_sign 54 = .ok (.getfield 166, 3) := by decide +kernel
theorem dX11_sign_57 : decode cX11_sign 57 = .ok (.bipush 43, 2) := by decide +kernel
theorem dX11_sign_59 : decode cX11_sign 59 = .ok (.if_icmp .eq 39, 3) := by decide +kernel
theorem dX11_sign_62 : decode cX11_sign 62 = .ok (.aload_n 0, 1) := by decide +kernel
theorem dX11_sign_63 : decode cX11_sign 63 = .ok (.getfield 166, 3) := by decide +kernel
theorem dX11_sign_66 : decode cX11_sign 66 = .ok (.bipush 45, 2) := by decide +kernel
theorem dX11_sign_68 : decode cX11_sign 68 = .ok (.if_icmp .eq 30, 3) := by decide +kernel
theorem dX11_sign_71 : decode cX11_sign 71 = .ok (.aload_n 0, 1) := by decide +kernel
theorem dX11_sign_72 : decode cX11_sign 72 = .ok (.getfield 166, 3) := by decide +kernel
theorem dX11_sign_75 : decode cX11_sign 75 = .ok (.bipush 42, 2) := by decide +kernel
theorem dX11_sign_77 : decode cX11_sign 77 = .ok (.if_icmp .eq 21, 3) := by decide +kernel
theorem dX11_sign_80 : decode cX11_sign 80 = .ok (.aload_n 0, 1) := by decide +kernel
theorem dX11_sign_81 : decode cX11_sign 81 = .ok (.getfield 166, 3) := by decide +kernel
theorem dX11_sign_84 : decode cX11_sign 84 = .ok (.bipush 47, 2) := by decide +kernel
theorem dX11_sign_86 : decode cX11_sign 86 = .ok (.if_icmp .eq 12, 3) := by decide +kernel
theorem dX11_sign_89 : decode cX11_sign 89 = .ok (.aload_n 0, 1) := by decide +kernel
theorem dX11_sign_90 : decode cX11_sign 90 = .ok (.getfield 166, 3) := by decide +kernel
theorem dX11_sign_93 : decode cX11_sign 93 = .ok (.bipush 37, 2) := by decide +kernel
theorem dX11_sign_95 : decode cX11_sign 95 = .ok (.if_icmp .ne 10, 3) := by decide +kernel
theorem dX11_sign_98 : decode cX11_sign 98 = .ok (.aload_n 0, 1) := by decide +kernel
theorem dX11_sign_99 : decode cX11_sign 99 = .ok (.getfield 166, 3) := by decide +kernel
theorem dX11_sign_102 : decode cX11_sign 102 = .ok (.goto 4, 3) := by decide +kernel
theorem dX11_sign_105 : decode cX11_sign 105 = .ok (.iconst 0, 1) := by decide +kernel
theorem dX11_sign_106 : decode cX11_sign 106 = .ok (.ireturn, 1) := by decide +kernel
theorem dX11_sure_0 : decode cX11_sure 0 = .ok (.iload_n 1, 1) := by decide +kernel
theorem dX11_sure_1 : decode cX11_sure 1 = .ok (.iconst 0, 1) := by decide +kernel
theorem dX11_sure_2 : decode cX11_sure 2 = .ok (.iconst 1, 1) := by decide +kernel
theorem dX11_sure_3 : decode cX11_sure 3 = .ok (.invokestatic 417, 3) := by decide +kernel
theorem dX11_sure_6 : decode cX11_sure 6 = .ok (.ifCond .eq 11, 3) := by decide +kernel
theorem dX11_sure_9 : decode cX11_sure 9 = .ok (.aload_n 0, 1) := by decide +kernel
theorem dX11_sure_10 : decode cX11_sure 10 = .ok (.iload_n 2, 1) := by decide +kernel
theorem dX11_sure_11 : decode cX11_sure 11 = .ok (.invokevirtual 534, 3) := by decide +kernel
theorem dX11_sure_14 : decode cX11_sure 14 = .ok (.ifCond .ne 5, 3) := by decide +kernel
theorem dX11_sure_17 : decode cX11_sure 17 = .ok (.iconst (-1), 1) := by decide +kernel
theorem dX11_sure_18 : decode cX11_sure 18 = .ok (.ireturn, 1) := by decide +kernel
theorem dX11_sure_19 : decode cX11_sure 19 = .ok (.iconst (-1), 1) := by decide +kernel
theorem dX11_sure_20 : decode cX11_sure 20 = .ok (.istore_n 3, 1) := by decide +kernel
theorem dX11_sure_21 : decode cX11_sure 21 = .ok (.iconst 0, 1) := by decide +kernel
theorem dX11_sure_22 : decode cX11_sure 22 = .ok (.istore 4, 2) := by decide +kernel
theorem dX11_sure_24 : decode cX11_sure 24 = .ok (.iload 4, 2) := by decide +kernel
theorem dX11_sure_26 : decode cX11_sure 26 = .ok (.bipush 30, 2) := by decide +kernel
theorem dX11_sure_28 : decode cX11_sure 28 = .ok (.if_icmp .gt 31, 3) := by decide +kernel
theorem dX11_sure_31 : decode cX11_sure 31 = .ok (.aload_n 0, 1) := by decide +kernel
theorem dX11_sure_32 : decode cX11_sure 32 = .ok (.getfield 130, 3) := by decide +kernel
theorem dX11_sure_35 : decode cX11_sure 35 = .ok (.iload 4, 2) := by decide +kernel
theorem dX11_sure_37 : decode cX11_sure 37 = .ok (.baload, 1) := by decide +kernel
theorem dX11_sure_38 : decode cX11_sure 38 = .ok (.ifCond .eq 15, 3) := by decide +kernel
theorem dX11_sure_41 : decode cX11_sure 41 = .ok (.iload_n 3, 1) := by decide +kernel
theorem dX11_sure_42 : decode cX11_sure 42 = .ok (.ifCond .lt 8, 3) := by decide +kernel
theorem dX11_sure_45 : decode cX11_sure 45 = .ok (.iload_n 1, 1) := by decide +kernel
theorem dX11_sure_46 : decode cX11_sure 46 = .ok (.iconst 1, 1) := by decide +kernel
theorem dX11_sure_47 : decode cX11_sure 47 = .ok (.if_icmp .ne 6, 3) := by decide +kernel
theorem dX11_sure_50 : decode cX11_sure 50 = .ok (.iload 4, 2) := by decide +kernel
theorem dX11_sure_52 : decode cX11_sure 52 = .ok (.istore_n 3, 1) := by decide +kernel
theorem dX11_sure_53 : decode cX11_sure 53 = .ok (.iinc 4 1, 3) := by decide +kernel
theorem dX11_sure_56 : decode cX11_sure 56 = .ok (.goto (-32), 3) := by decide +kernel
theorem dX11_sure_59 : decode cX11_sure 59 = .ok (.iload_n 3, 1) := by decide +kernel
theorem dX11_sure_60 : decode cX11_sure 60 = .ok (.ireturn, 1) := by decide +kernel
theorem dX11_takein_0 : decode cX11_takein 0 = .ok (.aload_n 0, 1) := by decide +kernel
theorem dX11_takein_1 : decode cX11_takein 1 = .ok (.iload_n 1, 1) := by decide +kernel
theorem dX11_takein_2 : decode cX11_takein 2 = .ok (.invokevirtual 455, 3) := by decide +kernel
theorem dX11_takein_5 : decode cX11_takein 5 = .ok (.ifCond .eq 36, 3) := by decide +kernel
theorem dX11_takein_8 : decode cX11_takein 8 = .ok (.iload_n 2, 1) := by decide +kernel
theorem dX11_takein_9 : decode cX11_takein 9 = .ok (.iconst 1, 1) := by decide +kernel
theorem dX11_takein_10 : decode cX11_takein 10 = .ok (.aload_n 0, 1) := by decide +kernel
theorem dX11_takein_11 : decode cX11_takein 11 = .ok (.getfield 93, 3) := by decide +kernel
theorem dX11_takein_14 : decode cX11_takein 14 = .ok (.bipush 18, 2) := by decide +kernel
theorem dX11_takein_16 : decode cX11_takein 16 = .ok (.iload_n 1, 1) := by decide +kernel
theorem dX11_takein_17 : decode cX11_takein 17 = .ok (.iadd, 1) := by decide +kernel
theorem dX11_takein_18 : decode cX11_takein 18 = .ok (.iaload, 1) := by decide +kernel
theorem dX11_takein_19 : decode cX11_takein 19 = .ok (.invokestatic 417, 3) := by decide +kernel
theorem dX11_takein_22 : decode cX11_takein 22 = .ok (.ifCond .eq 19, 3) := by decide +kernel
theorem dX11_takein_25 : decode cX11_takein 25 = .ok (.aload_n 0, 1) := by decide +kernel
theorem dX11_takein_26 : decode cX11_takein 26 = .ok (.getfield 93, 3) := by decide +kernel
theorem dX11_takein_29 : decode cX11_takein 29 = .ok (.bipush 24, 2) := by decide +kernel
theorem dX11_takein_31 : decode cX11_takein 31 = .ok (.iload_n 1, 1) := by decide +kernel
theorem dX11_takein_32 : decode cX11_takein 32 = .ok (.iadd, 1) := by decide +kernel
theorem dX11_takein_33 : decode cX11_takein 33 = .ok (.iaload, 1) := by decide +kernel
theorem dX11_takein_34 : decode cX11_takein 34 = .ok (.iload_n 2, 1) := by decide +kernel
theorem dX11_takein_35 : decode cX11_takein 35 = .ok (.iadd, 1) := by decide +kernel
theorem dX11_takein_36 : decode cX11_takein 36 = .ok (.bipush 99, 2) := by decide +kernel
theorem dX11_takein_38 : decode cX11_takein 38 = .ok (.if_icmp .le 5, 3) := by decide +kernel
theorem dX11_takein_41 : decode cX11_takein 41 = .ok (.iconst (-1), 1) := by decide +kernel
theorem dX11_takein_42 : decode cX11_takein 42 = .ok (.ireturn, 1) := by decide +kernel
theorem dX11_takein_43 : decode cX11_takein 43 = .ok (.aload_n 0, 1) := by decide +kernel
theorem dX11_takein_44 : decode cX11_takein 44 = .ok (.invokevirtual 458, 3) := by decide +kernel
theorem dX11_takein_47 : decode cX11_takein 47 = .ok (.aload_n 0, 1) := by decide +kernel
theorem dX11_takein_48 : decode cX11_takein 48 = .ok (.getfield 93, 3) := by decide +kernel
theorem dX11_takein_51 : decode cX11_takein 51 = .ok (.bipush 24, 2) := by decide +kernel
theorem dX11_takein_53 : decode cX11_takein 53 = .ok (.iload_n 1, 1) := by decide +kernel
theorem dX11_takein_54 : decode cX11_takein 54 = .ok (.iadd, 1) := by decide +kernel
theorem dX11_takein_55 : decode cX11_takein 55 = .ok (.dup2, 1) := by decide +kernel
theorem dX11_takein_56 : decode cX11_takein 56 = .ok (.iaload, 1) := by decide +kernel
theorem dX11_takein_57 : decode cX11_takein 57 = .ok (.iload_n 2, 1) := by decide +kernel
theorem dX11_takein_58 : decode cX11_takein 58 = .ok (.iadd, 1) := by decide +kernel
theorem dX11_takein_59 : decode cX11_takein 59 = .ok (.iastore, 1) := by decide +kernel
theorem dX11_takein_60 : decode cX11_takein 60 = .ok (.aload_n 0, 1) := by decide +kernel
theorem dX11_takein_61 : decode cX11_takein 61 = .ok (.getfield 93, 3) := by decide +kernel
theorem dX11_takein_64 : decode cX11_takein 64 = .ok (.bipush 18, 2) := by decide +kernel
theorem dX11_takein_66 : decode cX11_takein 66 = .ok (.iload_n 1, 1) := by decide +kernel
theorem dX11_takein_67 : decode cX11_takein 67 = .ok (.iadd, 1) := by decide +kernel
theorem dX11_takein_68 : decode cX11_takein 68 = .ok (.dup2, 1) := by decide +kernel
theorem dX11_takein_69 : decode cX11_takein 69 = .ok (.iaload, 1) := by decide +kernel
theorem dX11_takein_70 : decode cX11_takein 70 = .ok (.iload_n 2, 1) := by decide +kernel
theorem dX11_takein_71 : decode cX11_takein 71 = .ok (.isub, 1) := by decide +kernel
theorem dX11_takein_72 : decode cX11_takein 72 = .ok (.iastore, 1) := by decide +kernel
theorem dX11_takein_73 : decode cX11_takein 73 = .ok (.aload_n 0, 1) := by decide +kernel
theorem dX11_takein_74 : decode cX11_takein 74 = .ok (.getfield 93, 3) := by decide +kernel
theorem dX11_takein_77 : decode cX11_takein 77 = .ok (.bipush 18, 2) := by decide +kernel
theorem dX11_takein_79 : decode cX11_takein 79 = .ok (.iload_n 1, 1) := by decide +kernel
theorem dX11_takein_80 : decode cX11_takein 80 = .ok (.iadd, 1) := by decide +kernel
theorem dX11_takein_81 : decode cX11_takein 81 = .ok (.iaload, 1) := by decide +kernel
theorem dX11_takein_82 : decode cX11_takein 82 = .ok (.ireturn, 1) := by decide +kernel
theorem dX11_tight_0 : decode cX11_tight 0 = .ok (.iload_n 0, 1) := by decide +kernel
theorem dX11_tight_1 : decode cX11_tight 1 = .ok (.lookupswitch 85 #[(21, 79), (38, 77), (43, 83), (45, 83), (60, 81), (61, 81), (62, 81), (124, 75)], 75) := by decide +kernel
theorem dX11_tight_76 : decode cX11_tight 76 = .ok (.iconst 1, 1) := by decide +kernel
theorem dX11_tight_77 : decode cX11_tight 77 = .ok (.ireturn, 1) := by decide +kernel
theorem dX11_tight_78 : decode cX11_tight 78 = .ok (.iconst 2, 1) := by decide +kernel
theorem dX11_tight_79 : decode cX11_tight 79 = .ok (.ireturn, 1) := by decide +kernel
theorem dX11_tight_80 : decode cX11_tight 80 = .ok (.iconst 3, 1) := by decide +kernel
theorem dX11_tight_81 : decode cX11_tight 81 = .ok (.ireturn, 1) := by decide +kernel
theorem dX11_tight_82 : decode cX11_tight 82 = .ok (.iconst 4, 1) := by decide +kernel
theorem dX11_tight_83 : decode cX11_tight 83 = .ok (.ireturn, 1) := by decide +kernel
theorem dX11_tight_84 : decode cX11_tight 84 = .ok (.iconst 5, 1) := by decide +kernel
theorem dX11_tight_85 : decode cX11_tight 85 = .ok (.ireturn, 1) := by decide +kernel
theorem dX11_tight_86 : decode cX11_tight 86 = .ok (.bipush 6, 2) := by decide +kernel
theorem dX11_tight_88 : decode cX11_tight 88 = .ok (.ireturn, 1) := by decide +kernel
theorem dX11_token_0 : decode cX11_token 0 = .ok (.aload_n 0, 1) := by decide +kernel
theorem dX11_token_1 : decode cX11_token 1 = .ok (.iconst 0, 1) := by decide +kernel
theorem dX11_token_2 : decode cX11_token 2 = .ok (.invokevirtual 152, 3) := by decide +kernel
theorem dX11_token_5 : decode cX11_token 5 = .ok (.bipush 32, 2) := by decide +kernel
theorem dX11_token_7 : decode cX11_token 7 = .ok (.if_icmp .eq 13, 3) := by decide +kernel
theorem dX11_token_10 : decode cX11_token 10 = .ok (.aload_n 0, 1) := by decide +kernel
theorem dX11_token_11 : decode cX11_token 11 = .ok (.iconst 0, 1) := by decide +kernel
theorem dX11_token_12 : decode cX11_token 12 = .ok (.invokevirtual 152, 3) := by decide +kernel
theorem dX11_token_15 : decode cX11_token 15 = .ok (.bipush 10, 2) := by decide +kernel
theorem dX11_token_17 : decode cX11_token 17 = .ok (.if_icmp .ne 16, 3) := by decide +kernel
theorem dX11_token_20 : decode cX11_token 20 = .ok (.aload_n 0, 1) := by decide +kernel
theorem dX11_token_21 : decode cX11_token 21 = .ok (.dup, 1) := by decide +kernel
theorem dX11_token_22 : decode cX11_token 22 = .ok (.getfield 146, 3) := by decide +kernel
theorem dX11_token_25 : decode cX11_token 25 = .ok (.iconst 1, 1) := by decide +kernel
theorem dX11_token_26 : decode cX11_token 26 = .ok (.iadd, 1) := by decide +kernel
theorem dX11_token_27 : decode cX11_token 27 = .ok (.putfield 146, 3) := by decide +kernel
theorem dX11_token_30 : decode cX11_token 30 = .ok (.goto (-30), 3) := by decide +kernel
theorem dX11_token_33 : decode cX11_token 33 = .ok (.aload_n 0, 1) := by decide +kernel
theorem dX11_token_34 : decode cX11_token 34 = .ok (.aload_n 0, 1) := by decide +kernel
theorem dX11_token_35 : decode cX11_token 35 = .ok (.getfield 146, 3) := by decide +kernel
theorem dX11_token_38 : decode cX11_token 38 = .ok (.putfield 156, 3) := by decide +kernel
