theorem dX11_layColours_65 : decode cX11_layColours 65 = .ok (.aload_n 0, 1) := by decide +kernel
theorem dX11_layColours_66 : decode cX11_layColours 66 = .ok (.getfield 105, 3) := by decide +kernel
theorem dX11_layColours_69 : decode cX11_layColours 69 = .ok (.iload 5, 2) := by decide +kernel
theorem dX11_layColours_71 : decode cX11_layColours 71 = .ok (.iaload, 1) := by decide +kernel
theorem dX11_layColours_72 : decode cX11_layColours 72 = .ok (.aload_n 0, 1) := by decide +kernel
theorem dX11_layColours_73 : decode cX11_layColours 73 = .ok (.getfield 105, 3) := by decide +kernel
theorem dX11_layColours_76 : decode cX11_layColours 76 = .ok (.iload 6, 2) := by decide +kernel
theorem dX11_layColours_78 : decode cX11_layColours 78 = .ok (.iaload, 1) := by decide +kernel
theorem dX11_layColours_79 : decode cX11_layColours 79 = .ok (.if_icmp .ne 14, 3) := by decide +kernel
theorem dX11_layColours_82 : decode cX11_layColours 82 = .ok (.aload_n 0, 1) := by decide +kernel
theorem dX11_layColours_83 : decode cX11_layColours 83 = .ok (.iload 5, 2) := by decide +kernel
theorem dX11_layColours_85 : decode cX11_layColours 85 = .ok (.iload 6, 2) := by decide +kernel
theorem dX11_layColours_87 : decode cX11_layColours 87 = .ok (.invokevirtual 502, 3) := by decide +kernel
theorem dX11_layColours_90 : decode cX11_layColours 90 = .ok (.ifCond .ne 7, 3) := by decide +kernel
theorem dX11_layColours_93 : decode cX11_layColours 93 = .ok (.iconst 1, 1) := by decide +kernel
theorem dX11_layColours_94 : decode cX11_layColours 94 = .ok (.goto 4, 3) := by decide +kernel
theorem dX11_layColours_97 : decode cX11_layColours 97 = .ok (.iconst 0, 1) := by decide +kernel
theorem dX11_layColours_98 : decode cX11_layColours 98 = .ok (.istore 4, 2) := by decide +kernel
theorem dX11_layColours_100 : decode cX11_layColours 100 = .ok (.iinc 6 1, 3) := by decide +kernel
theorem dX11_layColours_103 : decode cX11_layColours 103 = .ok (.goto (-50), 3) := by decide +kernel
theorem dX11_layColours_106 : decode cX11_layColours 106 = .ok (.iinc 5 1, 3) := by decide +kernel
theorem dX11_layColours_109 : decode cX11_layColours 109 = .ok (.goto (-68), 3) := by decide +kernel
theorem dX11_layColours_112 : decode cX11_layColours 112 = .ok (.iload 4, 2) := by decide +kernel
theorem dX11_layColours_114 : decode cX11_layColours 114 = .ok (.ireturn, 1) := by decide +kernel
theorem dX11_layDress_0 : decode cX11_layDress 0 = .ok (.iload_n 1, 1) := by decide +kernel
theorem dX11_layDress_1 : decode cX11_layDress 1 = .ok (.istore_n 2, 1) := by decide +kernel
theorem dX11_layDress_2 : decode cX11_layDress 2 = .ok (.iconst 0, 1) := by decide +kernel
theorem dX11_layDress_3 : decode cX11_layDress 3 = .ok (.istore_n 3, 1) := by decide +kernel
theorem dX11_layDress_4 : decode cX11_layDress 4 = .ok (.iconst 0, 1) := by decide +kernel
theorem dX11_layDress_5 : decode cX11_layDress 5 = .ok (.istore 4, 2) := by decide +kernel
theorem dX11_layDress_7 : decode cX11_layDress 7 = .ok (.aload_n 0, 1) := by decide +kernel
theorem dX11_layDress_8 : decode cX11_layDress 8 = .ok (.getfield 387, 3) := by decide +kernel
theorem dX11_layDress_11 : decode cX11_layDress 11 = .ok (.iconst 1, 1) := by decide +kernel
theorem dX11_layDress_12 : decode cX11_layDress 12 = .ok (.isub, 1) := by decide +kernel
theorem dX11_layDress_13 : decode cX11_layDress 13 = .ok (.istore 5, 2) := by decide +kernel
theorem dX11_layDress_15 : decode cX11_layDress 15 = .ok (.iload 5, 2) := by decide +kernel
theorem dX11_layDress_17 : decode cX11_layDress 17 = .ok (.ifCond .lt 104, 3) := by decide +kernel
theorem dX11_layDress_20 : decode cX11_layDress 20 = .ok (.iload_n 2, 1) := by decide +kernel
theorem dX11_layDress_21 : decode cX11_layDress 21 = .ok (.aload_n 0, 1) := by decide +kernel
theorem dX11_layDress_22 : decode cX11_layDress 22 = .ok (.getfield 390, 3) := by decide +kernel
theorem dX11_layDress_25 : decode cX11_layDress 25 = .ok (.iconst 1, 1) := by decide +kernel
theorem dX11_layDress_26 : decode cX11_layDress 26 = .ok (.iadd, 1) := by decide +kernel
theorem dX11_layDress_27 : decode cX11_layDress 27 = .ok (.irem, 1) := by decide +kernel
theorem dX11_layDress_28 : decode cX11_layDress 28 = .ok (.istore 6, 2) := by decide +kernel
theorem dX11_layDress_30 : decode cX11_layDress 30 = .ok (.iload_n 2, 1) := by decide +kernel
theorem dX11_layDress_31 : decode cX11_layDress 31 = .ok (.aload_n 0, 1) := by decide +kernel
theorem dX11_layDress_32 : decode cX11_layDress 32 = .ok (.getfield 390, 3) := by decide +kernel
theorem dX11_layDress_35 : decode cX11_layDress 35 = .ok (.iconst 1, 1) := by decide +kernel
theorem dX11_layDress_36 : decode cX11_layDress 36 = .ok (.iadd, 1) := by decide +kernel
theorem dX11_layDress_37 : decode cX11_layDress 37 = .ok (.idiv, 1) := by decide +kernel
theorem dX11_layDress_38 : decode cX11_layDress 38 = .ok (.istore_n 2, 1) := by decide +kernel
theorem dX11_layDress_39 : decode cX11_layDress 39 = .ok (.aload_n 0, 1) := by decide +kernel
theorem dX11_layDress_40 : decode cX11_layDress 40 = .ok (.getfield 105, 3) := by decide +kernel
theorem dX11_layDress_43 : decode cX11_layDress 43 = .ok (.iload 5, 2) := by decide +kernel
theorem dX11_layDress_45 : decode cX11_layDress 45 = .ok (.iload 6, 2) := by decide +kernel
theorem dX11_layDress_47 : decode cX11_layDress 47 = .ok (.aload_n 0, 1) := by decide +kernel
theorem dX11_layDress_48 : decode cX11_layDress 48 = .ok (.getfield 390, 3) := by decide +kernel
theorem dX11_layDress_51 : decode cX11_layDress 51 = .ok (.if_icmp .ne 7, 3) := by decide +kernel
theorem dX11_layDress_54 : decode cX11_layDress 54 = .ok (.iconst (-1), 1) := by decide +kernel
theorem dX11_layDress_55 : decode cX11_layDress 55 = .ok (.goto 5, 3) := by decide +kernel
theorem dX11_layDress_58 : decode cX11_layDress 58 = .ok (.iload 6, 2) := by decide +kernel
theorem dX11_layDress_60 : decode cX11_layDress 60 = .ok (.iastore, 1) := by decide +kernel
theorem dX11_layDress_61 : decode cX11_layDress 61 = .ok (.iload 6, 2) := by decide +kernel
theorem dX11_layDress_63 : decode cX11_layDress 63 = .ok (.aload_n 0, 1) := by decide +kernel
theorem dX11_layDress_64 : decode cX11_layDress 64 = .ok (.getfield 390, 3) := by decide +kernel
theorem dX11_layDress_67 : decode cX11_layDress 67 = .ok (.if_icmp .ne 6, 3) := by decide +kernel
theorem dX11_layDress_70 : decode cX11_layDress 70 = .ok (.goto 45, 3) := by decide +kernel
theorem dX11_layDress_73 : decode cX11_layDress 73 = .ok (.iload_n 3, 1) := by decide +kernel
theorem dX11_layDress_74 : decode cX11_layDress 74 = .ok (.iload 6, 2) := by decide +kernel
theorem dX11_layDress_76 : decode cX11_layDress 76 = .ok (.ishr, 1) := by decide +kernel
theorem dX11_layDress_77 : decode cX11_layDress 77 = .ok (.iconst 1, 1) := by decide +kernel
theorem dX11_layDress_78 : decode cX11_layDress 78 = .ok (.iand, 1) := by decide +kernel
theorem dX11_layDress_79 : decode cX11_layDress 79 = .ok (.iconst 1, 1) := by decide +kernel
theorem dX11_layDress_80 : decode cX11_layDress 80 = .ok (.if_icmp .eq 23, 3) := by decide +kernel
theorem dX11_layDress_83 : decode cX11_layDress 83 = .ok (.aload_n 0, 1) := by decide +kernel
theorem dX11_layDress_84 : decode cX11_layDress 84 = .ok (.getfield 108, 3) := by decide +kernel
theorem dX11_layDress_87 : decode cX11_layDress 87 = .ok (.bipush 6, 2) := by decide +kernel
theorem dX11_layDress_89 : decode cX11_layDress 89 = .ok (.iload 5, 2) := by decide +kernel
theorem dX11_layDress_91 : decode cX11_layDress 91 = .ok (.imul, 1) := by decide +kernel
theorem dX11_layDress_92 : decode cX11_layDress 92 = .ok (.iload 6, 2) := by decide +kernel
theorem dX11_layDress_94 : decode cX11_layDress 94 = .ok (.iadd, 1) := by decide +kernel
theorem dX11_layDress_95 : decode cX11_layDress 95 = .ok (.iaload, 1) := by decide +kernel
theorem dX11_layDress_96 : decode cX11_layDress 96 = .ok (.aload_n 0, 1) := by decide +kernel
theorem dX11_layDress_97 : decode cX11_layDress 97 = .ok (.getfield 84, 3) := by decide +kernel
theorem dX11_layDress_100 : decode cX11_layDress 100 = .ok (.if_icmp .le 5, 3) := by decide +kernel
theorem dX11_layDress_103 : decode cX11_layDress 103 = .ok (.iconst (-1), 1) := by decide +kernel
theorem dX11_layDress_104 : decode cX11_layDress 104 = .ok (.ireturn, 1) := by decide +kernel
theorem dX11_layDress_105 : decode cX11_layDress 105 = .ok (.iload_n 3, 1) := by decide +kernel
theorem dX11_layDress_106 : decode cX11_layDress 106 = .ok (.iconst 1, 1) := by decide +kernel
theorem dX11_layDress_107 : decode cX11_layDress 107 = .ok (.iload 6, 2) := by decide +kernel
theorem dX11_layDress_109 : decode cX11_layDress 109 = .ok (.ishl, 1) := by decide +kernel
theorem dX11_layDress_110 : decode cX11_layDress 110 = .ok (.ior, 1) := by decide +kernel
theorem dX11_layDress_111 : decode cX11_layDress 111 = .ok (.istore_n 3, 1) := by decide +kernel
theorem dX11_layDress_112 : decode cX11_layDress 112 = .ok (.iinc 4 1, 3) := by decide +kernel
theorem dX11_layDress_115 : decode cX11_layDress 115 = .ok (.iinc 5 (-1), 3) := by decide +kernel
theorem dX11_layDress_118 : decode cX11_layDress 118 = .ok (.goto (-103), 3) := by decide +kernel
theorem dX11_layDress_121 : decode cX11_layDress 121 = .ok (.iload 4, 2) := by decide +kernel
theorem dX11_layDress_123 : decode cX11_layDress 123 = .ok (.ireturn, 1) := by decide +kernel
theorem dX11_layGrowths_0 : decode cX11_layGrowths 0 = .ok (.iconst 0, 1) := by decide +kernel
theorem dX11_layGrowths_1 : decode cX11_layGrowths 1 = .ok (.istore_n 2, 1) := by decide +kernel
theorem dX11_layGrowths_2 : decode cX11_layGrowths 2 = .ok (.iconst 0, 1) := by decide +kernel
theorem dX11_layGrowths_3 : decode cX11_layGrowths 3 = .ok (.istore_n 3, 1) := by decide +kernel
theorem dX11_layGrowths_4 : decode cX11_layGrowths 4 = .ok (.iload_n 3, 1) := by decide +kernel
theorem dX11_layGrowths_5 : decode cX11_layGrowths 5 = .ok (.bipush 30, 2) := by decide +kernel
theorem dX11_layGrowths_7 : decode cX11_layGrowths 7 = .ok (.if_icmp .gt 136, 3) := by decide +kernel
theorem dX11_layGrowths_10 : decode cX11_layGrowths 10 = .ok (.aload_n 0, 1) := by decide +kernel
theorem dX11_layGrowths_11 : decode cX11_layGrowths 11 = .ok (.getfield 387, 3) := by decide +kernel
theorem dX11_layGrowths_14 : decode cX11_layGrowths 14 = .ok (.ifCond .le 129, 3) := by decide +kernel
theorem dX11_layGrowths_17 : decode cX11_layGrowths 17 = .ok (.aload_n 0, 1) := by decide +kernel
theorem dX11_layGrowths_18 : decode cX11_layGrowths 18 = .ok (.getfield 390, 3) := by decide +kernel
theorem dX11_layGrowths_21 : decode cX11_layGrowths 21 = .ok (.ifCond .le 122, 3) := by decide +kernel
theorem dX11_layGrowths_24 : decode cX11_layGrowths 24 = .ok (.aload_n 0, 1) := by decide +kernel
theorem dX11_layGrowths_25 : decode cX11_layGrowths 25 = .ok (.invokevirtual 399, 3) := by decide +kernel
theorem dX11_layGrowths_28 : decode cX11_layGrowths 28 = .ok (.iconst 0, 1) := by decide +kernel
theorem dX11_layGrowths_29 : decode cX11_layGrowths 29 = .ok (.istore 4, 2) := by decide +kernel
theorem dX11_layGrowths_31 : decode cX11_layGrowths 31 = .ok (.iload 4, 2) := by decide +kernel
theorem dX11_layGrowths_33 : decode cX11_layGrowths 33 = .ok (.bipush 20, 2) := by decide +kernel
theorem dX11_layGrowths_35 : decode cX11_layGrowths 35 = .ok (.if_icmp .gt 78, 3) := by decide +kernel
theorem dX11_layGrowths_38 : decode cX11_layGrowths 38 = .ok (.aload_n 0, 1) := by decide +kernel
theorem dX11_layGrowths_39 : decode cX11_layGrowths 39 = .ok (.getfield 127, 3) := by decide +kernel
theorem dX11_layGrowths_42 : decode cX11_layGrowths 42 = .ok (.bipush 21, 2) := by decide +kernel
theorem dX11_layGrowths_44 : decode cX11_layGrowths 44 = .ok (.iload_n 3, 1) := by decide +kernel
theorem dX11_layGrowths_45 : decode cX11_layGrowths 45 = .ok (.imul, 1) := by decide +kernel
theorem dX11_layGrowths_46 : decode cX11_layGrowths 46 = .ok (.iload 4, 2) := by decide +kernel
theorem dX11_layGrowths_48 : decode cX11_layGrowths 48 = .ok (.iadd, 1) := by decide +kernel
theorem dX11_layGrowths_49 : decode cX11_layGrowths 49 = .ok (.aload_n 0, 1) := by decide +kernel
theorem dX11_layGrowths_50 : decode cX11_layGrowths 50 = .ok (.iconst 0, 1) := by decide +kernel
theorem dX11_layGrowths_51 : decode cX11_layGrowths 51 = .ok (.iconst 0, 1) := by decide +kernel
theorem dX11_layGrowths_52 : decode cX11_layGrowths 52 = .ok (.invokevirtual 424, 3) := by decide +kernel
theorem dX11_layGrowths_55 : decode cX11_layGrowths 55 = .ok (.bastore, 1) := by decide +kernel
theorem dX11_layGrowths_56 : decode cX11_layGrowths 56 = .ok (.aload_n 0, 1) := by decide +kernel
theorem dX11_layGrowths_57 : decode cX11_layGrowths 57 = .ok (.getfield 96, 3) := by decide +kernel
theorem dX11_layGrowths_60 : decode cX11_layGrowths 60 = .ok (.iconst 0, 1) := by decide +kernel
theorem dX11_layGrowths_61 : decode cX11_layGrowths 61 = .ok (.bipush 99, 2) := by decide +kernel
theorem dX11_layGrowths_63 : decode cX11_layGrowths 63 = .ok (.aload_n 0, 1) := by decide +kernel
theorem dX11_layGrowths_64 : decode cX11_layGrowths 64 = .ok (.getfield 96, 3) := by decide +kernel
theorem dX11_layGrowths_67 : decode cX11_layGrowths 67 = .ok (.iconst 0, 1) := by decide +kernel
theorem dX11_layGrowths_68 : decode cX11_layGrowths 68 = .ok (.iaload, 1) := by decide +kernel
theorem dX11_layGrowths_69 : decode cX11_layGrowths 69 = .ok (.iload_n 3, 1) := by decide +kernel
theorem dX11_layGrowths_70 : decode cX11_layGrowths 70 = .ok (.iadd, 1) := by decide +kernel
theorem dX11_layGrowths_71 : decode cX11_layGrowths 71 = .ok (.invokestatic 431, 3) := by decide +kernel
theorem dX11_layGrowths_74 : decode cX11_layGrowths 74 = .ok (.iastore, 1) := by decide +kernel
theorem dX11_layGrowths_75 : decode cX11_layGrowths 75 = .ok (.aload_n 0, 1) := by decide +kernel
theorem dX11_layGrowths_76 : decode cX11_layGrowths 76 = .ok (.getfield 96, 3) := by decide +kernel
theorem dX11_layGrowths_79 : decode cX11_layGrowths 79 = .ok (.bipush 30, 2) := by decide +kernel
theorem dX11_layGrowths_81 : decode cX11_layGrowths 81 = .ok (.bipush 99, 2) := by decide +kernel
theorem dX11_layGrowths_83 : decode cX11_layGrowths 83 = .ok (.aload_n 0, 1) := by decide +kernel
theorem dX11_layGrowths_84 : decode cX11_layGrowths 84 = .ok (.getfield 96, 3) := by decide +kernel
theorem dX11_layGrowths_87 : decode cX11_layGrowths 87 = .ok (.bipush 30, 2) := by decide +kernel
theorem dX11_layGrowths_89 : decode cX11_layGrowths 89 = .ok (.iaload, 1) := by decide +kernel
theorem dX11_layGrowths_90 : decode cX11_layGrowths 90 = .ok (.iconst 1, 1) := by decide +kernel
theorem dX11_layGrowths_91 : decode cX11_layGrowths 91 = .ok (.iadd, 1) := by decide +kernel
theorem dX11_layGrowths_92 : decode cX11_layGrowths 92 = .ok (.invokestatic 431, 3) := by decide +kernel
theorem dX11_layGrowths_95 : decode cX11_layGrowths 95 = .ok (.iastore, 1) := by decide +kernel
theorem dX11_layGrowths_96 : decode cX11_layGrowths 96 = .ok (.aload_n 0, 1) := by decide +kernel
theorem dX11_layGrowths_97 : decode cX11_layGrowths 97 = .ok (.getfield 96, 3) := by decide +kernel
theorem dX11_layGrowths_100 : decode cX11_layGrowths 100 = .ok (.bipush 37, 2) := by decide +kernel
theorem dX11_layGrowths_102 : decode cX11_layGrowths 102 = .ok (.dup2, 1) := by decide +kernel
theorem dX11_layGrowths_103 : decode cX11_layGrowths 103 = .ok (.iaload, 1) := by decide +kernel
theorem dX11_layGrowths_104 : decode cX11_layGrowths 104 = .ok (.iconst 1, 1) := by decide +kernel
theorem dX11_layGrowths_105 : decode cX11_layGrowths 105 = .ok (.iadd, 1) := by decide +kernel
theorem dX11_layGrowths_106 : decode cX11_layGrowths 106 = .ok (.iastore, 1) := by decide +kernel
theorem dX11_layGrowths_107 : decode cX11_layGrowths 107 = .ok (.iinc 4 1, 3) := by decide +kernel
theorem dX11_layGrowths_110 : decode cX11_layGrowths 110 = .ok (.goto (-79), 3) := by decide +kernel
theorem dX11_layGrowths_113 : decode cX11_layGrowths 113 = .ok (.aload_n 0, 1) := by decide +kernel
theorem dX11_layGrowths_114 : decode cX11_layGrowths 114 = .ok (.getfield 130, 3) := by decide +kernel
theorem dX11_layGrowths_117 : decode cX11_layGrowths 117 = .ok (.iload_n 3, 1) := by decide +kernel
theorem dX11_layGrowths_118 : decode cX11_layGrowths 118 = .ok (.aload_n 0, 1) := by decide +kernel
theorem dX11_layGrowths_119 : decode cX11_layGrowths 119 = .ok (.iload_n 3, 1) := by decide +kernel
theorem dX11_layGrowths_120 : decode cX11_layGrowths 120 = .ok (.iload_n 1, 1) := by decide +kernel
theorem dX11_layGrowths_121 : decode cX11_layGrowths 121 = .ok (.invokevirtual 531, 3) := by decide +kernel
theorem dX11_layGrowths_124 : decode cX11_layGrowths 124 = .ok (.bastore, 1) := by decide +kernel
theorem dX11_layGrowths_125 : decode cX11_layGrowths 125 = .ok (.iload_n 2, 1) := by decide +kernel
theorem dX11_layGrowths_126 : decode cX11_layGrowths 126 = .ok (.aload_n 0, 1) := by decide +kernel
theorem dX11_layGrowths_127 : decode cX11_layGrowths 127 = .ok (.getfield 130, 3) := by decide +kernel
theorem dX11_layGrowths_130 : decode cX11_layGrowths 130 = .ok (.iload_n 3, 1) := by decide +kernel
theorem dX11_layGrowths_131 : decode cX11_layGrowths 131 = .ok (.baload, 1) := by decide +kernel
theorem dX11_layGrowths_132 : decode cX11_layGrowths 132 = .ok (.invokestatic 310, 3) := by decide +kernel
theorem dX11_layGrowths_135 : decode cX11_layGrowths 135 = .ok (.iadd, 1) := by decide +kernel
theorem dX11_layGrowths_136 : decode cX11_layGrowths 136 = .ok (.istore_n 2, 1) := by decide +kernel
theorem dX11_layGrowths_137 : decode cX11_layGrowths 137 = .ok (.iinc 3 1, 3) := by decide +kernel
theorem dX11_layGrowths_140 : decode cX11_layGrowths 140 = .ok (.goto (-136), 3) := by decide +kernel
theorem dX11_layGrowths_143 : decode cX11_layGrowths 143 = .ok (.iload_n 2, 1) := by decide +kernel
theorem dX11_layGrowths_144 : decode cX11_layGrowths 144 = .ok (.ireturn, 1) := by decide +kernel
theorem dX11_layIlls_0 : decode cX11_layIlls 0 = .ok (.aload_n 0, 1) := by decide +kernel
theorem dX11_layIlls_1 : decode cX11_layIlls 1 = .ok (.invokevirtual 449, 3) := by decide +kernel
theorem dX11_layIlls_4 : decode cX11_layIlls 4 = .ok (.iconst 0, 1) := by decide +kernel
theorem dX11_layIlls_5 : decode cX11_layIlls 5 = .ok (.istore_n 1, 1) := by decide +kernel
theorem dX11_layIlls_6 : decode cX11_layIlls 6 = .ok (.iload_n 1, 1) := by decide +kernel
theorem dX11_layIlls_7 : decode cX11_layIlls 7 = .ok (.aload_n 0, 1) := by decide +kernel
theorem dX11_layIlls_8 : decode cX11_layIlls 8 = .ok (.getfield 387, 3) := by decide +kernel
theorem dX11_layIlls_11 : decode cX11_layIlls 11 = .ok (.if_icmp .ge 42, 3) := by decide +kernel
theorem dX11_layIlls_14 : decode cX11_layIlls 14 = .ok (.iconst 0, 1) := by decide +kernel
theorem dX11_layIlls_15 : decode cX11_layIlls 15 = .ok (.istore_n 2, 1) := by decide +kernel
theorem dX11_layIlls_16 : decode cX11_layIlls 16 = .ok (.iload_n 2, 1) := by decide +kernel
theorem dX11_layIlls_17 : decode cX11_layIlls 17 = .ok (.aload_n 0, 1) := by decide +kernel
theorem dX11_layIlls_18 : decode cX11_layIlls 18 = .ok (.getfield 390, 3) := by decide +kernel
theorem dX11_layIlls_21 : decode cX11_layIlls 21 = .ok (.if_icmp .ge 26, 3) := by decide +kernel
theorem dX11_layIlls_24 : decode cX11_layIlls 24 = .ok (.aload_n 0, 1) := by decide +kernel
theorem dX11_layIlls_25 : decode cX11_layIlls 25 = .ok (.getfield 108, 3) := by decide +kernel
theorem dX11_layIlls_28 : decode cX11_layIlls 28 = .ok (.bipush 6, 2) := by decide +kernel
theorem dX11_layIlls_30 : decode cX11_layIlls 30 = .ok (.iload_n 1, 1) := by decide +kernel
theorem dX11_layIlls_31 : decode cX11_layIlls 31 = .ok (.imul, 1) := by decide +kernel
theorem dX11_layIlls_32 : decode cX11_layIlls 32 = .ok (.iload_n 2, 1) := by decide +kernel
theorem dX11_layIlls_33 : decode cX11_layIlls 33 = .ok (.iadd, 1) := by decide +kernel
theorem dX11_layIlls_34 : decode cX11_layIlls 34 = .ok (.aload_n 0, 1) := by decide +kernel
theorem dX11_layIlls_35 : decode cX11_layIlls 35 = .ok (.iload_n 1, 1) := by decide +kernel
theorem dX11_layIlls_36 : decode cX11_layIlls 36 = .ok (.iload_n 2, 1) := by decide +kernel
theorem dX11_layIlls_37 : decode cX11_layIlls 37 = .ok (.invokevirtual 421, 3) := by decide +kernel
theorem dX11_layIlls_40 : decode cX11_layIlls 40 = .ok (.iastore, 1) := by decide +kernel
theorem dX11_layIlls_41 : decode cX11_layIlls 41 = .ok (.iinc 2 1, 3) := by decide +kernel
theorem dX11_layIlls_44 : decode cX11_layIlls 44 = .ok (.goto (-28), 3) := by decide +kernel
theorem dX11_layIlls_47 : decode cX11_layIlls 47 = .ok (.iinc 1 1, 3) := by decide +kernel
theorem dX11_layIlls_50 : decode cX11_layIlls 50 = .ok (.goto (-44), 3) := by decide +kernel
theorem dX11_layIlls_53 : decode cX11_layIlls 53 = .ok (.return_, 1) := by decide +kernel
theorem dX11_leftBy_0 : decode cX11_leftBy 0 = .ok (.iconst 0, 1) := by decide +kernel
theorem dX11_leftBy_1 : decode cX11_leftBy 1 = .ok (.istore_n 3, 1) := by decide +kernel
theorem dX11_leftBy_2 : decode cX11_leftBy 2 = .ok (.iconst 0, 1) := by decide +kernel
theorem dX11_leftBy_3 : decode cX11_leftBy 3 = .ok (.istore 4, 2) := by decide +kernel
theorem dX11_leftBy_5 : decode cX11_leftBy 5 = .ok (.iload 4, 2) := by decide +kernel
theorem dX11_leftBy_7 : decode cX11_leftBy 7 = .ok (.bipush 30, 2) := by decide +kernel
theorem dX11_leftBy_9 : decode cX11_leftBy 9 = .ok (.if_icmp .gt 45, 3) := by decide +kernel
theorem dX11_leftBy_12 : decode cX11_leftBy 12 = .ok (.iload_n 3, 1) := by decide +kernel
theorem dX11_leftBy_13 : decode cX11_leftBy 13 = .ok (.aload_n 0, 1) := by decide +kernel
theorem dX11_leftBy_14 : decode cX11_leftBy 14 = .ok (.getfield 130, 3) := by decide +kernel
theorem dX11_leftBy_17 : decode cX11_leftBy 17 = .ok (.iload 4, 2) := by decide +kernel
theorem dX11_leftBy_19 : decode cX11_leftBy 19 = .ok (.baload, 1) := by decide +kernel
theorem dX11_leftBy_20 : decode cX11_leftBy 20 = .ok (.ifCond .eq 22, 3) := by decide +kernel
theorem dX11_leftBy_23 : decode cX11_leftBy 23 = .ok (.aload_n 0, 1) := by decide +kernel
theorem dX11_leftBy_24 : decode cX11_leftBy 24 = .ok (.getfield 127, 3) := by decide +kernel
theorem dX11_leftBy_27 : decode cX11_leftBy 27 = .ok (.bipush 21, 2) := by decide +kernel
theorem dX11_leftBy_29 : decode cX11_leftBy 29 = .ok (.iload 4, 2) := by decide +kernel
theorem dX11_leftBy_31 : decode cX11_leftBy 31 = .ok (.imul, 1) := by decide +kernel
theorem dX11_leftBy_32 : decode cX11_leftBy 32 = .ok (.iload_n 1, 1) := by decide +kernel
theorem dX11_leftBy_33 : decode cX11_leftBy 33 = .ok (.iadd, 1) := by decide +kernel
theorem dX11_leftBy_34 : decode cX11_leftBy 34 = .ok (.baload, 1) := by decide +kernel
theorem dX11_leftBy_35 : decode cX11_leftBy 35 = .ok (.ifCond .eq 7, 3) := by decide +kernel
theorem dX11_leftBy_38 : decode cX11_leftBy 38 = .ok (.iconst 1, 1) := by decide +kernel
theorem dX11_leftBy_39 : decode cX11_leftBy 39 = .ok (.goto 4, 3) := by decide +kernel
theorem dX11_leftBy_42 : decode cX11_leftBy 42 = .ok (.iconst 0, 1) := by decide +kernel
theorem dX11_leftBy_43 : decode cX11_leftBy 43 = .ok (.invokestatic 310, 3) := by decide +kernel
theorem dX11_leftBy_46 : decode cX11_leftBy 46 = .ok (.iadd, 1) := by decide +kernel
theorem dX11_leftBy_47 : decode cX11_leftBy 47 = .ok (.istore_n 3, 1) := by decide +kernel
theorem dX11_leftBy_48 : decode cX11_leftBy 48 = .ok (.iinc 4 1, 3) := by decide +kernel
theorem dX11_leftBy_51 : decode cX11_leftBy 51 = .ok (.goto (-46), 3) := by decide +kernel
theorem dX11_leftBy_54 : decode cX11_leftBy 54 = .ok (.iload_n 3, 1) := by decide +kernel
theorem dX11_leftBy_55 : decode cX11_leftBy 55 = .ok (.iload_n 2, 1) := by decide +kernel
theorem dX11_leftBy_56 : decode cX11_leftBy 56 = .ok (.iload_n 3, 1) := by decide +kernel
theorem dX11_leftBy_57 : decode cX11_leftBy 57 = .ok (.isub, 1) := by decide +kernel
theorem dX11_leftBy_58 : decode cX11_leftBy 58 = .ok (.invokestatic 437, 3) := by decide +kernel
theorem dX11_leftBy_61 : decode cX11_leftBy 61 = .ok (.ireturn, 1) := by decide +kernel
theorem dX11_lesser_0 : decode cX11_lesser 0 = .ok (.iload_n 0, 1) := by decide +kernel
theorem dX11_lesser_1 : decode cX11_lesser 1 = .ok (.iload_n 1, 1) := by decide +kernel
theorem dX11_lesser_2 : decode cX11_lesser 2 = .ok (.if_icmp .ge 7, 3) := by decide +kernel
theorem dX11_lesser_5 : decode cX11_lesser 5 = .ok (.iload_n 0, 1) := by decide +kernel
theorem dX11_lesser_6 : decode cX11_lesser 6 = .ok (.goto 4, 3) := by decide +kernel
theorem dX11_lesser_9 : decode cX11_lesser 9 = .ok (.iload_n 1, 1) := by decide +kernel
theorem dX11_lesser_10 : decode cX11_lesser 10 = .ok (.ireturn, 1) := by decide +kernel
theorem dX11_letout_0 : decode cX11_letout 0 = .ok (.aload_n 0, 1) := by decide +kernel
theorem dX11_letout_1 : decode cX11_letout 1 = .ok (.iload_n 1, 1) := by decide +kernel
theorem dX11_letout_2 : decode cX11_letout 2 = .ok (.invokevirtual 455, 3) := by decide +kernel
theorem dX11_letout_5 : decode cX11_letout 5 = .ok (.ifCond .eq 36, 3) := by decide +kernel
theorem dX11_letout_8 : decode cX11_letout 8 = .ok (.iload_n 2, 1) := by decide +kernel
theorem dX11_letout_9 : decode cX11_letout 9 = .ok (.iconst 1, 1) := by decide +kernel
theorem dX11_letout_10 : decode cX11_letout 10 = .ok (.aload_n 0, 1) := by decide +kernel
theorem dX11_letout_11 : decode cX11_letout 11 = .ok (.getfield 93, 3) := by decide +kernel
theorem dX11_letout_14 : decode cX11_letout 14 = .ok (.bipush 24, 2) := by decide +kernel
theorem dX11_letout_16 : decode cX11_letout 16 = .ok (.iload_n 1, 1) := by decide +kernel
theorem dX11_letout_17 : decode cX11_letout 17 = .ok (.iadd, 1) := by decide +kernel
theorem dX11_letout_18 : decode cX11_letout 18 = .ok (.iaload, 1) := by decide +kernel
theorem dX11_letout_19 : decode cX11_letout 19 = .ok (.invokestatic 417, 3) := by decide +kernel
theorem dX11_letout_22 : decode cX11_letout 22 = .ok (.ifCond .eq 19, 3) := by decide +kernel
theorem dX11_letout_25 : decode cX11_letout 25 = .ok (.aload_n 0, 1) := by decide +kernel
theorem dX11_letout_26 : decode cX11_letout 26 = .ok (.getfield 93, 3) := by decide +kernel
theorem dX11_letout_29 : decode cX11_letout 29 = .ok (.bipush 18, 2) := by decide +kernel
theorem dX11_letout_31 : decode cX11_letout 31 = .ok (.iload_n 1, 1) := by decide +kernel
theorem dX11_letout_32 : decode cX11_letout 32 = .ok (.iadd, 1) := by decide +kernel
theorem dX11_letout_33 : decode cX11_letout 33 = .ok (.iaload, 1) := by decide +kernel
theorem dX11_letout_34 : decode cX11_letout 34 = .ok (.iload_n 2, 1) := by decide +kernel
theorem dX11_letout_35 : decode cX11_letout 35 = .ok (.iadd, 1) := by decide +kernel
theorem dX11_letout_36 : decode cX11_letout 36 = .ok (.bipush 99, 2) := by decide +kernel
theorem dX11_letout_38 : decode cX11_letout 38 = .ok (.if_icmp .le 5, 3) := by decide +kernel
theorem dX11_letout_41 : decode cX11_letout 41 = .ok (.iconst (-1), 1) := by decide +kernel
theorem dX11_letout_42 : decode cX11_letout 42 = .ok (.ireturn, 1) := by decide +kernel
theorem dX11_letout_43 : decode cX11_letout 43 = .ok (.aload_n 0, 1) := by decide +kernel
theorem dX11_letout_44 : decode cX11_letout 44 = .ok (.invokevirtual 458, 3) := by decide +kernel
theorem dX11_letout_47 : decode cX11_letout 47 = .ok (.aload_n 0, 1) := by decide +kernel
theorem dX11_letout_48 : decode cX11_letout 48 = .ok (.getfield 93, 3) := by decide +kernel
theorem dX11_letout_51 : decode cX11_letout 51 = .ok (.bipush 24, 2) := by decide +kernel
theorem dX11_letout_53 : decode cX11_letout 53 = .ok (.iload_n 1, 1) := by decide +kernel
theorem dX11_letout_54 : decode cX11_letout 54 = .ok (.iadd, 1) := by decide +kernel
theorem dX11_letout_55 : decode cX11_letout 55 = .ok (.dup2, 1) := by decide +kernel
theorem dX11_letout_56 : decode cX11_letout 56 = .ok (.iaload, 1) := by decide +kernel
theorem dX11_letout_57 : decode cX11_letout 57 = .ok (.iload_n 2, 1) := by decide +kernel
theorem dX11_letout_58 : decode cX11_letout 58 = .ok (.isub, 1) := by decide +kernel
theorem dX11_letout_59 : decode cX11_letout 59 = .ok (.iastore, 1) := by decide +kernel
theorem dX11_letout_60 : decode cX11_letout 60 = .ok (.aload_n 0, 1) := by decide +kernel
theorem dX11_letout_61 : decode cX11_letout 61 = .ok (.getfield 93, 3) := by decide +kernel
theorem dX11_letout_64 : decode cX11_letout 64 = .ok (.bipush 18, 2) := by decide +kernel
theorem dX11_letout_66 : decode cX11_letout 66 = .ok (.iload_n 1, 1) := by decide +kernel
theorem dX11_letout_67 : decode cX11_letout 67 = .ok (.iadd, 1) := by decide +kernel
theorem dX11_letout_68 : decode cX11_letout 68 = .ok (.dup2, 1) := by decide +kernel
theorem dX11_letout_69 : decode cX11_letout 69 = .ok (.iaload, 1) := by decide +kernel
theorem dX11_letout_70 : decode cX11_letout 70 = .ok (.iload_n 2, 1) := by decide +kernel
theorem dX11_letout_71 : decode cX11_letout 71 = .ok (.iadd, 1) := by decide +kernel
theorem dX11_letout_72 : decode cX11_letout 72 = .ok (.iastore, 1) := by decide +kernel
theorem dX11_letout_73 : decode cX11_letout 73 = .ok (.aload_n 0, 1) := by decide +kernel
theorem dX11_letout_74 : decode cX11_letout 74 = .ok (.getfield 93, 3) := by decide +kernel
theorem dX11_letout_77 : decode cX11_letout 77 = .ok (.bipush 18, 2) := by decide +kernel
theorem dX11_letout_79 : decode cX11_letout 79 = .ok (.iload_n 1, 1) := by decide +kernel
theorem dX11_letout_80 : decode cX11_letout 80 = .ok (.iadd, 1) := by decide +kernel
theorem dX11_letout_81 : decode cX11_letout 81 = .ok (.iaload, 1) := by decide +kernel
theorem dX11_letout_82 : decode cX11_letout 82 = .ok (.ireturn, 1) := by decide +kernel
theorem dX11_lies_0 : decode cX11_lies 0 = .ok (.iload_n 1, 1) := by decide +kernel
theorem dX11_lies_1 : decode cX11_lies 1 = .ok (.iconst 0, 1) := by decide +kernel
theorem dX11_lies_2 : decode cX11_lies 2 = .ok (.aload_n 0, 1) := by decide +kernel
theorem dX11_lies_3 : decode cX11_lies 3 = .ok (.getfield 414, 3) := by decide +kernel
theorem dX11_lies_6 : decode cX11_lies 6 = .ok (.iconst 1, 1) := by decide +kernel
theorem dX11_lies_7 : decode cX11_lies 7 = .ok (.isub, 1) := by decide +kernel
theorem dX11_lies_8 : decode cX11_lies 8 = .ok (.invokestatic 417, 3) := by decide +kernel
theorem dX11_lies_11 : decode cX11_lies 11 = .ok (.ifCond .eq 12, 3) := by decide +kernel
theorem dX11_lies_14 : decode cX11_lies 14 = .ok (.aload_n 0, 1) := by decide +kernel
theorem dX11_lies_15 : decode cX11_lies 15 = .ok (.getfield 102, 3) := by decide +kernel
theorem dX11_lies_18 : decode cX11_lies 18 = .ok (.iload_n 1, 1) := by decide +kernel
theorem dX11_lies_19 : decode cX11_lies 19 = .ok (.iaload, 1) := by decide +kernel
theorem dX11_lies_20 : decode cX11_lies 20 = .ok (.goto 5, 3) := by decide +kernel
theorem dX11_lies_23 : decode cX11_lies 23 = .ok (.bipush (-2), 2) := by decide +kernel
theorem dX11_lies_25 : decode cX11_lies 25 = .ok (.ireturn, 1) := by decide +kernel
theorem dX11_man_0 : decode cX11_man 0 = .ok (.aload_n 0, 1) := by decide +kernel
theorem dX11_man_1 : decode cX11_man 1 = .ok (.iload_n 1, 1) := by decide +kernel
theorem dX11_man_2 : decode cX11_man 2 = .ok (.invokevirtual 446, 3) := by decide +kernel
theorem dX11_man_5 : decode cX11_man 5 = .ok (.ifCond .ne 6, 3) := by decide +kernel
theorem dX11_man_8 : decode cX11_man 8 = .ok (.bipush (-2), 2) := by decide +kernel
theorem dX11_man_10 : decode cX11_man 10 = .ok (.ireturn, 1) := by decide +kernel
theorem dX11_man_11 : decode cX11_man 11 = .ok (.aload_n 0, 1) := by decide +kernel
theorem dX11_man_12 : decode cX11_man 12 = .ok (.invokevirtual 449, 3) := by decide +kernel
theorem dX11_man_15 : decode cX11_man 15 = .ok (.iload_n 2, 1) := by decide +kernel
theorem dX11_man_16 : decode cX11_man 16 = .ok (.tableswitch 73 0 4 #[36, 43, 50, 57, 67], 36) := by decide +kernel
theorem dX11_man_52 : decode cX11_man 52 = .ok (.aload_n 0, 1) := by decide +kernel
theorem dX11_man_53 : decode cX11_man 53 = .ok (.getfield 63, 3) := by decide +kernel
theorem dX11_man_56 : decode cX11_man 56 = .ok (.iload_n 1, 1) := by decide +kernel
theorem dX11_man_57 : decode cX11_man 57 = .ok (.iaload, 1) := by decide +kernel
theorem dX11_man_58 : decode cX11_man 58 = .ok (.ireturn, 1) := by decide +kernel
theorem dX11_man_59 : decode cX11_man 59 = .ok (.aload_n 0, 1) := by decide +kernel
theorem dX11_man_60 : decode cX11_man 60 = .ok (.getfield 96, 3) := by decide +kernel
theorem dX11_man_63 : decode cX11_man 63 = .ok (.iload_n 1, 1) := by decide +kernel
theorem dX11_man_64 : decode cX11_man 64 = .ok (.iaload, 1) := by decide +kernel
theorem dX11_man_65 : decode cX11_man 65 = .ok (.ireturn, 1) := by decide +kernel
theorem dX11_man_66 : decode cX11_man 66 = .ok (.aload_n 0, 1) := by decide +kernel
theorem dX11_man_67 : decode cX11_man 67 = .ok (.getfield 69, 3) := by decide +kernel
theorem dX11_man_70 : decode cX11_man 70 = .ok (.iload_n 1, 1) := by decide +kernel
theorem dX11_man_71 : decode cX11_man 71 = .ok (.iaload, 1) := by decide +kernel
theorem dX11_man_72 : decode cX11_man 72 = .ok (.ireturn, 1) := by decide +kernel
theorem dX11_man_73 : decode cX11_man 73 = .ok (.aload_n 0, 1) := by decide +kernel
theorem dX11_man_74 : decode cX11_man 74 = .ok (.getfield 96, 3) := by decide +kernel
theorem dX11_man_77 : decode cX11_man 77 = .ok (.bipush 6, 2) := by decide +kernel
theorem dX11_man_79 : decode cX11_man 79 = .ok (.iload_n 1, 1) := by decide +kernel
theorem dX11_man_80 : decode cX11_man 80 = .ok (.iadd, 1) := by decide +kernel
theorem dX11_man_81 : decode cX11_man 81 = .ok (.iaload, 1) := by decide +kernel
theorem dX11_man_82 : decode cX11_man 82 = .ok (.ireturn, 1) := by decide +kernel
theorem dX11_man_83 : decode cX11_man 83 = .ok (.aload_n 0, 1) := by decide +kernel
theorem dX11_man_84 : decode cX11_man 84 = .ok (.iload_n 1, 1) := by decide +kernel
theorem dX11_man_85 : decode cX11_man 85 = .ok (.invokevirtual 452, 3) := by decide +kernel
theorem dX11_man_88 : decode cX11_man 88 = .ok (.ireturn, 1) := by decide +kernel
theorem dX11_man_89 : decode cX11_man 89 = .ok (.bipush (-2), 2) := by decide +kernel
theorem dX11_man_91 : decode cX11_man 91 = .ok (.ireturn, 1) := by decide +kernel
theorem dX11_mayNot_0 : decode cX11_mayNot 0 = .ok (.aload_n 0, 1) := by decide +kernel
theorem dX11_mayNot_1 : decode cX11_mayNot 1 = .ok (.getfield 256, 3) := by decide +kernel
theorem dX11_mayNot_4 : decode cX11_mayNot 4 = .ok (.ifCond .eq 37, 3) := by decide +kernel
theorem dX11_mayNot_7 : decode cX11_mayNot 7 = .ok (.aload_n 0, 1) := by decide +kernel
theorem dX11_mayNot_8 : decode cX11_mayNot 8 = .ok (.getfield 33, 3) := by decide +kernel
theorem dX11_mayNot_11 : decode cX11_mayNot 11 = .ok (.aload_n 0, 1) := by decide +kernel
theorem dX11_mayNot_12 : decode cX11_mayNot 12 = .ok (.getfield 256, 3) := by decide +kernel
theorem dX11_mayNot_15 : decode cX11_mayNot 15 = .ok (.iconst 1, 1) := by decide +kernel
theorem dX11_mayNot_16 : decode cX11_mayNot 16 = .ok (.isub, 1) := by decide +kernel
theorem dX11_mayNot_17 : decode cX11_mayNot 17 = .ok (.iaload, 1) := by decide +kernel
theorem dX11_mayNot_18 : decode cX11_mayNot 18 = .ok (.bipush 20, 2) := by decide +kernel
theorem dX11_mayNot_20 : decode cX11_mayNot 20 = .ok (.if_icmp .eq 21, 3) := by decide +kernel
theorem dX11_mayNot_23 : decode cX11_mayNot 23 = .ok (.aload_n 0, 1) := by decide +kernel
theorem dX11_mayNot_24 : decode cX11_mayNot 24 = .ok (.getfield 33, 3) := by decide +kernel
theorem dX11_mayNot_27 : decode cX11_mayNot 27 = .ok (.aload_n 0, 1) := by decide +kernel
theorem dX11_mayNot_28 : decode cX11_mayNot 28 = .ok (.getfield 256, 3) := by decide +kernel
theorem dX11_mayNot_31 : decode cX11_mayNot 31 = .ok (.iconst 1, 1) := by decide +kernel
theorem dX11_mayNot_32 : decode cX11_mayNot 32 = .ok (.isub, 1) := by decide +kernel
theorem dX11_mayNot_33 : decode cX11_mayNot 33 = .ok (.iaload, 1) := by decide +kernel
theorem dX11_mayNot_34 : decode cX11_mayNot 34 = .ok (.invokestatic 259, 3) := by decide +kernel
theorem dX11_mayNot_37 : decode cX11_mayNot 37 = .ok (.iconst 4, 1) := by decide +kernel
theorem dX11_mayNot_38 : decode cX11_mayNot 38 = .ok (.if_icmp .ge 7, 3) := by decide +kernel
theorem dX11_mayNot_41 : decode cX11_mayNot 41 = .ok (.iconst 1, 1) := by decide +kernel
theorem dX11_mayNot_42 : decode cX11_mayNot 42 = .ok (.goto 4, 3) := by decide +kernel
theorem dX11_mayNot_45 : decode cX11_mayNot 45 = .ok (.iconst 0, 1) := by decide +kernel
theorem dX11_mayNot_46 : decode cX11_mayNot 46 = .ok (.ireturn, 1) := by decide +kernel
theorem dX11_members_0 : decode cX11_members 0 = .ok (.iconst 0, 1) := by decide +kernel
theorem dX11_members_1 : decode cX11_members 1 = .ok (.istore_n 1, 1) := by decide +kernel
theorem dX11_members_2 : decode cX11_members 2 = .ok (.iconst 0, 1) := by decide +kernel
theorem dX11_members_3 : decode cX11_members 3 = .ok (.istore_n 2, 1) := by decide +kernel
theorem dX11_members_4 : decode cX11_members 4 = .ok (.iload_n 2, 1) := by decide +kernel
theorem dX11_members_5 : decode cX11_members 5 = .ok (.bipush 6, 2) := by decide +kernel
theorem dX11_members_7 : decode cX11_members 7 = .ok (.if_icmp .ge 17, 3) := by decide +kernel
theorem dX11_members_10 : decode cX11_members 10 = .ok (.iload_n 1, 1) := by decide +kernel
theorem dX11_members_11 : decode cX11_members 11 = .ok (.iload_n 0, 1) := by decide +kernel
theorem dX11_members_12 : decode cX11_members 12 = .ok (.iload_n 2, 1) := by decide +kernel
theorem dX11_members_13 : decode cX11_members 13 = .ok (.ishr, 1) := by decide +kernel
theorem dX11_members_14 : decode cX11_members 14 = .ok (.iconst 1, 1) := by decide +kernel
theorem dX11_members_15 : decode cX11_members 15 = .ok (.iand, 1) := by decide +kernel
theorem dX11_members_16 : decode cX11_members 16 = .ok (.iadd, 1) := by decide +kernel
theorem dX11_members_17 : decode cX11_members 17 = .ok (.istore_n 1, 1) := by decide +kernel
theorem dX11_members_18 : decode cX11_members 18 = .ok (.iinc 2 1, 3) := by decide +kernel
theorem dX11_members_21 : decode cX11_members 21 = .ok (.goto (-17), 3) := by decide +kernel
theorem dX11_members_24 : decode cX11_members 24 = .ok (.iload_n 1, 1) := by decide +kernel
theorem dX11_members_25 : decode cX11_members 25 = .ok (.ireturn, 1) := by decide +kernel
theorem dX11_menFor_0 : decode cX11_menFor 0 = .ok (.iconst 0, 1) := by decide +kernel
theorem dX11_menFor_1 : decode cX11_menFor 1 = .ok (.istore_n 2, 1) := by decide +kernel
theorem dX11_menFor_2 : decode cX11_menFor 2 = .ok (.iconst 0, 1) := by decide +kernel
theorem dX11_menFor_3 : decode cX11_menFor 3 = .ok (.istore_n 3, 1) := by decide +kernel
theorem dX11_menFor_4 : decode cX11_menFor 4 = .ok (.iload_n 3, 1) := by decide +kernel
theorem dX11_menFor_5 : decode cX11_menFor 5 = .ok (.aload_n 0, 1) := by decide +kernel
theorem dX11_menFor_6 : decode cX11_menFor 6 = .ok (.getfield 387, 3) := by decide +kernel
theorem dX11_menFor_9 : decode cX11_menFor 9 = .ok (.if_icmp .ge 21, 3) := by decide +kernel
theorem dX11_menFor_12 : decode cX11_menFor 12 = .ok (.iload_n 2, 1) := by decide +kernel
theorem dX11_menFor_13 : decode cX11_menFor 13 = .ok (.aload_n 0, 1) := by decide +kernel
theorem dX11_menFor_14 : decode cX11_menFor 14 = .ok (.iload_n 3, 1) := by decide +kernel
theorem dX11_menFor_15 : decode cX11_menFor 15 = .ok (.iload_n 1, 1) := by decide +kernel
theorem dX11_menFor_16 : decode cX11_menFor 16 = .ok (.invokevirtual 424, 3) := by decide +kernel
theorem dX11_menFor_19 : decode cX11_menFor 19 = .ok (.invokestatic 310, 3) := by decide +kernel
theorem dX11_menFor_22 : decode cX11_menFor 22 = .ok (.iadd, 1) := by decide +kernel
theorem dX11_menFor_23 : decode cX11_menFor 23 = .ok (.istore_n 2, 1) := by decide +kernel
theorem dX11_menFor_24 : decode cX11_menFor 24 = .ok (.iinc 3 1, 3) := by decide +kernel
theorem dX11_menFor_27 : decode cX11_menFor 27 = .ok (.goto (-23), 3) := by decide +kernel
theorem dX11_menFor_30 : decode cX11_menFor 30 = .ok (.iload_n 2, 1) := by decide +kernel
theorem dX11_menFor_31 : decode cX11_menFor 31 = .ok (.ireturn, 1) := by decide +kernel
theorem dX11_misfit_0 : decode cX11_misfit 0 = .ok (.aload_n 0, 1) := by decide +kernel
theorem dX11_misfit_1 : decode cX11_misfit 1 = .ok (.invokevirtual 449, 3) := by decide +kernel
theorem dX11_misfit_4 : decode cX11_misfit 4 = .ok (.aload_n 0, 1) := by decide +kernel
theorem dX11_misfit_5 : decode cX11_misfit 5 = .ok (.iload_n 1, 1) := by decide +kernel
theorem dX11_misfit_6 : decode cX11_misfit 6 = .ok (.invokevirtual 446, 3) := by decide +kernel
theorem dX11_misfit_9 : decode cX11_misfit 9 = .ok (.ifCond .eq 20, 3) := by decide +kernel
theorem dX11_misfit_12 : decode cX11_misfit 12 = .ok (.aload_n 0, 1) := by decide +kernel
theorem dX11_misfit_13 : decode cX11_misfit 13 = .ok (.iload_n 2, 1) := by decide +kernel
theorem dX11_misfit_14 : decode cX11_misfit 14 = .ok (.invokevirtual 455, 3) := by decide +kernel
theorem dX11_misfit_17 : decode cX11_misfit 17 = .ok (.ifCond .eq 12, 3) := by decide +kernel
theorem dX11_misfit_20 : decode cX11_misfit 20 = .ok (.aload_n 0, 1) := by decide +kernel
theorem dX11_misfit_21 : decode cX11_misfit 21 = .ok (.iload_n 1, 1) := by decide +kernel
theorem dX11_misfit_22 : decode cX11_misfit 22 = .ok (.iload_n 2, 1) := by decide +kernel
theorem dX11_misfit_23 : decode cX11_misfit 23 = .ok (.invokevirtual 421, 3) := by decide +kernel
theorem dX11_misfit_26 : decode cX11_misfit 26 = .ok (.goto 4, 3) := by decide +kernel
theorem dX11_misfit_29 : decode cX11_misfit 29 = .ok (.iconst (-1), 1) := by decide +kernel
theorem dX11_misfit_30 : decode cX11_misfit 30 = .ok (.ireturn, 1) := by decide +kernel
theorem dX11_misfitOf_0 : decode cX11_misfitOf 0 = .ok (.aload_n 0, 1) := by decide +kernel
theorem dX11_misfitOf_1 : decode cX11_misfitOf 1 = .ok (.getfield 39, 3) := by decide +kernel
theorem dX11_misfitOf_4 : decode cX11_misfitOf 4 = .ok (.iconst 0, 1) := by decide +kernel
theorem dX11_misfitOf_5 : decode cX11_misfitOf 5 = .ok (.aload_n 0, 1) := by decide +kernel
theorem dX11_misfitOf_6 : decode cX11_misfitOf 6 = .ok (.getfield 96, 3) := by decide +kernel
theorem dX11_misfitOf_9 : decode cX11_misfitOf 9 = .ok (.iload_n 1, 1) := by decide +kernel
theorem dX11_misfitOf_10 : decode cX11_misfitOf 10 = .ok (.iaload, 1) := by decide +kernel
theorem dX11_misfitOf_11 : decode cX11_misfitOf 11 = .ok (.aload_n 0, 1) := by decide +kernel
theorem dX11_misfitOf_12 : decode cX11_misfitOf 12 = .ok (.getfield 96, 3) := by decide +kernel
theorem dX11_misfitOf_15 : decode cX11_misfitOf 15 = .ok (.bipush 18, 2) := by decide +kernel
theorem dX11_misfitOf_17 : decode cX11_misfitOf 17 = .ok (.iload_n 2, 1) := by decide +kernel
theorem dX11_misfitOf_18 : decode cX11_misfitOf 18 = .ok (.iadd, 1) := by decide +kernel
theorem dX11_misfitOf_19 : decode cX11_misfitOf 19 = .ok (.iaload, 1) := by decide +kernel
theorem dX11_misfitOf_20 : decode cX11_misfitOf 20 = .ok (.invokestatic 314, 3) := by decide +kernel
theorem dX11_misfitOf_23 : decode cX11_misfitOf 23 = .ok (.iastore, 1) := by decide +kernel
theorem dX11_misfitOf_24 : decode cX11_misfitOf 24 = .ok (.aload_n 0, 1) := by decide +kernel
theorem dX11_misfitOf_25 : decode cX11_misfitOf 25 = .ok (.getfield 39, 3) := by decide +kernel
theorem dX11_misfitOf_28 : decode cX11_misfitOf 28 = .ok (.iconst 1, 1) := by decide +kernel
theorem dX11_misfitOf_29 : decode cX11_misfitOf 29 = .ok (.aload_n 0, 1) := by decide +kernel
theorem dX11_misfitOf_30 : decode cX11_misfitOf 30 = .ok (.getfield 96, 3) := by decide +kernel
theorem dX11_misfitOf_33 : decode cX11_misfitOf 33 = .ok (.bipush 18, 2) := by decide +kernel
theorem dX11_misfitOf_35 : decode cX11_misfitOf 35 = .ok (.iload_n 2, 1) := by decide +kernel
theorem dX11_misfitOf_36 : decode cX11_misfitOf 36 = .ok (.iadd, 1) := by decide +kernel
theorem dX11_misfitOf_37 : decode cX11_misfitOf 37 = .ok (.iaload, 1) := by decide +kernel
theorem dX11_misfitOf_38 : decode cX11_misfitOf 38 = .ok (.aload_n 0, 1) := by decide +kernel
theorem dX11_misfitOf_39 : decode cX11_misfitOf 39 = .ok (.getfield 96, 3) := by decide +kernel
theorem dX11_misfitOf_42 : decode cX11_misfitOf 42 = .ok (.iload_n 1, 1) := by decide +kernel
theorem dX11_misfitOf_43 : decode cX11_misfitOf 43 = .ok (.iaload, 1) := by decide +kernel
theorem dX11_misfitOf_44 : decode cX11_misfitOf 44 = .ok (.invokestatic 314, 3) := by decide +kernel
theorem dX11_misfitOf_47 : decode cX11_misfitOf 47 = .ok (.iastore, 1) := by decide +kernel
theorem dX11_misfitOf_48 : decode cX11_misfitOf 48 = .ok (.aload_n 0, 1) := by decide +kernel
theorem dX11_misfitOf_49 : decode cX11_misfitOf 49 = .ok (.getfield 39, 3) := by decide +kernel
theorem dX11_misfitOf_52 : decode cX11_misfitOf 52 = .ok (.iconst 2, 1) := by decide +kernel
theorem dX11_misfitOf_53 : decode cX11_misfitOf 53 = .ok (.aload_n 0, 1) := by decide +kernel
theorem dX11_misfitOf_54 : decode cX11_misfitOf 54 = .ok (.getfield 63, 3) := by decide +kernel
theorem dX11_misfitOf_57 : decode cX11_misfitOf 57 = .ok (.iload_n 1, 1) := by decide +kernel
theorem dX11_misfitOf_58 : decode cX11_misfitOf 58 = .ok (.iaload, 1) := by decide +kernel
theorem dX11_misfitOf_59 : decode cX11_misfitOf 59 = .ok (.aload_n 0, 1) := by decide +kernel
theorem dX11_misfitOf_60 : decode cX11_misfitOf 60 = .ok (.getfield 96, 3) := by decide +kernel
theorem dX11_misfitOf_63 : decode cX11_misfitOf 63 = .ok (.bipush 12, 2) := by decide +kernel
theorem dX11_misfitOf_65 : decode cX11_misfitOf 65 = .ok (.iload_n 2, 1) := by decide +kernel
theorem dX11_misfitOf_66 : decode cX11_misfitOf 66 = .ok (.iadd, 1) := by decide +kernel
theorem dX11_misfitOf_67 : decode cX11_misfitOf 67 = .ok (.iaload, 1) := by decide +kernel
theorem dX11_misfitOf_68 : decode cX11_misfitOf 68 = .ok (.invokestatic 314, 3) := by decide +kernel
theorem dX11_misfitOf_71 : decode cX11_misfitOf 71 = .ok (.iastore, 1) := by decide +kernel
theorem dX11_misfitOf_72 : decode cX11_misfitOf 72 = .ok (.aload_n 0, 1) := by decide +kernel
theorem dX11_misfitOf_73 : decode cX11_misfitOf 73 = .ok (.getfield 39, 3) := by decide +kernel
theorem dX11_misfitOf_76 : decode cX11_misfitOf 76 = .ok (.iconst 3, 1) := by decide +kernel
theorem dX11_misfitOf_77 : decode cX11_misfitOf 77 = .ok (.aload_n 0, 1) := by decide +kernel
theorem dX11_misfitOf_78 : decode cX11_misfitOf 78 = .ok (.getfield 96, 3) := by decide +kernel
theorem dX11_misfitOf_81 : decode cX11_misfitOf 81 = .ok (.bipush 12, 2) := by decide +kernel
theorem dX11_misfitOf_83 : decode cX11_misfitOf 83 = .ok (.iload_n 2, 1) := by decide +kernel
theorem dX11_misfitOf_84 : decode cX11_misfitOf 84 = .ok (.iadd, 1) := by decide +kernel
theorem dX11_misfitOf_85 : decode cX11_misfitOf 85 = .ok (.iaload, 1) := by decide +kernel
theorem dX11_misfitOf_86 : decode cX11_misfitOf 86 = .ok (.aload_n 0, 1) := by decide +kernel
theorem dX11_misfitOf_87 : decode cX11_misfitOf 87 = .ok (.getfield 63, 3) := by decide +kernel
theorem dX11_misfitOf_90 : decode cX11_misfitOf 90 = .ok (.iload_n 1, 1) := by decide +kernel
theorem dX11_misfitOf_91 : decode cX11_misfitOf 91 = .ok (.iaload, 1) := by decide +kernel
theorem dX11_misfitOf_92 : decode cX11_misfitOf 92 = .ok (.invokestatic 314, 3) := by decide +kernel
theorem dX11_misfitOf_95 : decode cX11_misfitOf 95 = .ok (.iastore, 1) := by decide +kernel
theorem dX11_misfitOf_96 : decode cX11_misfitOf 96 = .ok (.aload_n 0, 1) := by decide +kernel
theorem dX11_misfitOf_97 : decode cX11_misfitOf 97 = .ok (.getfield 39, 3) := by decide +kernel
theorem dX11_misfitOf_100 : decode cX11_misfitOf 100 = .ok (.iconst 4, 1) := by decide +kernel
theorem dX11_misfitOf_101 : decode cX11_misfitOf 101 = .ok (.aload_n 0, 1) := by decide +kernel
theorem dX11_misfitOf_102 : decode cX11_misfitOf 102 = .ok (.getfield 96, 3) := by decide +kernel
theorem dX11_misfitOf_105 : decode cX11_misfitOf 105 = .ok (.bipush 30, 2) := by decide +kernel
theorem dX11_misfitOf_107 : decode cX11_misfitOf 107 = .ok (.iload_n 2, 1) := by decide +kernel
theorem dX11_misfitOf_108 : decode cX11_misfitOf 108 = .ok (.iadd, 1) := by decide +kernel
theorem dX11_misfitOf_109 : decode cX11_misfitOf 109 = .ok (.iaload, 1) := by decide +kernel
theorem dX11_misfitOf_110 : decode cX11_misfitOf 110 = .ok (.iastore, 1) := by decide +kernel
theorem dX11_misfitOf_111 : decode cX11_misfitOf 111 = .ok (.aload_n 0, 1) := by decide +kernel
theorem dX11_misfitOf_112 : decode cX11_misfitOf 112 = .ok (.getfield 39, 3) := by decide +kernel
theorem dX11_misfitOf_115 : decode cX11_misfitOf 115 = .ok (.iconst 5, 1) := by decide +kernel
theorem dX11_misfitOf_116 : decode cX11_misfitOf 116 = .ok (.aload_n 0, 1) := by decide +kernel
theorem dX11_misfitOf_117 : decode cX11_misfitOf 117 = .ok (.getfield 96, 3) := by decide +kernel
theorem dX11_misfitOf_120 : decode cX11_misfitOf 120 = .ok (.bipush 37, 2) := by decide +kernel
theorem dX11_misfitOf_122 : decode cX11_misfitOf 122 = .ok (.iaload, 1) := by decide +kernel
theorem dX11_misfitOf_123 : decode cX11_misfitOf 123 = .ok (.iastore, 1) := by decide +kernel
theorem dX11_misfitOf_124 : decode cX11_misfitOf 124 = .ok (.aload_n 0, 1) := by decide +kernel
theorem dX11_misfitOf_125 : decode cX11_misfitOf 125 = .ok (.getfield 317, 3) := by decide +kernel
theorem dX11_misfitOf_128 : decode cX11_misfitOf 128 = .ok (.ifCond .ne 48, 3) := by decide +kernel
theorem dX11_misfitOf_131 : decode cX11_misfitOf 131 = .ok (.iconst 3, 1) := by decide +kernel
theorem dX11_misfitOf_132 : decode cX11_misfitOf 132 = .ok (.aload_n 0, 1) := by decide +kernel
theorem dX11_misfitOf_133 : decode cX11_misfitOf 133 = .ok (.getfield 39, 3) := by decide +kernel
theorem dX11_misfitOf_136 : decode cX11_misfitOf 136 = .ok (.iconst 0, 1) := by decide +kernel
theorem dX11_misfitOf_137 : decode cX11_misfitOf 137 = .ok (.iaload, 1) := by decide +kernel
theorem dX11_misfitOf_138 : decode cX11_misfitOf 138 = .ok (.imul, 1) := by decide +kernel
theorem dX11_misfitOf_139 : decode cX11_misfitOf 139 = .ok (.aload_n 0, 1) := by decide +kernel
theorem dX11_misfitOf_140 : decode cX11_misfitOf 140 = .ok (.getfield 39, 3) := by decide +kernel
theorem dX11_misfitOf_143 : decode cX11_misfitOf 143 = .ok (.iconst 1, 1) := by decide +kernel
theorem dX11_misfitOf_144 : decode cX11_misfitOf 144 = .ok (.iaload, 1) := by decide +kernel
theorem dX11_misfitOf_145 : decode cX11_misfitOf 145 = .ok (.iadd, 1) := by decide +kernel
theorem dX11_misfitOf_146 : decode cX11_misfitOf 146 = .ok (.iconst 2, 1) := by decide +kernel
theorem dX11_misfitOf_147 : decode cX11_misfitOf 147 = .ok (.aload_n 0, 1) := by decide +kernel
theorem dX11_misfitOf_148 : decode cX11_misfitOf 148 = .ok (.getfield 39, 3) := by decide +kernel
theorem dX11_misfitOf_151 : decode cX11_misfitOf 151 = .ok (.iconst 2, 1) := by decide +kernel
theorem dX11_misfitOf_152 : decode cX11_misfitOf 152 = .ok (.iaload, 1) := by decide +kernel
theorem dX11_misfitOf_153 : decode cX11_misfitOf 153 = .ok (.imul, 1) := by decide +kernel
theorem dX11_misfitOf_154 : decode cX11_misfitOf 154 = .ok (.iadd, 1) := by decide +kernel
theorem dX11_misfitOf_155 : decode cX11_misfitOf 155 = .ok (.aload_n 0, 1) := by decide +kernel
theorem dX11_misfitOf_156 : decode cX11_misfitOf 156 = .ok (.getfield 39, 3) := by decide +kernel
theorem dX11_misfitOf_159 : decode cX11_misfitOf 159 = .ok (.iconst 3, 1) := by decide +kernel
theorem dX11_misfitOf_160 : decode cX11_misfitOf 160 = .ok (.iaload, 1) := by decide +kernel
theorem dX11_misfitOf_161 : decode cX11_misfitOf 161 = .ok (.iadd, 1) := by decide +kernel
theorem dX11_misfitOf_162 : decode cX11_misfitOf 162 = .ok (.aload_n 0, 1) := by decide +kernel
theorem dX11_misfitOf_163 : decode cX11_misfitOf 163 = .ok (.getfield 39, 3) := by decide +kernel
theorem dX11_misfitOf_166 : decode cX11_misfitOf 166 = .ok (.iconst 4, 1) := by decide +kernel
theorem dX11_misfitOf_167 : decode cX11_misfitOf 167 = .ok (.iaload, 1) := by decide +kernel
theorem dX11_misfitOf_168 : decode cX11_misfitOf 168 = .ok (.iadd, 1) := by decide +kernel
theorem dX11_misfitOf_169 : decode cX11_misfitOf 169 = .ok (.sipush 999, 3) := by decide +kernel
theorem dX11_misfitOf_172 : decode cX11_misfitOf 172 = .ok (.invokestatic 320, 3) := by decide +kernel
theorem dX11_misfitOf_175 : decode cX11_misfitOf 175 = .ok (.ireturn, 1) := by decide +kernel
theorem dX11_misfitOf_176 : decode cX11_misfitOf 176 = .ok (.iconst 0, 1) := by decide +kernel
theorem dX11_misfitOf_177 : decode cX11_misfitOf 177 = .ok (.istore_n 3, 1) := by decide +kernel
theorem dX11_misfitOf_178 : decode cX11_misfitOf 178 = .ok (.iconst 0, 1) := by decide +kernel
theorem dX11_misfitOf_179 : decode cX11_misfitOf 179 = .ok (.istore 4, 2) := by decide +kernel
theorem dX11_misfitOf_181 : decode cX11_misfitOf 181 = .ok (.iload 4, 2) := by decide +kernel
theorem dX11_misfitOf_183 : decode cX11_misfitOf 183 = .ok (.aload_n 0, 1) := by decide +kernel
theorem dX11_misfitOf_184 : decode cX11_misfitOf 184 = .ok (.getfield 323, 3) := by decide +kernel
theorem dX11_misfitOf_187 : decode cX11_misfitOf 187 = .ok (.if_icmp .ge 150, 3) := by decide +kernel
theorem dX11_misfitOf_190 : decode cX11_misfitOf 190 = .ok (.aload_n 0, 1) := by decide +kernel
theorem dX11_misfitOf_191 : decode cX11_misfitOf 191 = .ok (.getfield 27, 3) := by decide +kernel
theorem dX11_misfitOf_194 : decode cX11_misfitOf 194 = .ok (.iload 4, 2) := by decide +kernel
theorem dX11_misfitOf_196 : decode cX11_misfitOf 196 = .ok (.iaload, 1) := by decide +kernel
theorem dX11_misfitOf_197 : decode cX11_misfitOf 197 = .ok (.ifCond .eq 14, 3) := by decide +kernel
theorem dX11_misfitOf_200 : decode cX11_misfitOf 200 = .ok (.aload_n 0, 1) := by decide +kernel
theorem dX11_misfitOf_201 : decode cX11_misfitOf 201 = .ok (.getfield 27, 3) := by decide +kernel
theorem dX11_misfitOf_204 : decode cX11_misfitOf 204 = .ok (.iload 4, 2) := by decide +kernel
theorem dX11_misfitOf_206 : decode cX11_misfitOf 206 = .ok (.iaload, 1) := by decide +kernel
theorem dX11_misfitOf_207 : decode cX11_misfitOf 207 = .ok (.iconst 1, 1) := by decide +kernel
theorem dX11_misfitOf_208 : decode cX11_misfitOf 208 = .ok (.if_icmp .ne 47, 3) := by decide +kernel
theorem dX11_misfitOf_211 : decode cX11_misfitOf 211 = .ok (.aload_n 0, 1) := by decide +kernel
theorem dX11_misfitOf_212 : decode cX11_misfitOf 212 = .ok (.getfield 36, 3) := by decide +kernel
theorem dX11_misfitOf_215 : decode cX11_misfitOf 215 = .ok (.iload_n 3, 1) := by decide +kernel
theorem dX11_misfitOf_216 : decode cX11_misfitOf 216 = .ok (.aload_n 0, 1) := by decide +kernel
theorem dX11_misfitOf_217 : decode cX11_misfitOf 217 = .ok (.getfield 27, 3) := by decide +kernel
theorem dX11_misfitOf_220 : decode cX11_misfitOf 220 = .ok (.iload 4, 2) := by decide +kernel
theorem dX11_misfitOf_222 : decode cX11_misfitOf 222 = .ok (.iaload, 1) := by decide +kernel
theorem dX11_misfitOf_223 : decode cX11_misfitOf 223 = .ok (.ifCond .ne 13, 3) := by decide +kernel
theorem dX11_misfitOf_226 : decode cX11_misfitOf 226 = .ok (.aload_n 0, 1) := by decide +kernel
theorem dX11_misfitOf_227 : decode cX11_misfitOf 227 = .ok (.getfield 30, 3) := by decide +kernel
theorem dX11_misfitOf_230 : decode cX11_misfitOf 230 = .ok (.iload 4, 2) := by decide +kernel
theorem dX11_misfitOf_232 : decode cX11_misfitOf 232 = .ok (.iaload, 1) := by decide +kernel
theorem dX11_misfitOf_233 : decode cX11_misfitOf 233 = .ok (.goto 15, 3) := by decide +kernel
theorem dX11_misfitOf_236 : decode cX11_misfitOf 236 = .ok (.aload_n 0, 1) := by decide +kernel
theorem dX11_misfitOf_237 : decode cX11_misfitOf 237 = .ok (.getfield 39, 3) := by decide +kernel
theorem dX11_misfitOf_240 : decode cX11_misfitOf 240 = .ok (.aload_n 0, 1) := by decide +kernel
theorem dX11_misfitOf_241 : decode cX11_misfitOf 241 = .ok (.getfield 30, 3) := by decide +kernel
theorem dX11_misfitOf_244 : decode cX11_misfitOf 244 = .ok (.iload 4, 2) := by decide +kernel
theorem dX11_misfitOf_246 : decode cX11_misfitOf 246 = .ok (.iaload, 1) := by decide +kernel
theorem dX11_misfitOf_247 : decode cX11_misfitOf 247 = .ok (.iaload, 1) := by decide +kernel
theorem dX11_misfitOf_248 : decode cX11_misfitOf 248 = .ok (.iastore, 1) := by decide +kernel
theorem dX11_misfitOf_249 : decode cX11_misfitOf 249 = .ok (.iinc 3 1, 3) := by decide +kernel
theorem dX11_misfitOf_252 : decode cX11_misfitOf 252 = .ok (.goto 79, 3) := by decide +kernel
theorem dX11_misfitOf_255 : decode cX11_misfitOf 255 = .ok (.aload_n 0, 1) := by decide +kernel
theorem dX11_misfitOf_256 : decode cX11_misfitOf 256 = .ok (.getfield 27, 3) := by decide +kernel
theorem dX11_misfitOf_259 : decode cX11_misfitOf 259 = .ok (.iload 4, 2) := by decide +kernel
theorem dX11_misfitOf_261 : decode cX11_misfitOf 261 = .ok (.iaload, 1) := by decide +kernel
theorem dX11_misfitOf_262 : decode cX11_misfitOf 262 = .ok (.iconst 2, 1) := by decide +kernel
theorem dX11_misfitOf_263 : decode cX11_misfitOf 263 = .ok (.if_icmp .ne 33, 3) := by decide +kernel
theorem dX11_misfitOf_266 : decode cX11_misfitOf 266 = .ok (.aload_n 0, 1) := by decide +kernel
theorem dX11_misfitOf_267 : decode cX11_misfitOf 267 = .ok (.getfield 36, 3) := by decide +kernel
theorem dX11_misfitOf_270 : decode cX11_misfitOf 270 = .ok (.iload_n 3, 1) := by decide +kernel
theorem dX11_misfitOf_271 : decode cX11_misfitOf 271 = .ok (.iconst 1, 1) := by decide +kernel
theorem dX11_misfitOf_272 : decode cX11_misfitOf 272 = .ok (.isub, 1) := by decide +kernel
theorem dX11_misfitOf_273 : decode cX11_misfitOf 273 = .ok (.aload_n 0, 1) := by decide +kernel
theorem dX11_misfitOf_274 : decode cX11_misfitOf 274 = .ok (.getfield 36, 3) := by decide +kernel
theorem dX11_misfitOf_277 : decode cX11_misfitOf 277 = .ok (.iload_n 3, 1) := by decide +kernel
theorem dX11_misfitOf_278 : decode cX11_misfitOf 278 = .ok (.iconst 1, 1) := by decide +kernel
theorem dX11_misfitOf_279 : decode cX11_misfitOf 279 = .ok (.isub, 1) := by decide +kernel
theorem dX11_misfitOf_280 : decode cX11_misfitOf 280 = .ok (.iaload, 1) := by decide +kernel
theorem dX11_misfitOf_281 : decode cX11_misfitOf 281 = .ok (.ifCond .ne 7, 3) := by decide +kernel
theorem dX11_misfitOf_284 : decode cX11_misfitOf 284 = .ok (.iconst 1, 1) := by decide +kernel
theorem dX11_misfitOf_285 : decode cX11_misfitOf 285 = .ok (.goto 4, 3) := by decide +kernel
theorem dX11_misfitOf_288 : decode cX11_misfitOf 288 = .ok (.iconst 0, 1) := by decide +kernel
theorem dX11_misfitOf_289 : decode cX11_misfitOf 289 = .ok (.invokestatic 310, 3) := by decide +kernel
theorem dX11_misfitOf_292 : decode cX11_misfitOf 292 = .ok (.iastore, 1) := by decide +kernel
theorem dX11_misfitOf_293 : decode cX11_misfitOf 293 = .ok (.goto 38, 3) := by decide +kernel
theorem dX11_misfitOf_296 : decode cX11_misfitOf 296 = .ok (.iinc 3 (-1), 3) := by decide +kernel
theorem dX11_misfitOf_299 : decode cX11_misfitOf 299 = .ok (.aload_n 0, 1) := by decide +kernel
theorem dX11_misfitOf_300 : decode cX11_misfitOf 300 = .ok (.getfield 36, 3) := by decide +kernel
theorem dX11_misfitOf_303 : decode cX11_misfitOf 303 = .ok (.iload_n 3, 1) := by decide +kernel
theorem dX11_misfitOf_304 : decode cX11_misfitOf 304 = .ok (.iconst 1, 1) := by decide +kernel
theorem dX11_misfitOf_305 : decode cX11_misfitOf 305 = .ok (.isub, 1) := by decide +kernel
theorem dX11_misfitOf_306 : decode cX11_misfitOf 306 = .ok (.aload_n 0, 1) := by decide +kernel
theorem dX11_misfitOf_307 : decode cX11_misfitOf 307 = .ok (.getfield 30, 3) := by decide +kernel
theorem dX11_misfitOf_310 : decode cX11_misfitOf 310 = .ok (.iload 4, 2) := by decide +kernel
theorem dX11_misfitOf_312 : decode cX11_misfitOf 312 = .ok (.iaload, 1) := by decide +kernel
theorem dX11_misfitOf_313 : decode cX11_misfitOf 313 = .ok (.aload_n 0, 1) := by decide +kernel
theorem dX11_misfitOf_314 : decode cX11_misfitOf 314 = .ok (.getfield 36, 3) := by decide +kernel
theorem dX11_misfitOf_317 : decode cX11_misfitOf 317 = .ok (.iload_n 3, 1) := by decide +kernel
theorem dX11_misfitOf_318 : decode cX11_misfitOf 318 = .ok (.iconst 1, 1) := by decide +kernel
theorem dX11_misfitOf_319 : decode cX11_misfitOf 319 = .ok (.isub, 1) := by decide +kernel
theorem dX11_misfitOf_320 : decode cX11_misfitOf 320 = .ok (.iaload, 1) := by decide +kernel
theorem dX11_misfitOf_321 : decode cX11_misfitOf 321 = .ok (.aload_n 0, 1) := by decide +kernel
theorem dX11_misfitOf_322 : decode cX11_misfitOf 322 = .ok (.getfield 36, 3) := by decide +kernel
theorem dX11_misfitOf_325 : decode cX11_misfitOf 325 = .ok (.iload_n 3, 1) := by decide +kernel
theorem dX11_misfitOf_326 : decode cX11_misfitOf 326 = .ok (.iaload, 1) := by decide +kernel
theorem dX11_misfitOf_327 : decode cX11_misfitOf 327 = .ok (.invokestatic 326, 3) := by decide +kernel
theorem dX11_misfitOf_330 : decode cX11_misfitOf 330 = .ok (.iastore, 1) := by decide +kernel
theorem dX11_misfitOf_331 : decode cX11_misfitOf 331 = .ok (.iinc 4 1, 3) := by decide +kernel
theorem dX11_misfitOf_334 : decode cX11_misfitOf 334 = .ok (.goto (-153), 3) := by decide +kernel
theorem dX11_misfitOf_337 : decode cX11_misfitOf 337 = .ok (.aload_n 0, 1) := by decide +kernel
theorem dX11_misfitOf_338 : decode cX11_misfitOf 338 = .ok (.getfield 36, 3) := by decide +kernel
theorem dX11_misfitOf_341 : decode cX11_misfitOf 341 = .ok (.iconst 0, 1) := by decide +kernel
theorem dX11_misfitOf_342 : decode cX11_misfitOf 342 = .ok (.iaload, 1) := by decide +kernel
theorem dX11_misfitOf_343 : decode cX11_misfitOf 343 = .ok (.sipush 999, 3) := by decide +kernel
theorem dX11_misfitOf_346 : decode cX11_misfitOf 346 = .ok (.invokestatic 320, 3) := by decide +kernel
theorem dX11_misfitOf_349 : decode cX11_misfitOf 349 = .ok (.ireturn, 1) := by decide +kernel
theorem dX11_naked_0 : decode cX11_naked 0 = .ok (.aload_n 0, 1) := by decide +kernel
theorem dX11_naked_1 : decode cX11_naked 1 = .ok (.invokevirtual 449, 3) := by decide +kernel
theorem dX11_naked_4 : decode cX11_naked 4 = .ok (.iconst 0, 1) := by decide +kernel
theorem dX11_naked_5 : decode cX11_naked 5 = .ok (.istore_n 1, 1) := by decide +kernel
theorem dX11_naked_6 : decode cX11_naked 6 = .ok (.iconst 0, 1) := by decide +kernel
theorem dX11_naked_7 : decode cX11_naked 7 = .ok (.istore_n 2, 1) := by decide +kernel
theorem dX11_naked_8 : decode cX11_naked 8 = .ok (.iload_n 2, 1) := by decide +kernel
theorem dX11_naked_9 : decode cX11_naked 9 = .ok (.aload_n 0, 1) := by decide +kernel
theorem dX11_naked_10 : decode cX11_naked 10 = .ok (.getfield 387, 3) := by decide +kernel
theorem dX11_naked_13 : decode cX11_naked 13 = .ok (.if_icmp .ge 30, 3) := by decide +kernel
theorem dX11_naked_16 : decode cX11_naked 16 = .ok (.iload_n 1, 1) := by decide +kernel
theorem dX11_naked_17 : decode cX11_naked 17 = .ok (.aload_n 0, 1) := by decide +kernel
theorem dX11_naked_18 : decode cX11_naked 18 = .ok (.iload_n 2, 1) := by decide +kernel
theorem dX11_naked_19 : decode cX11_naked 19 = .ok (.invokevirtual 452, 3) := by decide +kernel
theorem dX11_naked_22 : decode cX11_naked 22 = .ok (.ifCond .ne 7, 3) := by decide +kernel
theorem dX11_naked_25 : decode cX11_naked 25 = .ok (.iconst 1, 1) := by decide +kernel
theorem dX11_naked_26 : decode cX11_naked 26 = .ok (.goto 4, 3) := by decide +kernel
theorem dX11_naked_29 : decode cX11_naked 29 = .ok (.iconst 0, 1) := by decide +kernel
theorem dX11_naked_30 : decode cX11_naked 30 = .ok (.invokestatic 310, 3) := by decide +kernel
theorem dX11_naked_33 : decode cX11_naked 33 = .ok (.iload_n 2, 1) := by decide +kernel
theorem dX11_naked_34 : decode cX11_naked 34 = .ok (.ishl, 1) := by decide +kernel
theorem dX11_naked_35 : decode cX11_naked 35 = .ok (.ior, 1) := by decide +kernel
theorem dX11_naked_36 : decode cX11_naked 36 = .ok (.istore_n 1, 1) := by decide +kernel
theorem dX11_naked_37 : decode cX11_naked 37 = .ok (.iinc 2 1, 3) := by decide +kernel
theorem dX11_naked_40 : decode cX11_naked 40 = .ok (.goto (-32), 3) := by decide +kernel
theorem dX11_naked_43 : decode cX11_naked 43 = .ok (.iload_n 1, 1) := by decide +kernel
theorem dX11_naked_44 : decode cX11_naked 44 = .ok (.ireturn, 1) := by decide +kernel
theorem dX11_newName_0 : decode cX11_newName 0 = .ok (.aload_n 0, 1) := by decide +kernel
theorem dX11_newName_1 : decode cX11_newName 1 = .ok (.invokevirtual 235, 3) := by decide +kernel
theorem dX11_newName_4 : decode cX11_newName 4 = .ok (.aload_n 0, 1) := by decide +kernel
theorem dX11_newName_5 : decode cX11_newName 5 = .ok (.invokevirtual 250, 3) := by decide +kernel
theorem dX11_newName_8 : decode cX11_newName 8 = .ok (.ifCond .ne 8, 3) := by decide +kernel
theorem dX11_newName_11 : decode cX11_newName 11 = .ok (.aload_n 0, 1) := by decide +kernel
theorem dX11_newName_12 : decode cX11_newName 12 = .ok (.iconst 2, 1) := by decide +kernel
theorem dX11_newName_13 : decode cX11_newName 13 = .ok (.invokevirtual 232, 3) := by decide +kernel
theorem dX11_newName_16 : decode cX11_newName 16 = .ok (.iconst 0, 1) := by decide +kernel
theorem dX11_newName_17 : decode cX11_newName 17 = .ok (.istore_n 3, 1) := by decide +kernel
theorem dX11_newName_18 : decode cX11_newName 18 = .ok (.iload_n 3, 1) := by decide +kernel
theorem dX11_newName_19 : decode cX11_newName 19 = .ok (.iload_n 2, 1) := by decide +kernel
theorem dX11_newName_20 : decode cX11_newName 20 = .ok (.if_icmp .ge 37, 3) := by decide +kernel
theorem dX11_newName_23 : decode cX11_newName 23 = .ok (.aload_n 0, 1) := by decide +kernel
theorem dX11_newName_24 : decode cX11_newName 24 = .ok (.getfield 179, 3) := by decide +kernel
theorem dX11_newName_27 : decode cX11_newName 27 = .ok (.ifCond .ne 30, 3) := by decide +kernel
theorem dX11_newName_30 : decode cX11_newName 30 = .ok (.aload_n 0, 1) := by decide +kernel
theorem dX11_newName_31 : decode cX11_newName 31 = .ok (.getfield 17, 3) := by decide +kernel
theorem dX11_newName_34 : decode cX11_newName 34 = .ok (.iload_n 1, 1) := by decide +kernel
theorem dX11_newName_35 : decode cX11_newName 35 = .ok (.iload_n 3, 1) := by decide +kernel
theorem dX11_newName_36 : decode cX11_newName 36 = .ok (.iadd, 1) := by decide +kernel
theorem dX11_newName_37 : decode cX11_newName 37 = .ok (.laload, 1) := by decide +kernel
theorem dX11_newName_38 : decode cX11_newName 38 = .ok (.aload_n 0, 1) := by decide +kernel
theorem dX11_newName_39 : decode cX11_newName 39 = .ok (.getfield 159, 3) := by decide +kernel
theorem dX11_newName_42 : decode cX11_newName 42 = .ok (.lcmp, 1) := by decide +kernel
theorem dX11_newName_43 : decode cX11_newName 43 = .ok (.ifCond .ne 8, 3) := by decide +kernel
theorem dX11_newName_46 : decode cX11_newName 46 = .ok (.aload_n 0, 1) := by decide +kernel
theorem dX11_newName_47 : decode cX11_newName 47 = .ok (.iconst 3, 1) := by decide +kernel
theorem dX11_newName_48 : decode cX11_newName 48 = .ok (.invokevirtual 232, 3) := by decide +kernel
theorem dX11_newName_51 : decode cX11_newName 51 = .ok (.iinc 3 1, 3) := by decide +kernel
theorem dX11_newName_54 : decode cX11_newName 54 = .ok (.goto (-36), 3) := by decide +kernel
theorem dX11_newName_57 : decode cX11_newName 57 = .ok (.aload_n 0, 1) := by decide +kernel
theorem dX11_newName_58 : decode cX11_newName 58 = .ok (.getfield 179, 3) := by decide +kernel
theorem dX11_newName_61 : decode cX11_newName 61 = .ok (.ifCond .le 4, 3) := by decide +kernel
theorem dX11_newName_64 : decode cX11_newName 64 = .ok (.return_, 1) := by decide +kernel
theorem dX11_newName_65 : decode cX11_newName 65 = .ok (.aload_n 0, 1) := by decide +kernel
theorem dX11_newName_66 : decode cX11_newName 66 = .ok (.getfield 17, 3) := by decide +kernel
theorem dX11_newName_69 : decode cX11_newName 69 = .ok (.iload_n 1, 1) := by decide +kernel
theorem dX11_newName_70 : decode cX11_newName 70 = .ok (.iload_n 2, 1) := by decide +kernel
theorem dX11_newName_71 : decode cX11_newName 71 = .ok (.iadd, 1) := by decide +kernel
theorem dX11_newName_72 : decode cX11_newName 72 = .ok (.aload_n 0, 1) := by decide +kernel
theorem dX11_newName_73 : decode cX11_newName 73 = .ok (.getfield 159, 3) := by decide +kernel
theorem dX11_newName_76 : decode cX11_newName 76 = .ok (.lastore, 1) := by decide +kernel
theorem dX11_newName_77 : decode cX11_newName 77 = .ok (.aload_n 0, 1) := by decide +kernel
theorem dX11_newName_78 : decode cX11_newName 78 = .ok (.invokevirtual 235, 3) := by decide +kernel
theorem dX11_newName_81 : decode cX11_newName 81 = .ok (.return_, 1) := by decide +kernel
theorem dX11_odds_0 : decode cX11_odds 0 = .ok (.iload_n 1, 1) := by decide +kernel
theorem dX11_odds_1 : decode cX11_odds 1 = .ok (.iconst 0, 1) := by decide +kernel
theorem dX11_odds_2 : decode cX11_odds 2 = .ok (.iconst 4, 1) := by decide +kernel
theorem dX11_odds_3 : decode cX11_odds 3 = .ok (.invokestatic 417, 3) := by decide +kernel
theorem dX11_odds_6 : decode cX11_odds 6 = .ok (.ifCond .eq 12, 3) := by decide +kernel
theorem dX11_odds_9 : decode cX11_odds 9 = .ok (.iload_n 2, 1) := by decide +kernel
theorem dX11_odds_10 : decode cX11_odds 10 = .ok (.iconst 0, 1) := by decide +kernel
theorem dX11_odds_11 : decode cX11_odds 11 = .ok (.iconst 1, 1) := by decide +kernel
theorem dX11_odds_12 : decode cX11_odds 12 = .ok (.invokestatic 417, 3) := by decide +kernel
theorem dX11_odds_15 : decode cX11_odds 15 = .ok (.ifCond .ne 5, 3) := by decide +kernel
theorem dX11_odds_18 : decode cX11_odds 18 = .ok (.iconst (-1), 1) := by decide +kernel
theorem dX11_odds_19 : decode cX11_odds 19 = .ok (.ireturn, 1) := by decide +kernel
theorem dX11_odds_20 : decode cX11_odds 20 = .ok (.bipush 100, 2) := by decide +kernel
theorem dX11_odds_22 : decode cX11_odds 22 = .ok (.aload_n 0, 1) := by decide +kernel
theorem dX11_odds_23 : decode cX11_odds 23 = .ok (.getfield 393, 3) := by decide +kernel
theorem dX11_odds_26 : decode cX11_odds 26 = .ok (.isub, 1) := by decide +kernel
theorem dX11_odds_27 : decode cX11_odds 27 = .ok (.iload_n 1, 1) := by decide +kernel
theorem dX11_odds_28 : decode cX11_odds 28 = .ok (.invokestatic 473, 3) := by decide +kernel
theorem dX11_odds_31 : decode cX11_odds 31 = .ok (.istore_n 3, 1) := by decide +kernel
theorem dX11_odds_32 : decode cX11_odds 32 = .ok (.bipush 100, 2) := by decide +kernel
theorem dX11_odds_34 : decode cX11_odds 34 = .ok (.iload_n 1, 1) := by decide +kernel
theorem dX11_odds_35 : decode cX11_odds 35 = .ok (.invokestatic 473, 3) := by decide +kernel
theorem dX11_odds_38 : decode cX11_odds 38 = .ok (.istore 4, 2) := by decide +kernel
theorem dX11_odds_40 : decode cX11_odds 40 = .ok (.iload 4, 2) := by decide +kernel
theorem dX11_odds_42 : decode cX11_odds 42 = .ok (.iload_n 3, 1) := by decide +kernel
theorem dX11_odds_43 : decode cX11_odds 43 = .ok (.invokestatic 524, 3) := by decide +kernel
theorem dX11_odds_46 : decode cX11_odds 46 = .ok (.istore 5, 2) := by decide +kernel
theorem dX11_odds_48 : decode cX11_odds 48 = .ok (.iload_n 2, 1) := by decide +kernel
theorem dX11_odds_49 : decode cX11_odds 49 = .ok (.ifCond .ne 10, 3) := by decide +kernel
theorem dX11_odds_52 : decode cX11_odds 52 = .ok (.iload_n 3, 1) := by decide +kernel
theorem dX11_odds_53 : decode cX11_odds 53 = .ok (.iload 5, 2) := by decide +kernel
theorem dX11_odds_55 : decode cX11_odds 55 = .ok (.idiv, 1) := by decide +kernel
theorem dX11_odds_56 : decode cX11_odds 56 = .ok (.goto 8, 3) := by decide +kernel
theorem dX11_odds_59 : decode cX11_odds 59 = .ok (.iload 4, 2) := by decide +kernel
theorem dX11_odds_61 : decode cX11_odds 61 = .ok (.iload 5, 2) := by decide +kernel
theorem dX11_odds_63 : decode cX11_odds 63 = .ok (.idiv, 1) := by decide +kernel
theorem dX11_odds_64 : decode cX11_odds 64 = .ok (.ireturn, 1) := by decide +kernel
theorem dX11_openUp_0 : decode cX11_openUp 0 = .ok (.aload_n 0, 1) := by decide +kernel
theorem dX11_openUp_1 : decode cX11_openUp 1 = .ok (.getfield 33, 3) := by decide +kernel
theorem dX11_openUp_4 : decode cX11_openUp 4 = .ok (.aload_n 0, 1) := by decide +kernel
theorem dX11_openUp_5 : decode cX11_openUp 5 = .ok (.getfield 256, 3) := by decide +kernel
theorem dX11_openUp_8 : decode cX11_openUp 8 = .ok (.iload_n 1, 1) := by decide +kernel
theorem dX11_openUp_9 : decode cX11_openUp 9 = .ok (.iastore, 1) := by decide +kernel
theorem dX11_openUp_10 : decode cX11_openUp 10 = .ok (.aload_n 0, 1) := by decide +kernel
theorem dX11_openUp_11 : decode cX11_openUp 11 = .ok (.dup, 1) := by decide +kernel
theorem dX11_openUp_12 : decode cX11_openUp 12 = .ok (.getfield 256, 3) := by decide +kernel
theorem dX11_openUp_15 : decode cX11_openUp 15 = .ok (.iconst 1, 1) := by decide +kernel
theorem dX11_openUp_16 : decode cX11_openUp 16 = .ok (.iadd, 1) := by decide +kernel
theorem dX11_openUp_17 : decode cX11_openUp 17 = .ok (.putfield 256, 3) := by decide +kernel
theorem dX11_openUp_20 : decode cX11_openUp 20 = .ok (.aload_n 0, 1) := by decide +kernel
theorem dX11_openUp_21 : decode cX11_openUp 21 = .ok (.dup, 1) := by decide +kernel
theorem dX11_openUp_22 : decode cX11_openUp 22 = .ok (.getfield 266, 3) := by decide +kernel
theorem dX11_openUp_25 : decode cX11_openUp 25 = .ok (.iconst 1, 1) := by decide +kernel
theorem dX11_openUp_26 : decode cX11_openUp 26 = .ok (.iadd, 1) := by decide +kernel
theorem dX11_openUp_27 : decode cX11_openUp 27 = .ok (.putfield 266, 3) := by decide +kernel
theorem dX11_openUp_30 : decode cX11_openUp 30 = .ok (.aload_n 0, 1) := by decide +kernel
theorem dX11_openUp_31 : decode cX11_openUp 31 = .ok (.getfield 179, 3) := by decide +kernel
theorem dX11_openUp_34 : decode cX11_openUp 34 = .ok (.ifCond .ne 7, 3) := by decide +kernel
theorem dX11_openUp_37 : decode cX11_openUp 37 = .ok (.aload_n 0, 1) := by decide +kernel
theorem dX11_openUp_38 : decode cX11_openUp 38 = .ok (.invokevirtual 235, 3) := by decide +kernel
theorem dX11_openUp_41 : decode cX11_openUp 41 = .ok (.return_, 1) := by decide +kernel
theorem dX11_option_0 : decode cX11_option 0 = .ok (.aload_n 0, 1) := by decide +kernel
theorem dX11_option_1 : decode cX11_option 1 = .ok (.getfield 179, 3) := by decide +kernel
theorem dX11_option_4 : decode cX11_option 4 = .ok (.ifCond .ne 20, 3) := by decide +kernel
theorem dX11_option_7 : decode cX11_option 7 = .ok (.aload_n 0, 1) := by decide +kernel
theorem dX11_option_8 : decode cX11_option 8 = .ok (.lload_n 1, 1) := by decide +kernel
theorem dX11_option_9 : decode cX11_option 9 = .ok (.invokevirtual 228, 3) := by decide +kernel
theorem dX11_option_12 : decode cX11_option 12 = .ok (.ifCond .eq 12, 3) := by decide +kernel
theorem dX11_option_15 : decode cX11_option 15 = .ok (.aload_n 0, 1) := by decide +kernel
theorem dX11_option_16 : decode cX11_option 16 = .ok (.lload_n 1, 1) := by decide +kernel
theorem dX11_option_17 : decode cX11_option 17 = .ok (.iload_n 3, 1) := by decide +kernel
theorem dX11_option_18 : decode cX11_option 18 = .ok (.invokevirtual 246, 3) := by decide +kernel
theorem dX11_option_21 : decode cX11_option 21 = .ok (.goto 4, 3) := by decide +kernel
theorem dX11_option_24 : decode cX11_option 24 = .ok (.iconst 0, 1) := by decide +kernel
theorem dX11_option_25 : decode cX11_option 25 = .ok (.ireturn, 1) := by decide +kernel
theorem dX11_out_0 : decode cX11_out 0 = .ok (.aload_n 0, 1) := by decide +kernel
theorem dX11_out_1 : decode cX11_out 1 = .ok (.iload_n 1, 1) := by decide +kernel
theorem dX11_out_2 : decode cX11_out 2 = .ok (.invokevirtual 446, 3) := by decide +kernel
theorem dX11_out_5 : decode cX11_out 5 = .ok (.ifCond .ne 5, 3) := by decide +kernel
theorem dX11_out_8 : decode cX11_out 8 = .ok (.iconst (-1), 1) := by decide +kernel
theorem dX11_out_9 : decode cX11_out 9 = .ok (.ireturn, 1) := by decide +kernel
theorem dX11_out_10 : decode cX11_out 10 = .ok (.aload_n 0, 1) := by decide +kernel
theorem dX11_out_11 : decode cX11_out 11 = .ok (.invokevirtual 449, 3) := by decide +kernel
theorem dX11_out_14 : decode cX11_out 14 = .ok (.iconst 0, 1) := by decide +kernel
theorem dX11_out_15 : decode cX11_out 15 = .ok (.istore_n 2, 1) := by decide +kernel
theorem dX11_out_16 : decode cX11_out 16 = .ok (.iload_n 2, 1) := by decide +kernel
theorem dX11_out_17 : decode cX11_out 17 = .ok (.bipush 60, 2) := by decide +kernel
theorem dX11_out_19 : decode cX11_out 19 = .ok (.if_icmp .gt 29, 3) := by decide +kernel
theorem dX11_out_22 : decode cX11_out 22 = .ok (.aload_n 0, 1) := by decide +kernel
theorem dX11_out_23 : decode cX11_out 23 = .ok (.getfield 96, 3) := by decide +kernel
theorem dX11_out_26 : decode cX11_out 26 = .ok (.bipush 6, 2) := by decide +kernel
theorem dX11_out_28 : decode cX11_out 28 = .ok (.iload_n 1, 1) := by decide +kernel
theorem dX11_out_29 : decode cX11_out 29 = .ok (.iadd, 1) := by decide +kernel
theorem dX11_out_30 : decode cX11_out 30 = .ok (.iaload, 1) := by decide +kernel
theorem dX11_out_31 : decode cX11_out 31 = .ok (.ifCond .ge 5, 3) := by decide +kernel
theorem dX11_out_34 : decode cX11_out 34 = .ok (.iload_n 2, 1) := by decide +kernel
theorem dX11_out_35 : decode cX11_out 35 = .ok (.ireturn, 1) := by decide +kernel
theorem dX11_out_36 : decode cX11_out 36 = .ok (.aload_n 0, 1) := by decide +kernel
theorem dX11_out_37 : decode cX11_out 37 = .ok (.iconst 0, 1) := by decide +kernel
theorem dX11_out_38 : decode cX11_out 38 = .ok (.invokevirtual 464, 3) := by decide +kernel
theorem dX11_out_41 : decode cX11_out 41 = .ok (.pop, 1) := by decide +kernel
theorem dX11_out_42 : decode cX11_out 42 = .ok (.iinc 2 1, 3) := by decide +kernel
theorem dX11_out_45 : decode cX11_out 45 = .ok (.goto (-29), 3) := by decide +kernel
theorem dX11_out_48 : decode cX11_out 48 = .ok (.iconst (-1), 1) := by decide +kernel
theorem dX11_out_49 : decode cX11_out 49 = .ok (.ireturn, 1) := by decide +kernel
theorem dX11_over_0 : decode cX11_over 0 = .ok (.iload_n 0, 1) := by decide +kernel
theorem dX11_over_1 : decode cX11_over 1 = .ok (.iload_n 1, 1) := by decide +kernel
theorem dX11_over_2 : decode cX11_over 2 = .ok (.if_icmp .le 9, 3) := by decide +kernel
theorem dX11_over_5 : decode cX11_over 5 = .ok (.iload_n 0, 1) := by decide +kernel
theorem dX11_over_6 : decode cX11_over 6 = .ok (.iload_n 1, 1) := by decide +kernel
theorem dX11_over_7 : decode cX11_over 7 = .ok (.isub, 1) := by decide +kernel
theorem dX11_over_8 : decode cX11_over 8 = .ok (.goto 4, 3) := by decide +kernel
theorem dX11_over_11 : decode cX11_over 11 = .ok (.iconst 0, 1) := by decide +kernel
theorem dX11_over_12 : decode cX11_over 12 = .ok (.ireturn, 1) := by decide +kernel
theorem dX11_ownIll_0 : decode cX11_ownIll 0 = .ok (.aload_n 0, 1) := by decide +kernel
theorem dX11_ownIll_1 : decode cX11_ownIll 1 = .ok (.getfield 96, 3) := by decide +kernel
theorem dX11_ownIll_4 : decode cX11_ownIll 4 = .ok (.bipush 6, 2) := by decide +kernel
theorem dX11_ownIll_6 : decode cX11_ownIll 6 = .ok (.iload_n 1, 1) := by decide +kernel
theorem dX11_ownIll_7 : decode cX11_ownIll 7 = .ok (.iadd, 1) := by decide +kernel
theorem dX11_ownIll_8 : decode cX11_ownIll 8 = .ok (.iaload, 1) := by decide +kernel
theorem dX11_ownIll_9 : decode cX11_ownIll 9 = .ok (.ifCond .ge 7, 3) := by decide +kernel
theorem dX11_ownIll_12 : decode cX11_ownIll 12 = .ok (.iconst (-1), 1) := by decide +kernel
theorem dX11_ownIll_13 : decode cX11_ownIll 13 = .ok (.goto 17, 3) := by decide +kernel
theorem dX11_ownIll_16 : decode cX11_ownIll 16 = .ok (.aload_n 0, 1) := by decide +kernel
theorem dX11_ownIll_17 : decode cX11_ownIll 17 = .ok (.iload_n 1, 1) := by decide +kernel
theorem dX11_ownIll_18 : decode cX11_ownIll 18 = .ok (.aload_n 0, 1) := by decide +kernel
theorem dX11_ownIll_19 : decode cX11_ownIll 19 = .ok (.getfield 96, 3) := by decide +kernel
theorem dX11_ownIll_22 : decode cX11_ownIll 22 = .ok (.bipush 6, 2) := by decide +kernel
theorem dX11_ownIll_24 : decode cX11_ownIll 24 = .ok (.iload_n 1, 1) := by decide +kernel
theorem dX11_ownIll_25 : decode cX11_ownIll 25 = .ok (.iadd, 1) := by decide +kernel
theorem dX11_ownIll_26 : decode cX11_ownIll 26 = .ok (.iaload, 1) := by decide +kernel
theorem dX11_ownIll_27 : decode cX11_ownIll 27 = .ok (.invokevirtual 421, 3) := by decide +kernel
theorem dX11_ownIll_30 : decode cX11_ownIll 30 = .ok (.ireturn, 1) := by decide +kernel
theorem dX11_plain_0 : decode cX11_plain 0 = .ok (.iload_n 0, 1) := by decide +kernel
theorem dX11_plain_1 : decode cX11_plain 1 = .ok (.ifCond .ge 8, 3) := by decide +kernel
theorem dX11_plain_4 : decode cX11_plain 4 = .ok (.iload_n 0, 1) := by decide +kernel
theorem dX11_plain_5 : decode cX11_plain 5 = .ok (.ineg, 1) := by decide +kernel
theorem dX11_plain_6 : decode cX11_plain 6 = .ok (.goto 4, 3) := by decide +kernel
theorem dX11_plain_9 : decode cX11_plain 9 = .ok (.iload_n 0, 1) := by decide +kernel
theorem dX11_plain_10 : decode cX11_plain 10 = .ok (.ireturn, 1) := by decide +kernel
theorem dX11_popular_0 : decode cX11_popular 0 = .ok (.aload_n 0, 1) := by decide +kernel
theorem dX11_popular_1 : decode cX11_popular 1 = .ok (.invokevirtual 449, 3) := by decide +kernel
theorem dX11_popular_4 : decode cX11_popular 4 = .ok (.aload_n 0, 1) := by decide +kernel
theorem dX11_popular_5 : decode cX11_popular 5 = .ok (.iload_n 1, 1) := by decide +kernel
theorem dX11_popular_6 : decode cX11_popular 6 = .ok (.invokevirtual 455, 3) := by decide +kernel
theorem dX11_popular_9 : decode cX11_popular 9 = .ok (.ifCond .eq 11, 3) := by decide +kernel
theorem dX11_popular_12 : decode cX11_popular 12 = .ok (.aload_n 0, 1) := by decide +kernel
theorem dX11_popular_13 : decode cX11_popular 13 = .ok (.iload_n 1, 1) := by decide +kernel
theorem dX11_popular_14 : decode cX11_popular 14 = .ok (.invokevirtual 518, 3) := by decide +kernel
theorem dX11_popular_17 : decode cX11_popular 17 = .ok (.goto 4, 3) := by decide +kernel
theorem dX11_popular_20 : decode cX11_popular 20 = .ok (.iconst (-1), 1) := by decide +kernel
theorem dX11_popular_21 : decode cX11_popular 21 = .ok (.ireturn, 1) := by decide +kernel
theorem dX11_power_0 : decode cX11_power 0 = .ok (.iconst 1, 1) := by decide +kernel
theorem dX11_power_1 : decode cX11_power 1 = .ok (.istore_n 2, 1) := by decide +kernel
theorem dX11_power_2 : decode cX11_power 2 = .ok (.iconst 0, 1) := by decide +kernel
theorem dX11_power_3 : decode cX11_power 3 = .ok (.istore_n 3, 1) := by decide +kernel
theorem dX11_power_4 : decode cX11_power 4 = .ok (.iload_n 3, 1) := by decide +kernel
theorem dX11_power_5 : decode cX11_power 5 = .ok (.iload_n 1, 1) := by decide +kernel
theorem dX11_power_6 : decode cX11_power 6 = .ok (.if_icmp .ge 13, 3) := by decide +kernel
theorem dX11_power_9 : decode cX11_power 9 = .ok (.iload_n 2, 1) := by decide +kernel
theorem dX11_power_10 : decode cX11_power 10 = .ok (.iload_n 0, 1) := by decide +kernel
theorem dX11_power_11 : decode cX11_power 11 = .ok (.imul, 1) := by decide +kernel
theorem dX11_power_12 : decode cX11_power 12 = .ok (.istore_n 2, 1) := by decide +kernel
theorem dX11_power_13 : decode cX11_power 13 = .ok (.iinc 3 1, 3) := by decide +kernel
theorem dX11_power_16 : decode cX11_power 16 = .ok (.goto (-12), 3) := by decide +kernel
theorem dX11_power_19 : decode cX11_power 19 = .ok (.iload_n 2, 1) := by decide +kernel
theorem dX11_power_20 : decode cX11_power 20 = .ok (.ireturn, 1) := by decide +kernel
theorem dX11_rags_0 : decode cX11_rags 0 = .ok (.aload_n 0, 1) := by decide +kernel
theorem dX11_rags_1 : decode cX11_rags 1 = .ok (.invokevirtual 449, 3) := by decide +kernel
theorem dX11_rags_4 : decode cX11_rags 4 = .ok (.iconst 0, 1) := by decide +kernel
theorem dX11_rags_5 : decode cX11_rags 5 = .ok (.istore_n 1, 1) := by decide +kernel
theorem dX11_rags_6 : decode cX11_rags 6 = .ok (.iconst 0, 1) := by decide +kernel
theorem dX11_rags_7 : decode cX11_rags 7 = .ok (.istore_n 2, 1) := by decide +kernel
theorem dX11_rags_8 : decode cX11_rags 8 = .ok (.iload_n 2, 1) := by decide +kernel
theorem dX11_rags_9 : decode cX11_rags 9 = .ok (.aload_n 0, 1) := by decide +kernel
theorem dX11_rags_10 : decode cX11_rags 10 = .ok (.getfield 390, 3) := by decide +kernel
theorem dX11_rags_13 : decode cX11_rags 13 = .ok (.if_icmp .ge 30, 3) := by decide +kernel
theorem dX11_rags_16 : decode cX11_rags 16 = .ok (.iload_n 1, 1) := by decide +kernel
theorem dX11_rags_17 : decode cX11_rags 17 = .ok (.aload_n 0, 1) := by decide +kernel
theorem dX11_rags_18 : decode cX11_rags 18 = .ok (.iload_n 2, 1) := by decide +kernel
theorem dX11_rags_19 : decode cX11_rags 19 = .ok (.invokevirtual 518, 3) := by decide +kernel
theorem dX11_rags_22 : decode cX11_rags 22 = .ok (.ifCond .ne 7, 3) := by decide +kernel
theorem dX11_rags_25 : decode cX11_rags 25 = .ok (.iconst 1, 1) := by decide +kernel
theorem dX11_rags_26 : decode cX11_rags 26 = .ok (.goto 4, 3) := by decide +kernel
theorem dX11_rags_29 : decode cX11_rags 29 = .ok (.iconst 0, 1) := by decide +kernel
theorem dX11_rags_30 : decode cX11_rags 30 = .ok (.invokestatic 310, 3) := by decide +kernel
theorem dX11_rags_33 : decode cX11_rags 33 = .ok (.iload_n 2, 1) := by decide +kernel
theorem dX11_rags_34 : decode cX11_rags 34 = .ok (.ishl, 1) := by decide +kernel
theorem dX11_rags_35 : decode cX11_rags 35 = .ok (.ior, 1) := by decide +kernel
theorem dX11_rags_36 : decode cX11_rags 36 = .ok (.istore_n 1, 1) := by decide +kernel
theorem dX11_rags_37 : decode cX11_rags 37 = .ok (.iinc 2 1, 3) := by decide +kernel
theorem dX11_rags_40 : decode cX11_rags 40 = .ok (.goto (-32), 3) := by decide +kernel
theorem dX11_rags_43 : decode cX11_rags 43 = .ok (.iload_n 1, 1) := by decide +kernel
theorem dX11_rags_44 : decode cX11_rags 44 = .ok (.ireturn, 1) := by decide +kernel
theorem dX11_reach_0 : decode cX11_reach 0 = .ok (.aload_n 0, 1) := by decide +kernel
theorem dX11_reach_1 : decode cX11_reach 1 = .ok (.iconst 0, 1) := by decide +kernel
theorem dX11_reach_2 : decode cX11_reach 2 = .ok (.putfield 414, 3) := by decide +kernel
theorem dX11_reach_5 : decode cX11_reach 5 = .ok (.aload_n 0, 1) := by decide +kernel
theorem dX11_reach_6 : decode cX11_reach 6 = .ok (.invokevirtual 470, 3) := by decide +kernel
theorem dX11_reach_9 : decode cX11_reach 9 = .ok (.aload_n 0, 1) := by decide +kernel
theorem dX11_reach_10 : decode cX11_reach 10 = .ok (.invokevirtual 511, 3) := by decide +kernel
theorem dX11_reach_13 : decode cX11_reach 13 = .ok (.istore_n 3, 1) := by decide +kernel
theorem dX11_reach_14 : decode cX11_reach 14 = .ok (.aload_n 0, 1) := by decide +kernel
theorem dX11_reach_15 : decode cX11_reach 15 = .ok (.iload_n 1, 1) := by decide +kernel
theorem dX11_reach_16 : decode cX11_reach 16 = .ok (.invokevirtual 446, 3) := by decide +kernel
theorem dX11_reach_19 : decode cX11_reach 19 = .ok (.ifCond .eq 20, 3) := by decide +kernel
theorem dX11_reach_22 : decode cX11_reach 22 = .ok (.aload_n 0, 1) := by decide +kernel
theorem dX11_reach_23 : decode cX11_reach 23 = .ok (.iload_n 2, 1) := by decide +kernel
theorem dX11_reach_24 : decode cX11_reach 24 = .ok (.invokevirtual 446, 3) := by decide +kernel
theorem dX11_reach_27 : decode cX11_reach 27 = .ok (.ifCond .eq 12, 3) := by decide +kernel
theorem dX11_reach_30 : decode cX11_reach 30 = .ok (.iload_n 1, 1) := by decide +kernel
theorem dX11_reach_31 : decode cX11_reach 31 = .ok (.iload_n 2, 1) := by decide +kernel
theorem dX11_reach_32 : decode cX11_reach 32 = .ok (.if_icmp .eq 7, 3) := by decide +kernel
theorem dX11_reach_35 : decode cX11_reach 35 = .ok (.iload_n 3, 1) := by decide +kernel
theorem dX11_reach_36 : decode cX11_reach 36 = .ok (.ifCond .ne 5, 3) := by decide +kernel
theorem dX11_reach_39 : decode cX11_reach 39 = .ok (.iconst (-1), 1) := by decide +kernel
theorem dX11_reach_40 : decode cX11_reach 40 = .ok (.ireturn, 1) := by decide +kernel
theorem dX11_reach_41 : decode cX11_reach 41 = .ok (.iconst 0, 1) := by decide +kernel
theorem dX11_reach_42 : decode cX11_reach 42 = .ok (.istore 4, 2) := by decide +kernel
theorem dX11_reach_44 : decode cX11_reach 44 = .ok (.iconst 0, 1) := by decide +kernel
theorem dX11_reach_45 : decode cX11_reach 45 = .ok (.istore 5, 2) := by decide +kernel
theorem dX11_reach_47 : decode cX11_reach 47 = .ok (.iload 5, 2) := by decide +kernel
theorem dX11_reach_49 : decode cX11_reach 49 = .ok (.aload_n 0, 1) := by decide +kernel
theorem dX11_reach_50 : decode cX11_reach 50 = .ok (.getfield 390, 3) := by decide +kernel
theorem dX11_reach_53 : decode cX11_reach 53 = .ok (.if_icmp .ge 91, 3) := by decide +kernel
theorem dX11_reach_56 : decode cX11_reach 56 = .ok (.iconst 0, 1) := by decide +kernel
theorem dX11_reach_57 : decode cX11_reach 57 = .ok (.istore 6, 2) := by decide +kernel
theorem dX11_reach_59 : decode cX11_reach 59 = .ok (.iload 6, 2) := by decide +kernel
theorem dX11_reach_61 : decode cX11_reach 61 = .ok (.aload_n 0, 1) := by decide +kernel
theorem dX11_reach_62 : decode cX11_reach 62 = .ok (.getfield 390, 3) := by decide +kernel
theorem dX11_reach_65 : decode cX11_reach 65 = .ok (.if_icmp .ge 73, 3) := by decide +kernel
theorem dX11_reach_68 : decode cX11_reach 68 = .ok (.iload_n 3, 1) := by decide +kernel
theorem dX11_reach_69 : decode cX11_reach 69 = .ok (.iload 5, 2) := by decide +kernel
theorem dX11_reach_71 : decode cX11_reach 71 = .ok (.ishr, 1) := by decide +kernel
theorem dX11_reach_72 : decode cX11_reach 72 = .ok (.iconst 1, 1) := by decide +kernel
theorem dX11_reach_73 : decode cX11_reach 73 = .ok (.iand, 1) := by decide +kernel
theorem dX11_reach_74 : decode cX11_reach 74 = .ok (.ifCond .eq 58, 3) := by decide +kernel
theorem dX11_reach_77 : decode cX11_reach 77 = .ok (.iload_n 3, 1) := by decide +kernel
theorem dX11_reach_78 : decode cX11_reach 78 = .ok (.iload 6, 2) := by decide +kernel
theorem dX11_reach_80 : decode cX11_reach 80 = .ok (.ishr, 1) := by decide +kernel
theorem dX11_reach_81 : decode cX11_reach 81 = .ok (.iconst 1, 1) := by decide +kernel
theorem dX11_reach_82 : decode cX11_reach 82 = .ok (.iand, 1) := by decide +kernel
theorem dX11_reach_83 : decode cX11_reach 83 = .ok (.ifCond .eq 49, 3) := by decide +kernel
theorem dX11_reach_86 : decode cX11_reach 86 = .ok (.aload_n 0, 1) := by decide +kernel
theorem dX11_reach_87 : decode cX11_reach 87 = .ok (.iload_n 1, 1) := by decide +kernel
theorem dX11_reach_88 : decode cX11_reach 88 = .ok (.iload_n 2, 1) := by decide +kernel
theorem dX11_reach_89 : decode cX11_reach 89 = .ok (.iload 5, 2) := by decide +kernel
theorem dX11_reach_91 : decode cX11_reach 91 = .ok (.iload 6, 2) := by decide +kernel
theorem dX11_reach_93 : decode cX11_reach 93 = .ok (.iload_n 3, 1) := by decide +kernel
theorem dX11_reach_94 : decode cX11_reach 94 = .ok (.invokevirtual 514, 3) := by decide +kernel
theorem dX11_reach_97 : decode cX11_reach 97 = .ok (.ifCond .ne 6, 3) := by decide +kernel
theorem dX11_reach_100 : decode cX11_reach 100 = .ok (.goto 32, 3) := by decide +kernel
theorem dX11_reach_103 : decode cX11_reach 103 = .ok (.iload 4, 2) := by decide +kernel
theorem dX11_reach_105 : decode cX11_reach 105 = .ok (.ifCond .ne 24, 3) := by decide +kernel
theorem dX11_reach_108 : decode cX11_reach 108 = .ok (.aload_n 0, 1) := by decide +kernel
theorem dX11_reach_109 : decode cX11_reach 109 = .ok (.getfield 102, 3) := by decide +kernel
theorem dX11_reach_112 : decode cX11_reach 112 = .ok (.iconst 0, 1) := by decide +kernel
theorem dX11_reach_113 : decode cX11_reach 113 = .ok (.iload 5, 2) := by decide +kernel
theorem dX11_reach_115 : decode cX11_reach 115 = .ok (.iastore, 1) := by decide +kernel
theorem dX11_reach_116 : decode cX11_reach 116 = .ok (.aload_n 0, 1) := by decide +kernel
theorem dX11_reach_117 : decode cX11_reach 117 = .ok (.getfield 102, 3) := by decide +kernel
theorem dX11_reach_120 : decode cX11_reach 120 = .ok (.iconst 1, 1) := by decide +kernel
theorem dX11_reach_121 : decode cX11_reach 121 = .ok (.iload 6, 2) := by decide +kernel
theorem dX11_reach_123 : decode cX11_reach 123 = .ok (.iastore, 1) := by decide +kernel
theorem dX11_reach_124 : decode cX11_reach 124 = .ok (.aload_n 0, 1) := by decide +kernel
theorem dX11_reach_125 : decode cX11_reach 125 = .ok (.iconst 2, 1) := by decide +kernel
theorem dX11_reach_126 : decode cX11_reach 126 = .ok (.putfield 414, 3) := by decide +kernel
theorem dX11_reach_129 : decode cX11_reach 129 = .ok (.iinc 4 1, 3) := by decide +kernel
theorem dX11_reach_132 : decode cX11_reach 132 = .ok (.iinc 6 1, 3) := by decide +kernel
theorem dX11_reach_135 : decode cX11_reach 135 = .ok (.goto (-76), 3) := by decide +kernel
