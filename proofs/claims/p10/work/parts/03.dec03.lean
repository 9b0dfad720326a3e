theorem dX11_begin_107 : decode cX11_begin 107 = .ok (.aload_n 0, 1) := by decide +kernel
theorem dX11_begin_108 : decode cX11_begin 108 = .ok (.getfield 78, 3) := by decide +kernel
theorem dX11_begin_111 : decode cX11_begin 111 = .ok (.iload_n 1, 1) := by decide +kernel
theorem dX11_begin_112 : decode cX11_begin 112 = .ok (.iaload, 1) := by decide +kernel
theorem dX11_begin_113 : decode cX11_begin 113 = .ok (.iastore, 1) := by decide +kernel
theorem dX11_begin_114 : decode cX11_begin 114 = .ok (.aload_n 0, 1) := by decide +kernel
theorem dX11_begin_115 : decode cX11_begin 115 = .ok (.getfield 96, 3) := by decide +kernel
theorem dX11_begin_118 : decode cX11_begin 118 = .ok (.bipush 30, 2) := by decide +kernel
theorem dX11_begin_120 : decode cX11_begin 120 = .ok (.iload_n 1, 1) := by decide +kernel
theorem dX11_begin_121 : decode cX11_begin 121 = .ok (.iadd, 1) := by decide +kernel
theorem dX11_begin_122 : decode cX11_begin 122 = .ok (.aload_n 0, 1) := by decide +kernel
theorem dX11_begin_123 : decode cX11_begin 123 = .ok (.getfield 81, 3) := by decide +kernel
theorem dX11_begin_126 : decode cX11_begin 126 = .ok (.iload_n 1, 1) := by decide +kernel
theorem dX11_begin_127 : decode cX11_begin 127 = .ok (.iaload, 1) := by decide +kernel
theorem dX11_begin_128 : decode cX11_begin 128 = .ok (.iastore, 1) := by decide +kernel
theorem dX11_begin_129 : decode cX11_begin 129 = .ok (.iinc 1 1, 3) := by decide +kernel
theorem dX11_begin_132 : decode cX11_begin 132 = .ok (.goto (-71), 3) := by decide +kernel
theorem dX11_begin_135 : decode cX11_begin 135 = .ok (.return_, 1) := by decide +kernel
theorem dX11_breadth_0 : decode cX11_breadth 0 = .ok (.aload_n 0, 1) := by decide +kernel
theorem dX11_breadth_1 : decode cX11_breadth 1 = .ok (.invokevirtual 449, 3) := by decide +kernel
theorem dX11_breadth_4 : decode cX11_breadth 4 = .ok (.aload_n 0, 1) := by decide +kernel
theorem dX11_breadth_5 : decode cX11_breadth 5 = .ok (.aload_n 0, 1) := by decide +kernel
theorem dX11_breadth_6 : decode cX11_breadth 6 = .ok (.invokevirtual 440, 3) := by decide +kernel
theorem dX11_breadth_9 : decode cX11_breadth 9 = .ok (.invokevirtual 492, 3) := by decide +kernel
theorem dX11_breadth_12 : decode cX11_breadth 12 = .ok (.ireturn, 1) := by decide +kernel
theorem dX11_buttons_0 : decode cX11_buttons 0 = .ok (.aload_n 0, 1) := by decide +kernel
theorem dX11_buttons_1 : decode cX11_buttons 1 = .ok (.aload_n 0, 1) := by decide +kernel
theorem dX11_buttons_2 : decode cX11_buttons 2 = .ok (.getfield 387, 3) := by decide +kernel
theorem dX11_buttons_5 : decode cX11_buttons 5 = .ok (.putfield 414, 3) := by decide +kernel
theorem dX11_buttons_8 : decode cX11_buttons 8 = .ok (.iconst 1, 1) := by decide +kernel
theorem dX11_buttons_9 : decode cX11_buttons 9 = .ok (.istore_n 1, 1) := by decide +kernel
theorem dX11_buttons_10 : decode cX11_buttons 10 = .ok (.iload_n 1, 1) := by decide +kernel
theorem dX11_buttons_11 : decode cX11_buttons 11 = .ok (.aload_n 0, 1) := by decide +kernel
theorem dX11_buttons_12 : decode cX11_buttons 12 = .ok (.getfield 387, 3) := by decide +kernel
theorem dX11_buttons_15 : decode cX11_buttons 15 = .ok (.if_icmp .gt 71, 3) := by decide +kernel
theorem dX11_buttons_18 : decode cX11_buttons 18 = .ok (.iconst 0, 1) := by decide +kernel
theorem dX11_buttons_19 : decode cX11_buttons 19 = .ok (.istore_n 2, 1) := by decide +kernel
theorem dX11_buttons_20 : decode cX11_buttons 20 = .ok (.iload_n 2, 1) := by decide +kernel
theorem dX11_buttons_21 : decode cX11_buttons 21 = .ok (.iload_n 1, 1) := by decide +kernel
theorem dX11_buttons_22 : decode cX11_buttons 22 = .ok (.aload_n 0, 1) := by decide +kernel
theorem dX11_buttons_23 : decode cX11_buttons 23 = .ok (.getfield 387, 3) := by decide +kernel
theorem dX11_buttons_26 : decode cX11_buttons 26 = .ok (.invokestatic 473, 3) := by decide +kernel
theorem dX11_buttons_29 : decode cX11_buttons 29 = .ok (.if_icmp .ge 51, 3) := by decide +kernel
theorem dX11_buttons_32 : decode cX11_buttons 32 = .ok (.aload_n 0, 1) := by decide +kernel
theorem dX11_buttons_33 : decode cX11_buttons 33 = .ok (.iload_n 1, 1) := by decide +kernel
theorem dX11_buttons_34 : decode cX11_buttons 34 = .ok (.iload_n 2, 1) := by decide +kernel
theorem dX11_buttons_35 : decode cX11_buttons 35 = .ok (.invokevirtual 505, 3) := by decide +kernel
theorem dX11_buttons_38 : decode cX11_buttons 38 = .ok (.ifCond .ne 6, 3) := by decide +kernel
theorem dX11_buttons_41 : decode cX11_buttons 41 = .ok (.goto 33, 3) := by decide +kernel
theorem dX11_buttons_44 : decode cX11_buttons 44 = .ok (.iconst 0, 1) := by decide +kernel
theorem dX11_buttons_45 : decode cX11_buttons 45 = .ok (.istore_n 3, 1) := by decide +kernel
theorem dX11_buttons_46 : decode cX11_buttons 46 = .ok (.iload_n 3, 1) := by decide +kernel
theorem dX11_buttons_47 : decode cX11_buttons 47 = .ok (.aload_n 0, 1) := by decide +kernel
theorem dX11_buttons_48 : decode cX11_buttons 48 = .ok (.getfield 387, 3) := by decide +kernel
theorem dX11_buttons_51 : decode cX11_buttons 51 = .ok (.if_icmp .ge 21, 3) := by decide +kernel
theorem dX11_buttons_54 : decode cX11_buttons 54 = .ok (.aload_n 0, 1) := by decide +kernel
theorem dX11_buttons_55 : decode cX11_buttons 55 = .ok (.getfield 102, 3) := by decide +kernel
theorem dX11_buttons_58 : decode cX11_buttons 58 = .ok (.iload_n 3, 1) := by decide +kernel
theorem dX11_buttons_59 : decode cX11_buttons 59 = .ok (.aload_n 0, 1) := by decide +kernel
theorem dX11_buttons_60 : decode cX11_buttons 60 = .ok (.getfield 105, 3) := by decide +kernel
theorem dX11_buttons_63 : decode cX11_buttons 63 = .ok (.iload_n 3, 1) := by decide +kernel
theorem dX11_buttons_64 : decode cX11_buttons 64 = .ok (.iaload, 1) := by decide +kernel
theorem dX11_buttons_65 : decode cX11_buttons 65 = .ok (.iastore, 1) := by decide +kernel
theorem dX11_buttons_66 : decode cX11_buttons 66 = .ok (.iinc 3 1, 3) := by decide +kernel
theorem dX11_buttons_69 : decode cX11_buttons 69 = .ok (.goto (-23), 3) := by decide +kernel
theorem dX11_buttons_72 : decode cX11_buttons 72 = .ok (.iload_n 1, 1) := by decide +kernel
theorem dX11_buttons_73 : decode cX11_buttons 73 = .ok (.ireturn, 1) := by decide +kernel
theorem dX11_buttons_74 : decode cX11_buttons 74 = .ok (.iinc 2 1, 3) := by decide +kernel
theorem dX11_buttons_77 : decode cX11_buttons 77 = .ok (.goto (-57), 3) := by decide +kernel
theorem dX11_buttons_80 : decode cX11_buttons 80 = .ok (.iinc 1 1, 3) := by decide +kernel
theorem dX11_buttons_83 : decode cX11_buttons 83 = .ok (.goto (-73), 3) := by decide +kernel
theorem dX11_buttons_86 : decode cX11_buttons 86 = .ok (.iconst 0, 1) := by decide +kernel
theorem dX11_buttons_87 : decode cX11_buttons 87 = .ok (.ireturn, 1) := by decide +kernel
theorem dX11_change_0 : decode cX11_change 0 = .ok (.iload_n 1, 1) := by decide +kernel
theorem dX11_change_1 : decode cX11_change 1 = .ok (.iconst 0, 1) := by decide +kernel
theorem dX11_change_2 : decode cX11_change 2 = .ok (.iconst 2, 1) := by decide +kernel
theorem dX11_change_3 : decode cX11_change 3 = .ok (.invokestatic 417, 3) := by decide +kernel
theorem dX11_change_6 : decode cX11_change 6 = .ok (.ifCond .ne 5, 3) := by decide +kernel
theorem dX11_change_9 : decode cX11_change 9 = .ok (.iconst (-1), 1) := by decide +kernel
theorem dX11_change_10 : decode cX11_change 10 = .ok (.ireturn, 1) := by decide +kernel
theorem dX11_change_11 : decode cX11_change 11 = .ok (.aload_n 0, 1) := by decide +kernel
theorem dX11_change_12 : decode cX11_change 12 = .ok (.invokevirtual 489, 3) := by decide +kernel
theorem dX11_change_15 : decode cX11_change 15 = .ok (.invokestatic 486, 3) := by decide +kernel
theorem dX11_change_18 : decode cX11_change 18 = .ok (.istore_n 2, 1) := by decide +kernel
theorem dX11_change_19 : decode cX11_change 19 = .ok (.iconst (-1), 1) := by decide +kernel
theorem dX11_change_20 : decode cX11_change 20 = .ok (.istore_n 3, 1) := by decide +kernel
theorem dX11_change_21 : decode cX11_change 21 = .ok (.iconst 0, 1) := by decide +kernel
theorem dX11_change_22 : decode cX11_change 22 = .ok (.istore 4, 2) := by decide +kernel
theorem dX11_change_24 : decode cX11_change 24 = .ok (.iload 4, 2) := by decide +kernel
theorem dX11_change_26 : decode cX11_change 26 = .ok (.aload_n 0, 1) := by decide +kernel
theorem dX11_change_27 : decode cX11_change 27 = .ok (.getfield 387, 3) := by decide +kernel
theorem dX11_change_30 : decode cX11_change 30 = .ok (.if_icmp .ge 104, 3) := by decide +kernel
theorem dX11_change_33 : decode cX11_change 33 = .ok (.iload 4, 2) := by decide +kernel
theorem dX11_change_35 : decode cX11_change 35 = .ok (.iconst 1, 1) := by decide +kernel
theorem dX11_change_36 : decode cX11_change 36 = .ok (.iadd, 1) := by decide +kernel
theorem dX11_change_37 : decode cX11_change 37 = .ok (.istore 5, 2) := by decide +kernel
theorem dX11_change_39 : decode cX11_change 39 = .ok (.iload 5, 2) := by decide +kernel
theorem dX11_change_41 : decode cX11_change 41 = .ok (.aload_n 0, 1) := by decide +kernel
theorem dX11_change_42 : decode cX11_change 42 = .ok (.getfield 387, 3) := by decide +kernel
theorem dX11_change_45 : decode cX11_change 45 = .ok (.if_icmp .ge 83, 3) := by decide +kernel
theorem dX11_change_48 : decode cX11_change 48 = .ok (.aload_n 0, 1) := by decide +kernel
theorem dX11_change_49 : decode cX11_change 49 = .ok (.invokevirtual 449, 3) := by decide +kernel
theorem dX11_change_52 : decode cX11_change 52 = .ok (.aload_n 0, 1) := by decide +kernel
theorem dX11_change_53 : decode cX11_change 53 = .ok (.getfield 96, 3) := by decide +kernel
theorem dX11_change_56 : decode cX11_change 56 = .ok (.bipush 6, 2) := by decide +kernel
theorem dX11_change_58 : decode cX11_change 58 = .ok (.iload 4, 2) := by decide +kernel
theorem dX11_change_60 : decode cX11_change 60 = .ok (.iadd, 1) := by decide +kernel
theorem dX11_change_61 : decode cX11_change 61 = .ok (.aload_n 0, 1) := by decide +kernel
theorem dX11_change_62 : decode cX11_change 62 = .ok (.getfield 93, 3) := by decide +kernel
theorem dX11_change_65 : decode cX11_change 65 = .ok (.bipush 6, 2) := by decide +kernel
theorem dX11_change_67 : decode cX11_change 67 = .ok (.iload 5, 2) := by decide +kernel
theorem dX11_change_69 : decode cX11_change 69 = .ok (.iadd, 1) := by decide +kernel
theorem dX11_change_70 : decode cX11_change 70 = .ok (.iaload, 1) := by decide +kernel
theorem dX11_change_71 : decode cX11_change 71 = .ok (.iastore, 1) := by decide +kernel
theorem dX11_change_72 : decode cX11_change 72 = .ok (.aload_n 0, 1) := by decide +kernel
theorem dX11_change_73 : decode cX11_change 73 = .ok (.getfield 96, 3) := by decide +kernel
theorem dX11_change_76 : decode cX11_change 76 = .ok (.bipush 6, 2) := by decide +kernel
theorem dX11_change_78 : decode cX11_change 78 = .ok (.iload 5, 2) := by decide +kernel
theorem dX11_change_80 : decode cX11_change 80 = .ok (.iadd, 1) := by decide +kernel
theorem dX11_change_81 : decode cX11_change 81 = .ok (.aload_n 0, 1) := by decide +kernel
theorem dX11_change_82 : decode cX11_change 82 = .ok (.getfield 93, 3) := by decide +kernel
theorem dX11_change_85 : decode cX11_change 85 = .ok (.bipush 6, 2) := by decide +kernel
theorem dX11_change_87 : decode cX11_change 87 = .ok (.iload 4, 2) := by decide +kernel
theorem dX11_change_89 : decode cX11_change 89 = .ok (.iadd, 1) := by decide +kernel
theorem dX11_change_90 : decode cX11_change 90 = .ok (.iaload, 1) := by decide +kernel
theorem dX11_change_91 : decode cX11_change 91 = .ok (.iastore, 1) := by decide +kernel
theorem dX11_change_92 : decode cX11_change 92 = .ok (.aload_n 0, 1) := by decide +kernel
theorem dX11_change_93 : decode cX11_change 93 = .ok (.invokevirtual 443, 3) := by decide +kernel
theorem dX11_change_96 : decode cX11_change 96 = .ok (.invokestatic 486, 3) := by decide +kernel
theorem dX11_change_99 : decode cX11_change 99 = .ok (.istore 6, 2) := by decide +kernel
theorem dX11_change_101 : decode cX11_change 101 = .ok (.iload 6, 2) := by decide +kernel
theorem dX11_change_103 : decode cX11_change 103 = .ok (.iload_n 2, 1) := by decide +kernel
theorem dX11_change_104 : decode cX11_change 104 = .ok (.if_icmp .gt 6, 3) := by decide +kernel
theorem dX11_change_107 : decode cX11_change 107 = .ok (.goto 15, 3) := by decide +kernel
theorem dX11_change_110 : decode cX11_change 110 = .ok (.iload 6, 2) := by decide +kernel
theorem dX11_change_112 : decode cX11_change 112 = .ok (.istore_n 2, 1) := by decide +kernel
theorem dX11_change_113 : decode cX11_change 113 = .ok (.bipush 6, 2) := by decide +kernel
theorem dX11_change_115 : decode cX11_change 115 = .ok (.iload 4, 2) := by decide +kernel
theorem dX11_change_117 : decode cX11_change 117 = .ok (.imul, 1) := by decide +kernel
theorem dX11_change_118 : decode cX11_change 118 = .ok (.iload 5, 2) := by decide +kernel
theorem dX11_change_120 : decode cX11_change 120 = .ok (.iadd, 1) := by decide +kernel
theorem dX11_change_121 : decode cX11_change 121 = .ok (.istore_n 3, 1) := by decide +kernel
theorem dX11_change_122 : decode cX11_change 122 = .ok (.iinc 5 1, 3) := by decide +kernel
theorem dX11_change_125 : decode cX11_change 125 = .ok (.goto (-86), 3) := by decide +kernel
theorem dX11_change_128 : decode cX11_change 128 = .ok (.iinc 4 1, 3) := by decide +kernel
theorem dX11_change_131 : decode cX11_change 131 = .ok (.goto (-107), 3) := by decide +kernel
theorem dX11_change_134 : decode cX11_change 134 = .ok (.iload_n 3, 1) := by decide +kernel
theorem dX11_change_135 : decode cX11_change 135 = .ok (.ifCond .ge 7, 3) := by decide +kernel
theorem dX11_change_138 : decode cX11_change 138 = .ok (.iconst (-1), 1) := by decide +kernel
theorem dX11_change_139 : decode cX11_change 139 = .ok (.goto 27, 3) := by decide +kernel
theorem dX11_change_142 : decode cX11_change 142 = .ok (.iload_n 1, 1) := by decide +kernel
theorem dX11_change_143 : decode cX11_change 143 = .ok (.ifCond .ne 10, 3) := by decide +kernel
theorem dX11_change_146 : decode cX11_change 146 = .ok (.iload_n 3, 1) := by decide +kernel
theorem dX11_change_147 : decode cX11_change 147 = .ok (.bipush 6, 2) := by decide +kernel
theorem dX11_change_149 : decode cX11_change 149 = .ok (.idiv, 1) := by decide +kernel
theorem dX11_change_150 : decode cX11_change 150 = .ok (.goto 16, 3) := by decide +kernel
theorem dX11_change_153 : decode cX11_change 153 = .ok (.iload_n 1, 1) := by decide +kernel
theorem dX11_change_154 : decode cX11_change 154 = .ok (.iconst 1, 1) := by decide +kernel
theorem dX11_change_155 : decode cX11_change 155 = .ok (.if_icmp .ne 10, 3) := by decide +kernel
theorem dX11_change_158 : decode cX11_change 158 = .ok (.iload_n 3, 1) := by decide +kernel
theorem dX11_change_159 : decode cX11_change 159 = .ok (.bipush 6, 2) := by decide +kernel
theorem dX11_change_161 : decode cX11_change 161 = .ok (.irem, 1) := by decide +kernel
theorem dX11_change_162 : decode cX11_change 162 = .ok (.goto 4, 3) := by decide +kernel
theorem dX11_change_165 : decode cX11_change 165 = .ok (.iload_n 2, 1) := by decide +kernel
theorem dX11_change_166 : decode cX11_change 166 = .ok (.ireturn, 1) := by decide +kernel
theorem dX11_close_0 : decode cX11_close 0 = .ok (.aload_n 0, 1) := by decide +kernel
theorem dX11_close_1 : decode cX11_close 1 = .ok (.getfield 256, 3) := by decide +kernel
theorem dX11_close_4 : decode cX11_close 4 = .ok (.ifCond .le 97, 3) := by decide +kernel
theorem dX11_close_7 : decode cX11_close 7 = .ok (.aload_n 0, 1) := by decide +kernel
theorem dX11_close_8 : decode cX11_close 8 = .ok (.getfield 33, 3) := by decide +kernel
theorem dX11_close_11 : decode cX11_close 11 = .ok (.aload_n 0, 1) := by decide +kernel
theorem dX11_close_12 : decode cX11_close 12 = .ok (.getfield 256, 3) := by decide +kernel
theorem dX11_close_15 : decode cX11_close 15 = .ok (.iconst 1, 1) := by decide +kernel
theorem dX11_close_16 : decode cX11_close 16 = .ok (.isub, 1) := by decide +kernel
theorem dX11_close_17 : decode cX11_close 17 = .ok (.iaload, 1) := by decide +kernel
theorem dX11_close_18 : decode cX11_close 18 = .ok (.bipush 20, 2) := by decide +kernel
theorem dX11_close_20 : decode cX11_close 20 = .ok (.if_icmp .eq 81, 3) := by decide +kernel
theorem dX11_close_23 : decode cX11_close 23 = .ok (.aload_n 0, 1) := by decide +kernel
theorem dX11_close_24 : decode cX11_close 24 = .ok (.getfield 33, 3) := by decide +kernel
theorem dX11_close_27 : decode cX11_close 27 = .ok (.aload_n 0, 1) := by decide +kernel
theorem dX11_close_28 : decode cX11_close 28 = .ok (.getfield 256, 3) := by decide +kernel
theorem dX11_close_31 : decode cX11_close 31 = .ok (.iconst 1, 1) := by decide +kernel
theorem dX11_close_32 : decode cX11_close 32 = .ok (.isub, 1) := by decide +kernel
theorem dX11_close_33 : decode cX11_close 33 = .ok (.iaload, 1) := by decide +kernel
theorem dX11_close_34 : decode cX11_close 34 = .ok (.invokestatic 259, 3) := by decide +kernel
theorem dX11_close_37 : decode cX11_close 37 = .ok (.iload_n 1, 1) := by decide +kernel
theorem dX11_close_38 : decode cX11_close 38 = .ok (.if_icmp .lt 63, 3) := by decide +kernel
theorem dX11_close_41 : decode cX11_close 41 = .ok (.aload_n 0, 1) := by decide +kernel
theorem dX11_close_42 : decode cX11_close 42 = .ok (.dup, 1) := by decide +kernel
theorem dX11_close_43 : decode cX11_close 43 = .ok (.getfield 256, 3) := by decide +kernel
theorem dX11_close_46 : decode cX11_close 46 = .ok (.iconst 1, 1) := by decide +kernel
theorem dX11_close_47 : decode cX11_close 47 = .ok (.isub, 1) := by decide +kernel
theorem dX11_close_48 : decode cX11_close 48 = .ok (.putfield 256, 3) := by decide +kernel
theorem dX11_close_51 : decode cX11_close 51 = .ok (.aload_n 0, 1) := by decide +kernel
theorem dX11_close_52 : decode cX11_close 52 = .ok (.getfield 33, 3) := by decide +kernel
theorem dX11_close_55 : decode cX11_close 55 = .ok (.aload_n 0, 1) := by decide +kernel
theorem dX11_close_56 : decode cX11_close 56 = .ok (.getfield 256, 3) := by decide +kernel
theorem dX11_close_59 : decode cX11_close 59 = .ok (.iaload, 1) := by decide +kernel
theorem dX11_close_60 : decode cX11_close 60 = .ok (.bipush 21, 2) := by decide +kernel
theorem dX11_close_62 : decode cX11_close 62 = .ok (.if_icmp .ne 22, 3) := by decide +kernel
theorem dX11_close_65 : decode cX11_close 65 = .ok (.aload_n 0, 1) := by decide +kernel
theorem dX11_close_66 : decode cX11_close 66 = .ok (.iconst 2, 1) := by decide +kernel
theorem dX11_close_67 : decode cX11_close 67 = .ok (.iconst 0, 1) := by decide +kernel
theorem dX11_close_68 : decode cX11_close 68 = .ok (.invokevirtual 262, 3) := by decide +kernel
theorem dX11_close_71 : decode cX11_close 71 = .ok (.aload_n 0, 1) := by decide +kernel
theorem dX11_close_72 : decode cX11_close 72 = .ok (.dup, 1) := by decide +kernel
theorem dX11_close_73 : decode cX11_close 73 = .ok (.getfield 266, 3) := by decide +kernel
theorem dX11_close_76 : decode cX11_close 76 = .ok (.iconst 1, 1) := by decide +kernel
theorem dX11_close_77 : decode cX11_close 77 = .ok (.isub, 1) := by decide +kernel
theorem dX11_close_78 : decode cX11_close 78 = .ok (.putfield 266, 3) := by decide +kernel
theorem dX11_close_81 : decode cX11_close 81 = .ok (.goto (-81), 3) := by decide +kernel
theorem dX11_close_84 : decode cX11_close 84 = .ok (.aload_n 0, 1) := by decide +kernel
theorem dX11_close_85 : decode cX11_close 85 = .ok (.iconst 3, 1) := by decide +kernel
theorem dX11_close_86 : decode cX11_close 86 = .ok (.aload_n 0, 1) := by decide +kernel
theorem dX11_close_87 : decode cX11_close 87 = .ok (.getfield 33, 3) := by decide +kernel
theorem dX11_close_90 : decode cX11_close 90 = .ok (.aload_n 0, 1) := by decide +kernel
theorem dX11_close_91 : decode cX11_close 91 = .ok (.getfield 256, 3) := by decide +kernel
theorem dX11_close_94 : decode cX11_close 94 = .ok (.iaload, 1) := by decide +kernel
theorem dX11_close_95 : decode cX11_close 95 = .ok (.invokevirtual 262, 3) := by decide +kernel
theorem dX11_close_98 : decode cX11_close 98 = .ok (.goto (-98), 3) := by decide +kernel
theorem dX11_close_101 : decode cX11_close 101 = .ok (.return_, 1) := by decide +kernel
theorem dX11_cloth_0 : decode cX11_cloth 0 = .ok (.aload_n 0, 1) := by decide +kernel
theorem dX11_cloth_1 : decode cX11_cloth 1 = .ok (.getfield 111, 3) := by decide +kernel
theorem dX11_cloth_4 : decode cX11_cloth 4 = .ok (.iconst 0, 1) := by decide +kernel
theorem dX11_cloth_5 : decode cX11_cloth 5 = .ok (.iconst 0, 1) := by decide +kernel
theorem dX11_cloth_6 : decode cX11_cloth 6 = .ok (.iastore, 1) := by decide +kernel
theorem dX11_cloth_7 : decode cX11_cloth 7 = .ok (.iconst 1, 1) := by decide +kernel
theorem dX11_cloth_8 : decode cX11_cloth 8 = .ok (.istore_n 1, 1) := by decide +kernel
theorem dX11_cloth_9 : decode cX11_cloth 9 = .ok (.iload_n 1, 1) := by decide +kernel
theorem dX11_cloth_10 : decode cX11_cloth 10 = .ok (.iconst 1, 1) := by decide +kernel
theorem dX11_cloth_11 : decode cX11_cloth 11 = .ok (.aload_n 0, 1) := by decide +kernel
theorem dX11_cloth_12 : decode cX11_cloth 12 = .ok (.getfield 390, 3) := by decide +kernel
theorem dX11_cloth_15 : decode cX11_cloth 15 = .ok (.ishl, 1) := by decide +kernel
theorem dX11_cloth_16 : decode cX11_cloth 16 = .ok (.if_icmp .ge 70, 3) := by decide +kernel
theorem dX11_cloth_19 : decode cX11_cloth 19 = .ok (.aload_n 0, 1) := by decide +kernel
theorem dX11_cloth_20 : decode cX11_cloth 20 = .ok (.getfield 111, 3) := by decide +kernel
theorem dX11_cloth_23 : decode cX11_cloth 23 = .ok (.iload_n 1, 1) := by decide +kernel
theorem dX11_cloth_24 : decode cX11_cloth 24 = .ok (.ldc_w 498, 3) := by decide +kernel
theorem dX11_cloth_27 : decode cX11_cloth 27 = .ok (.iastore, 1) := by decide +kernel
theorem dX11_cloth_28 : decode cX11_cloth 28 = .ok (.iconst 1, 1) := by decide +kernel
theorem dX11_cloth_29 : decode cX11_cloth 29 = .ok (.istore_n 2, 1) := by decide +kernel
theorem dX11_cloth_30 : decode cX11_cloth 30 = .ok (.iload_n 2, 1) := by decide +kernel
theorem dX11_cloth_31 : decode cX11_cloth 31 = .ok (.iload_n 1, 1) := by decide +kernel
theorem dX11_cloth_32 : decode cX11_cloth 32 = .ok (.if_icmp .gt 48, 3) := by decide +kernel
theorem dX11_cloth_35 : decode cX11_cloth 35 = .ok (.iload_n 2, 1) := by decide +kernel
theorem dX11_cloth_36 : decode cX11_cloth 36 = .ok (.iload_n 1, 1) := by decide +kernel
theorem dX11_cloth_37 : decode cX11_cloth 37 = .ok (.iconst (-1), 1) := by decide +kernel
theorem dX11_cloth_38 : decode cX11_cloth 38 = .ok (.ixor, 1) := by decide +kernel
theorem dX11_cloth_39 : decode cX11_cloth 39 = .ok (.iand, 1) := by decide +kernel
theorem dX11_cloth_40 : decode cX11_cloth 40 = .ok (.ifCond .ne 34, 3) := by decide +kernel
theorem dX11_cloth_43 : decode cX11_cloth 43 = .ok (.aload_n 0, 1) := by decide +kernel
theorem dX11_cloth_44 : decode cX11_cloth 44 = .ok (.getfield 111, 3) := by decide +kernel
theorem dX11_cloth_47 : decode cX11_cloth 47 = .ok (.iload_n 1, 1) := by decide +kernel
theorem dX11_cloth_48 : decode cX11_cloth 48 = .ok (.aload_n 0, 1) := by decide +kernel
theorem dX11_cloth_49 : decode cX11_cloth 49 = .ok (.getfield 111, 3) := by decide +kernel
theorem dX11_cloth_52 : decode cX11_cloth 52 = .ok (.iload_n 1, 1) := by decide +kernel
theorem dX11_cloth_53 : decode cX11_cloth 53 = .ok (.iaload, 1) := by decide +kernel
theorem dX11_cloth_54 : decode cX11_cloth 54 = .ok (.aload_n 0, 1) := by decide +kernel
theorem dX11_cloth_55 : decode cX11_cloth 55 = .ok (.iload_n 2, 1) := by decide +kernel
theorem dX11_cloth_56 : decode cX11_cloth 56 = .ok (.invokevirtual 499, 3) := by decide +kernel
theorem dX11_cloth_59 : decode cX11_cloth 59 = .ok (.aload_n 0, 1) := by decide +kernel
theorem dX11_cloth_60 : decode cX11_cloth 60 = .ok (.getfield 111, 3) := by decide +kernel
theorem dX11_cloth_63 : decode cX11_cloth 63 = .ok (.iload_n 1, 1) := by decide +kernel
theorem dX11_cloth_64 : decode cX11_cloth 64 = .ok (.iload_n 2, 1) := by decide +kernel
theorem dX11_cloth_65 : decode cX11_cloth 65 = .ok (.iconst (-1), 1) := by decide +kernel
theorem dX11_cloth_66 : decode cX11_cloth 66 = .ok (.ixor, 1) := by decide +kernel
theorem dX11_cloth_67 : decode cX11_cloth 67 = .ok (.iand, 1) := by decide +kernel
theorem dX11_cloth_68 : decode cX11_cloth 68 = .ok (.iaload, 1) := by decide +kernel
theorem dX11_cloth_69 : decode cX11_cloth 69 = .ok (.iadd, 1) := by decide +kernel
theorem dX11_cloth_70 : decode cX11_cloth 70 = .ok (.invokestatic 431, 3) := by decide +kernel
theorem dX11_cloth_73 : decode cX11_cloth 73 = .ok (.iastore, 1) := by decide +kernel
theorem dX11_cloth_74 : decode cX11_cloth 74 = .ok (.iinc 2 1, 3) := by decide +kernel
theorem dX11_cloth_77 : decode cX11_cloth 77 = .ok (.goto (-47), 3) := by decide +kernel
theorem dX11_cloth_80 : decode cX11_cloth 80 = .ok (.iinc 1 1, 3) := by decide +kernel
theorem dX11_cloth_83 : decode cX11_cloth 83 = .ok (.goto (-74), 3) := by decide +kernel
theorem dX11_cloth_86 : decode cX11_cloth 86 = .ok (.aload_n 0, 1) := by decide +kernel
theorem dX11_cloth_87 : decode cX11_cloth 87 = .ok (.getfield 111, 3) := by decide +kernel
theorem dX11_cloth_90 : decode cX11_cloth 90 = .ok (.iconst 1, 1) := by decide +kernel
theorem dX11_cloth_91 : decode cX11_cloth 91 = .ok (.aload_n 0, 1) := by decide +kernel
theorem dX11_cloth_92 : decode cX11_cloth 92 = .ok (.getfield 390, 3) := by decide +kernel
theorem dX11_cloth_95 : decode cX11_cloth 95 = .ok (.ishl, 1) := by decide +kernel
theorem dX11_cloth_96 : decode cX11_cloth 96 = .ok (.iconst 1, 1) := by decide +kernel
theorem dX11_cloth_97 : decode cX11_cloth 97 = .ok (.isub, 1) := by decide +kernel
theorem dX11_cloth_98 : decode cX11_cloth 98 = .ok (.iaload, 1) := by decide +kernel
theorem dX11_cloth_99 : decode cX11_cloth 99 = .ok (.istore_n 1, 1) := by decide +kernel
theorem dX11_cloth_100 : decode cX11_cloth 100 = .ok (.iload_n 1, 1) := by decide +kernel
theorem dX11_cloth_101 : decode cX11_cloth 101 = .ok (.ldc_w 498, 3) := by decide +kernel
theorem dX11_cloth_104 : decode cX11_cloth 104 = .ok (.if_icmp .lt 7, 3) := by decide +kernel
theorem dX11_cloth_107 : decode cX11_cloth 107 = .ok (.iconst (-1), 1) := by decide +kernel
theorem dX11_cloth_108 : decode cX11_cloth 108 = .ok (.goto 4, 3) := by decide +kernel
theorem dX11_cloth_111 : decode cX11_cloth 111 = .ok (.iload_n 1, 1) := by decide +kernel
theorem dX11_cloth_112 : decode cX11_cloth 112 = .ok (.ireturn, 1) := by decide +kernel
theorem dX11_coat_0 : decode cX11_coat 0 = .ok (.aload_n 0, 1) := by decide +kernel
theorem dX11_coat_1 : decode cX11_coat 1 = .ok (.iload_n 1, 1) := by decide +kernel
theorem dX11_coat_2 : decode cX11_coat 2 = .ok (.invokevirtual 455, 3) := by decide +kernel
theorem dX11_coat_5 : decode cX11_coat 5 = .ok (.ifCond .ne 6, 3) := by decide +kernel
theorem dX11_coat_8 : decode cX11_coat 8 = .ok (.bipush (-2), 2) := by decide +kernel
theorem dX11_coat_10 : decode cX11_coat 10 = .ok (.ireturn, 1) := by decide +kernel
theorem dX11_coat_11 : decode cX11_coat 11 = .ok (.aload_n 0, 1) := by decide +kernel
theorem dX11_coat_12 : decode cX11_coat 12 = .ok (.invokevirtual 449, 3) := by decide +kernel
theorem dX11_coat_15 : decode cX11_coat 15 = .ok (.iload_n 2, 1) := by decide +kernel
theorem dX11_coat_16 : decode cX11_coat 16 = .ok (.tableswitch 98 0 5 #[40, 50, 60, 70, 80, 92], 40) := by decide +kernel
theorem dX11_coat_56 : decode cX11_coat 56 = .ok (.aload_n 0, 1) := by decide +kernel
theorem dX11_coat_57 : decode cX11_coat 57 = .ok (.getfield 96, 3) := by decide +kernel
theorem dX11_coat_60 : decode cX11_coat 60 = .ok (.bipush 12, 2) := by decide +kernel
theorem dX11_coat_62 : decode cX11_coat 62 = .ok (.iload_n 1, 1) := by decide +kernel
theorem dX11_coat_63 : decode cX11_coat 63 = .ok (.iadd, 1) := by decide +kernel
theorem dX11_coat_64 : decode cX11_coat 64 = .ok (.iaload, 1) := by decide +kernel
theorem dX11_coat_65 : decode cX11_coat 65 = .ok (.ireturn, 1) := by decide +kernel
theorem dX11_coat_66 : decode cX11_coat 66 = .ok (.aload_n 0, 1) := by decide +kernel
theorem dX11_coat_67 : decode cX11_coat 67 = .ok (.getfield 96, 3) := by decide +kernel
theorem dX11_coat_70 : decode cX11_coat 70 = .ok (.bipush 18, 2) := by decide +kernel
theorem dX11_coat_72 : decode cX11_coat 72 = .ok (.iload_n 1, 1) := by decide +kernel
theorem dX11_coat_73 : decode cX11_coat 73 = .ok (.iadd, 1) := by decide +kernel
theorem dX11_coat_74 : decode cX11_coat 74 = .ok (.iaload, 1) := by decide +kernel
theorem dX11_coat_75 : decode cX11_coat 75 = .ok (.ireturn, 1) := by decide +kernel
theorem dX11_coat_76 : decode cX11_coat 76 = .ok (.aload_n 0, 1) := by decide +kernel
theorem dX11_coat_77 : decode cX11_coat 77 = .ok (.getfield 96, 3) := by decide +kernel
theorem dX11_coat_80 : decode cX11_coat 80 = .ok (.bipush 24, 2) := by decide +kernel
theorem dX11_coat_82 : decode cX11_coat 82 = .ok (.iload_n 1, 1) := by decide +kernel
theorem dX11_coat_83 : decode cX11_coat 83 = .ok (.iadd, 1) := by decide +kernel
theorem dX11_coat_84 : decode cX11_coat 84 = .ok (.iaload, 1) := by decide +kernel
theorem dX11_coat_85 : decode cX11_coat 85 = .ok (.ireturn, 1) := by decide +kernel
theorem dX11_coat_86 : decode cX11_coat 86 = .ok (.aload_n 0, 1) := by decide +kernel
theorem dX11_coat_87 : decode cX11_coat 87 = .ok (.getfield 96, 3) := by decide +kernel
theorem dX11_coat_90 : decode cX11_coat 90 = .ok (.bipush 30, 2) := by decide +kernel
theorem dX11_coat_92 : decode cX11_coat 92 = .ok (.iload_n 1, 1) := by decide +kernel
theorem dX11_coat_93 : decode cX11_coat 93 = .ok (.iadd, 1) := by decide +kernel
theorem dX11_coat_94 : decode cX11_coat 94 = .ok (.iaload, 1) := by decide +kernel
theorem dX11_coat_95 : decode cX11_coat 95 = .ok (.ireturn, 1) := by decide +kernel
theorem dX11_coat_96 : decode cX11_coat 96 = .ok (.aload_n 0, 1) := by decide +kernel
theorem dX11_coat_97 : decode cX11_coat 97 = .ok (.getfield 96, 3) := by decide +kernel
theorem dX11_coat_100 : decode cX11_coat 100 = .ok (.bipush 36, 2) := by decide +kernel
theorem dX11_coat_102 : decode cX11_coat 102 = .ok (.iaload, 1) := by decide +kernel
theorem dX11_coat_103 : decode cX11_coat 103 = .ok (.iload_n 1, 1) := by decide +kernel
theorem dX11_coat_104 : decode cX11_coat 104 = .ok (.ishr, 1) := by decide +kernel
theorem dX11_coat_105 : decode cX11_coat 105 = .ok (.iconst 1, 1) := by decide +kernel
theorem dX11_coat_106 : decode cX11_coat 106 = .ok (.iand, 1) := by decide +kernel
theorem dX11_coat_107 : decode cX11_coat 107 = .ok (.ireturn, 1) := by decide +kernel
theorem dX11_coat_108 : decode cX11_coat 108 = .ok (.aload_n 0, 1) := by decide +kernel
theorem dX11_coat_109 : decode cX11_coat 109 = .ok (.iload_n 1, 1) := by decide +kernel
theorem dX11_coat_110 : decode cX11_coat 110 = .ok (.invokevirtual 434, 3) := by decide +kernel
theorem dX11_coat_113 : decode cX11_coat 113 = .ok (.ireturn, 1) := by decide +kernel
theorem dX11_coat_114 : decode cX11_coat 114 = .ok (.bipush (-2), 2) := by decide +kernel
theorem dX11_coat_116 : decode cX11_coat 116 = .ok (.ireturn, 1) := by decide +kernel
theorem dX11_coatsFor_0 : decode cX11_coatsFor 0 = .ok (.iconst 0, 1) := by decide +kernel
theorem dX11_coatsFor_1 : decode cX11_coatsFor 1 = .ok (.istore_n 2, 1) := by decide +kernel
theorem dX11_coatsFor_2 : decode cX11_coatsFor 2 = .ok (.iconst 0, 1) := by decide +kernel
theorem dX11_coatsFor_3 : decode cX11_coatsFor 3 = .ok (.istore_n 3, 1) := by decide +kernel
theorem dX11_coatsFor_4 : decode cX11_coatsFor 4 = .ok (.iload_n 3, 1) := by decide +kernel
theorem dX11_coatsFor_5 : decode cX11_coatsFor 5 = .ok (.aload_n 0, 1) := by decide +kernel
theorem dX11_coatsFor_6 : decode cX11_coatsFor 6 = .ok (.getfield 390, 3) := by decide +kernel
theorem dX11_coatsFor_9 : decode cX11_coatsFor 9 = .ok (.if_icmp .ge 23, 3) := by decide +kernel
theorem dX11_coatsFor_12 : decode cX11_coatsFor 12 = .ok (.iload_n 2, 1) := by decide +kernel
theorem dX11_coatsFor_13 : decode cX11_coatsFor 13 = .ok (.aload_n 0, 1) := by decide +kernel
theorem dX11_coatsFor_14 : decode cX11_coatsFor 14 = .ok (.iload_n 1, 1) := by decide +kernel
theorem dX11_coatsFor_15 : decode cX11_coatsFor 15 = .ok (.iload_n 3, 1) := by decide +kernel
theorem dX11_coatsFor_16 : decode cX11_coatsFor 16 = .ok (.invokevirtual 424, 3) := by decide +kernel
theorem dX11_coatsFor_19 : decode cX11_coatsFor 19 = .ok (.invokestatic 310, 3) := by decide +kernel
theorem dX11_coatsFor_22 : decode cX11_coatsFor 22 = .ok (.iload_n 3, 1) := by decide +kernel
theorem dX11_coatsFor_23 : decode cX11_coatsFor 23 = .ok (.ishl, 1) := by decide +kernel
theorem dX11_coatsFor_24 : decode cX11_coatsFor 24 = .ok (.ior, 1) := by decide +kernel
theorem dX11_coatsFor_25 : decode cX11_coatsFor 25 = .ok (.istore_n 2, 1) := by decide +kernel
theorem dX11_coatsFor_26 : decode cX11_coatsFor 26 = .ok (.iinc 3 1, 3) := by decide +kernel
theorem dX11_coatsFor_29 : decode cX11_coatsFor 29 = .ok (.goto (-25), 3) := by decide +kernel
theorem dX11_coatsFor_32 : decode cX11_coatsFor 32 = .ok (.iload_n 2, 1) := by decide +kernel
theorem dX11_coatsFor_33 : decode cX11_coatsFor 33 = .ok (.ireturn, 1) := by decide +kernel
theorem dX11_countUnit_0 : decode cX11_countUnit 0 = .ok (.aload_n 0, 1) := by decide +kernel
theorem dX11_countUnit_1 : decode cX11_countUnit 1 = .ok (.dup, 1) := by decide +kernel
theorem dX11_countUnit_2 : decode cX11_countUnit 2 = .ok (.getfield 269, 3) := by decide +kernel
theorem dX11_countUnit_5 : decode cX11_countUnit 5 = .ok (.iconst 1, 1) := by decide +kernel
theorem dX11_countUnit_6 : decode cX11_countUnit 6 = .ok (.iadd, 1) := by decide +kernel
theorem dX11_countUnit_7 : decode cX11_countUnit 7 = .ok (.putfield 269, 3) := by decide +kernel
theorem dX11_countUnit_10 : decode cX11_countUnit 10 = .ok (.aload_n 0, 1) := by decide +kernel
theorem dX11_countUnit_11 : decode cX11_countUnit 11 = .ok (.dup, 1) := by decide +kernel
theorem dX11_countUnit_12 : decode cX11_countUnit 12 = .ok (.getfield 272, 3) := by decide +kernel
theorem dX11_countUnit_15 : decode cX11_countUnit 15 = .ok (.iconst 1, 1) := by decide +kernel
theorem dX11_countUnit_16 : decode cX11_countUnit 16 = .ok (.iadd, 1) := by decide +kernel
theorem dX11_countUnit_17 : decode cX11_countUnit 17 = .ok (.putfield 272, 3) := by decide +kernel
theorem dX11_countUnit_20 : decode cX11_countUnit 20 = .ok (.return_, 1) := by decide +kernel
theorem dX11_day_0 : decode cX11_day 0 = .ok (.aload_n 0, 1) := by decide +kernel
theorem dX11_day_1 : decode cX11_day 1 = .ok (.getfield 93, 3) := by decide +kernel
theorem dX11_day_4 : decode cX11_day 4 = .ok (.bipush 37, 2) := by decide +kernel
theorem dX11_day_6 : decode cX11_day 6 = .ok (.iaload, 1) := by decide +kernel
theorem dX11_day_7 : decode cX11_day 7 = .ok (.sipush 999, 3) := by decide +kernel
theorem dX11_day_10 : decode cX11_day 10 = .ok (.if_icmp .ne 5, 3) := by decide +kernel
theorem dX11_day_13 : decode cX11_day 13 = .ok (.iconst (-1), 1) := by decide +kernel
theorem dX11_day_14 : decode cX11_day 14 = .ok (.ireturn, 1) := by decide +kernel
theorem dX11_day_15 : decode cX11_day 15 = .ok (.aload_n 0, 1) := by decide +kernel
theorem dX11_day_16 : decode cX11_day 16 = .ok (.invokevirtual 458, 3) := by decide +kernel
theorem dX11_day_19 : decode cX11_day 19 = .ok (.aload_n 0, 1) := by decide +kernel
theorem dX11_day_20 : decode cX11_day 20 = .ok (.invokevirtual 461, 3) := by decide +kernel
theorem dX11_day_23 : decode cX11_day 23 = .ok (.istore_n 1, 1) := by decide +kernel
theorem dX11_day_24 : decode cX11_day 24 = .ok (.aload_n 0, 1) := by decide +kernel
theorem dX11_day_25 : decode cX11_day 25 = .ok (.iload_n 1, 1) := by decide +kernel
theorem dX11_day_26 : decode cX11_day 26 = .ok (.invokevirtual 464, 3) := by decide +kernel
theorem dX11_day_29 : decode cX11_day 29 = .ok (.istore_n 2, 1) := by decide +kernel
theorem dX11_day_30 : decode cX11_day 30 = .ok (.aload_n 0, 1) := by decide +kernel
theorem dX11_day_31 : decode cX11_day 31 = .ok (.invokevirtual 402, 3) := by decide +kernel
theorem dX11_day_34 : decode cX11_day 34 = .ok (.iload_n 2, 1) := by decide +kernel
theorem dX11_day_35 : decode cX11_day 35 = .ok (.ireturn, 1) := by decide +kernel
theorem dX11_divisor_0 : decode cX11_divisor 0 = .ok (.iload_n 0, 1) := by decide +kernel
theorem dX11_divisor_1 : decode cX11_divisor 1 = .ok (.istore_n 2, 1) := by decide +kernel
theorem dX11_divisor_2 : decode cX11_divisor 2 = .ok (.iload_n 1, 1) := by decide +kernel
theorem dX11_divisor_3 : decode cX11_divisor 3 = .ok (.istore_n 3, 1) := by decide +kernel
theorem dX11_divisor_4 : decode cX11_divisor 4 = .ok (.iload_n 3, 1) := by decide +kernel
theorem dX11_divisor_5 : decode cX11_divisor 5 = .ok (.ifCond .le 16, 3) := by decide +kernel
theorem dX11_divisor_8 : decode cX11_divisor 8 = .ok (.iload_n 2, 1) := by decide +kernel
theorem dX11_divisor_9 : decode cX11_divisor 9 = .ok (.iload_n 3, 1) := by decide +kernel
theorem dX11_divisor_10 : decode cX11_divisor 10 = .ok (.irem, 1) := by decide +kernel
theorem dX11_divisor_11 : decode cX11_divisor 11 = .ok (.istore 4, 2) := by decide +kernel
theorem dX11_divisor_13 : decode cX11_divisor 13 = .ok (.iload_n 3, 1) := by decide +kernel
theorem dX11_divisor_14 : decode cX11_divisor 14 = .ok (.istore_n 2, 1) := by decide +kernel
theorem dX11_divisor_15 : decode cX11_divisor 15 = .ok (.iload 4, 2) := by decide +kernel
theorem dX11_divisor_17 : decode cX11_divisor 17 = .ok (.istore_n 3, 1) := by decide +kernel
theorem dX11_divisor_18 : decode cX11_divisor 18 = .ok (.goto (-14), 3) := by decide +kernel
theorem dX11_divisor_21 : decode cX11_divisor 21 = .ok (.iload_n 2, 1) := by decide +kernel
theorem dX11_divisor_22 : decode cX11_divisor 22 = .ok (.ireturn, 1) := by decide +kernel
theorem dX11_doff_0 : decode cX11_doff 0 = .ok (.aload_n 0, 1) := by decide +kernel
theorem dX11_doff_1 : decode cX11_doff 1 = .ok (.iload_n 1, 1) := by decide +kernel
theorem dX11_doff_2 : decode cX11_doff 2 = .ok (.invokevirtual 446, 3) := by decide +kernel
theorem dX11_doff_5 : decode cX11_doff 5 = .ok (.ifCond .eq 15, 3) := by decide +kernel
theorem dX11_doff_8 : decode cX11_doff 8 = .ok (.aload_n 0, 1) := by decide +kernel
theorem dX11_doff_9 : decode cX11_doff 9 = .ok (.getfield 93, 3) := by decide +kernel
theorem dX11_doff_12 : decode cX11_doff 12 = .ok (.bipush 6, 2) := by decide +kernel
theorem dX11_doff_14 : decode cX11_doff 14 = .ok (.iload_n 1, 1) := by decide +kernel
theorem dX11_doff_15 : decode cX11_doff 15 = .ok (.iadd, 1) := by decide +kernel
theorem dX11_doff_16 : decode cX11_doff 16 = .ok (.iaload, 1) := by decide +kernel
theorem dX11_doff_17 : decode cX11_doff 17 = .ok (.ifCond .ge 5, 3) := by decide +kernel
theorem dX11_doff_20 : decode cX11_doff 20 = .ok (.iconst (-1), 1) := by decide +kernel
theorem dX11_doff_21 : decode cX11_doff 21 = .ok (.ireturn, 1) := by decide +kernel
theorem dX11_doff_22 : decode cX11_doff 22 = .ok (.aload_n 0, 1) := by decide +kernel
theorem dX11_doff_23 : decode cX11_doff 23 = .ok (.invokevirtual 458, 3) := by decide +kernel
theorem dX11_doff_26 : decode cX11_doff 26 = .ok (.aload_n 0, 1) := by decide +kernel
theorem dX11_doff_27 : decode cX11_doff 27 = .ok (.getfield 93, 3) := by decide +kernel
theorem dX11_doff_30 : decode cX11_doff 30 = .ok (.bipush 6, 2) := by decide +kernel
theorem dX11_doff_32 : decode cX11_doff 32 = .ok (.iload_n 1, 1) := by decide +kernel
theorem dX11_doff_33 : decode cX11_doff 33 = .ok (.iadd, 1) := by decide +kernel
theorem dX11_doff_34 : decode cX11_doff 34 = .ok (.iaload, 1) := by decide +kernel
theorem dX11_doff_35 : decode cX11_doff 35 = .ok (.istore_n 2, 1) := by decide +kernel
theorem dX11_doff_36 : decode cX11_doff 36 = .ok (.aload_n 0, 1) := by decide +kernel
theorem dX11_doff_37 : decode cX11_doff 37 = .ok (.getfield 93, 3) := by decide +kernel
theorem dX11_doff_40 : decode cX11_doff 40 = .ok (.bipush 6, 2) := by decide +kernel
theorem dX11_doff_42 : decode cX11_doff 42 = .ok (.iload_n 1, 1) := by decide +kernel
theorem dX11_doff_43 : decode cX11_doff 43 = .ok (.iadd, 1) := by decide +kernel
theorem dX11_doff_44 : decode cX11_doff 44 = .ok (.iconst (-1), 1) := by decide +kernel
theorem dX11_doff_45 : decode cX11_doff 45 = .ok (.iastore, 1) := by decide +kernel
theorem dX11_doff_46 : decode cX11_doff 46 = .ok (.iload_n 2, 1) := by decide +kernel
theorem dX11_doff_47 : decode cX11_doff 47 = .ok (.ireturn, 1) := by decide +kernel
theorem dX11_don_0 : decode cX11_don 0 = .ok (.aload_n 0, 1) := by decide +kernel
theorem dX11_don_1 : decode cX11_don 1 = .ok (.invokevirtual 449, 3) := by decide +kernel
theorem dX11_don_4 : decode cX11_don 4 = .ok (.aload_n 0, 1) := by decide +kernel
theorem dX11_don_5 : decode cX11_don 5 = .ok (.iload_n 1, 1) := by decide +kernel
theorem dX11_don_6 : decode cX11_don 6 = .ok (.invokevirtual 446, 3) := by decide +kernel
theorem dX11_don_9 : decode cX11_don 9 = .ok (.ifCond .eq 19, 3) := by decide +kernel
theorem dX11_don_12 : decode cX11_don 12 = .ok (.aload_n 0, 1) := by decide +kernel
theorem dX11_don_13 : decode cX11_don 13 = .ok (.iload_n 2, 1) := by decide +kernel
theorem dX11_don_14 : decode cX11_don 14 = .ok (.invokevirtual 455, 3) := by decide +kernel
theorem dX11_don_17 : decode cX11_don 17 = .ok (.ifCond .eq 11, 3) := by decide +kernel
theorem dX11_don_20 : decode cX11_don 20 = .ok (.aload_n 0, 1) := by decide +kernel
theorem dX11_don_21 : decode cX11_don 21 = .ok (.iload_n 2, 1) := by decide +kernel
theorem dX11_don_22 : decode cX11_don 22 = .ok (.invokevirtual 434, 3) := by decide +kernel
theorem dX11_don_25 : decode cX11_don 25 = .ok (.ifCond .lt 6, 3) := by decide +kernel
theorem dX11_don_28 : decode cX11_don 28 = .ok (.bipush (-2), 2) := by decide +kernel
theorem dX11_don_30 : decode cX11_don 30 = .ok (.ireturn, 1) := by decide +kernel
theorem dX11_don_31 : decode cX11_don 31 = .ok (.aload_n 0, 1) := by decide +kernel
theorem dX11_don_32 : decode cX11_don 32 = .ok (.invokevirtual 458, 3) := by decide +kernel
theorem dX11_don_35 : decode cX11_don 35 = .ok (.aload_n 0, 1) := by decide +kernel
theorem dX11_don_36 : decode cX11_don 36 = .ok (.getfield 93, 3) := by decide +kernel
theorem dX11_don_39 : decode cX11_don 39 = .ok (.bipush 6, 2) := by decide +kernel
theorem dX11_don_41 : decode cX11_don 41 = .ok (.iload_n 1, 1) := by decide +kernel
theorem dX11_don_42 : decode cX11_don 42 = .ok (.iadd, 1) := by decide +kernel
theorem dX11_don_43 : decode cX11_don 43 = .ok (.iaload, 1) := by decide +kernel
theorem dX11_don_44 : decode cX11_don 44 = .ok (.istore_n 3, 1) := by decide +kernel
theorem dX11_don_45 : decode cX11_don 45 = .ok (.aload_n 0, 1) := by decide +kernel
theorem dX11_don_46 : decode cX11_don 46 = .ok (.getfield 93, 3) := by decide +kernel
theorem dX11_don_49 : decode cX11_don 49 = .ok (.bipush 6, 2) := by decide +kernel
theorem dX11_don_51 : decode cX11_don 51 = .ok (.iload_n 1, 1) := by decide +kernel
theorem dX11_don_52 : decode cX11_don 52 = .ok (.iadd, 1) := by decide +kernel
theorem dX11_don_53 : decode cX11_don 53 = .ok (.iload_n 2, 1) := by decide +kernel
theorem dX11_don_54 : decode cX11_don 54 = .ok (.iastore, 1) := by decide +kernel
theorem dX11_don_55 : decode cX11_don 55 = .ok (.iload_n 3, 1) := by decide +kernel
theorem dX11_don_56 : decode cX11_don 56 = .ok (.ireturn, 1) := by decide +kernel
theorem dX11_done_0 : decode cX11_done 0 = .ok (.iload_n 0, 1) := by decide +kernel
theorem dX11_done_1 : decode cX11_done 1 = .ok (.tableswitch 214 37 62 #[143, 197, 214, 214, 214, 127, 119, 214, 123, 214, 131, 214, 214, 214, 214, 214, 214, 214, 214, 214, 214, 214, 214, 155, 183, 169], 119) := by decide +kernel
theorem dX11_done_120 : decode cX11_done 120 = .ok (.iload_n 1, 1) := by decide +kernel
theorem dX11_done_121 : decode cX11_done 121 = .ok (.iload_n 2, 1) := by decide +kernel
theorem dX11_done_122 : decode cX11_done 122 = .ok (.iadd, 1) := by decide +kernel
theorem dX11_done_123 : decode cX11_done 123 = .ok (.ireturn, 1) := by decide +kernel
theorem dX11_done_124 : decode cX11_done 124 = .ok (.iload_n 1, 1) := by decide +kernel
theorem dX11_done_125 : decode cX11_done 125 = .ok (.iload_n 2, 1) := by decide +kernel
theorem dX11_done_126 : decode cX11_done 126 = .ok (.isub, 1) := by decide +kernel
theorem dX11_done_127 : decode cX11_done 127 = .ok (.ireturn, 1) := by decide +kernel
theorem dX11_done_128 : decode cX11_done 128 = .ok (.iload_n 1, 1) := by decide +kernel
theorem dX11_done_129 : decode cX11_done 129 = .ok (.iload_n 2, 1) := by decide +kernel
theorem dX11_done_130 : decode cX11_done 130 = .ok (.imul, 1) := by decide +kernel
theorem dX11_done_131 : decode cX11_done 131 = .ok (.ireturn, 1) := by decide +kernel
theorem dX11_done_132 : decode cX11_done 132 = .ok (.iload_n 2, 1) := by decide +kernel
theorem dX11_done_133 : decode cX11_done 133 = .ok (.ifCond .ne 7, 3) := by decide +kernel
theorem dX11_done_136 : decode cX11_done 136 = .ok (.iconst 0, 1) := by decide +kernel
theorem dX11_done_137 : decode cX11_done 137 = .ok (.goto 6, 3) := by decide +kernel
theorem dX11_done_140 : decode cX11_done 140 = .ok (.iload_n 1, 1) := by decide +kernel
theorem dX11_done_141 : decode cX11_done 141 = .ok (.iload_n 2, 1) := by decide +kernel
theorem dX11_done_142 : decode cX11_done 142 = .ok (.idiv, 1) := by decide +kernel
theorem dX11_done_143 : decode cX11_done 143 = .ok (.ireturn, 1) := by decide +kernel
theorem dX11_done_144 : decode cX11_done 144 = .ok (.iload_n 2, 1) := by decide +kernel
theorem dX11_done_145 : decode cX11_done 145 = .ok (.ifCond .ne 7, 3) := by decide +kernel
theorem dX11_done_148 : decode cX11_done 148 = .ok (.iconst 0, 1) := by decide +kernel
theorem dX11_done_149 : decode cX11_done 149 = .ok (.goto 6, 3) := by decide +kernel
theorem dX11_done_152 : decode cX11_done 152 = .ok (.iload_n 1, 1) := by decide +kernel
theorem dX11_done_153 : decode cX11_done 153 = .ok (.iload_n 2, 1) := by decide +kernel
theorem dX11_done_154 : decode cX11_done 154 = .ok (.irem, 1) := by decide +kernel
theorem dX11_done_155 : decode cX11_done 155 = .ok (.ireturn, 1) := by decide +kernel
theorem dX11_done_156 : decode cX11_done 156 = .ok (.iload_n 1, 1) := by decide +kernel
theorem dX11_done_157 : decode cX11_done 157 = .ok (.iload_n 2, 1) := by decide +kernel
theorem dX11_done_158 : decode cX11_done 158 = .ok (.if_icmp .ge 7, 3) := by decide +kernel
theorem dX11_done_161 : decode cX11_done 161 = .ok (.iconst 1, 1) := by decide +kernel
theorem dX11_done_162 : decode cX11_done 162 = .ok (.goto 4, 3) := by decide +kernel
theorem dX11_done_165 : decode cX11_done 165 = .ok (.iconst 0, 1) := by decide +kernel
theorem dX11_done_166 : decode cX11_done 166 = .ok (.invokestatic 310, 3) := by decide +kernel
theorem dX11_done_169 : decode cX11_done 169 = .ok (.ireturn, 1) := by decide +kernel
theorem dX11_done_170 : decode cX11_done 170 = .ok (.iload_n 1, 1) := by decide +kernel
theorem dX11_done_171 : decode cX11_done 171 = .ok (.iload_n 2, 1) := by decide +kernel
theorem dX11_done_172 : decode cX11_done 172 = .ok (.if_icmp .le 7, 3) := by decide +kernel
theorem dX11_done_175 : decode cX11_done 175 = .ok (.iconst 1, 1) := by decide +kernel
theorem dX11_done_176 : decode cX11_done 176 = .ok (.goto 4, 3) := by decide +kernel
theorem dX11_done_179 : decode cX11_done 179 = .ok (.iconst 0, 1) := by decide +kernel
theorem dX11_done_180 : decode cX11_done 180 = .ok (.invokestatic 310, 3) := by decide +kernel
theorem dX11_done_183 : decode cX11_done 183 = .ok (.ireturn, 1) := by decide +kernel
theorem dX11_done_184 : decode cX11_done 184 = .ok (.iload_n 1, 1) := by decide +kernel
theorem dX11_done_185 : decode cX11_done 185 = .ok (.iload_n 2, 1) := by decide +kernel
theorem dX11_done_186 : decode cX11_done 186 = .ok (.if_icmp .ne 7, 3) := by decide +kernel
theorem dX11_done_189 : decode cX11_done 189 = .ok (.iconst 1, 1) := by decide +kernel
theorem dX11_done_190 : decode cX11_done 190 = .ok (.goto 4, 3) := by decide +kernel
theorem dX11_done_193 : decode cX11_done 193 = .ok (.iconst 0, 1) := by decide +kernel
theorem dX11_done_194 : decode cX11_done 194 = .ok (.invokestatic 310, 3) := by decide +kernel
theorem dX11_done_197 : decode cX11_done 197 = .ok (.ireturn, 1) := by decide +kernel
theorem dX11_done_198 : decode cX11_done 198 = .ok (.iload_n 1, 1) := by decide +kernel
theorem dX11_done_199 : decode cX11_done 199 = .ok (.ifCond .eq 11, 3) := by decide +kernel
theorem dX11_done_202 : decode cX11_done 202 = .ok (.iload_n 2, 1) := by decide +kernel
theorem dX11_done_203 : decode cX11_done 203 = .ok (.ifCond .eq 7, 3) := by decide +kernel
theorem dX11_done_206 : decode cX11_done 206 = .ok (.iconst 1, 1) := by decide +kernel
theorem dX11_done_207 : decode cX11_done 207 = .ok (.goto 4, 3) := by decide +kernel
theorem dX11_done_210 : decode cX11_done 210 = .ok (.iconst 0, 1) := by decide +kernel
theorem dX11_done_211 : decode cX11_done 211 = .ok (.invokestatic 310, 3) := by decide +kernel
theorem dX11_done_214 : decode cX11_done 214 = .ok (.ireturn, 1) := by decide +kernel
theorem dX11_done_215 : decode cX11_done 215 = .ok (.iload_n 1, 1) := by decide +kernel
theorem dX11_done_216 : decode cX11_done 216 = .ok (.ifCond .ne 7, 3) := by decide +kernel
theorem dX11_done_219 : decode cX11_done 219 = .ok (.iload_n 2, 1) := by decide +kernel
theorem dX11_done_220 : decode cX11_done 220 = .ok (.ifCond .eq 7, 3) := by decide +kernel
theorem dX11_done_223 : decode cX11_done 223 = .ok (.iconst 1, 1) := by decide +kernel
theorem dX11_done_224 : decode cX11_done 224 = .ok (.goto 4, 3) := by decide +kernel
theorem dX11_done_227 : decode cX11_done 227 = .ok (.iconst 0, 1) := by decide +kernel
theorem dX11_done_228 : decode cX11_done 228 = .ok (.invokestatic 310, 3) := by decide +kernel
theorem dX11_done_231 : decode cX11_done 231 = .ok (.ireturn, 1) := by decide +kernel
theorem dX11_drawRain_0 : decode cX11_drawRain 0 = .ok (.aload_n 0, 1) := by decide +kernel
theorem dX11_drawRain_1 : decode cX11_drawRain 1 = .ok (.getfield 96, 3) := by decide +kernel
theorem dX11_drawRain_4 : decode cX11_drawRain 4 = .ok (.bipush 38, 2) := by decide +kernel
theorem dX11_drawRain_6 : decode cX11_drawRain 6 = .ok (.aload_n 0, 1) := by decide +kernel
theorem dX11_drawRain_7 : decode cX11_drawRain 7 = .ok (.getfield 96, 3) := by decide +kernel
theorem dX11_drawRain_10 : decode cX11_drawRain 10 = .ok (.bipush 38, 2) := by decide +kernel
theorem dX11_drawRain_12 : decode cX11_drawRain 12 = .ok (.iaload, 1) := by decide +kernel
theorem dX11_drawRain_13 : decode cX11_drawRain 13 = .ok (.sipush 137, 3) := by decide +kernel
theorem dX11_drawRain_16 : decode cX11_drawRain 16 = .ok (.imul, 1) := by decide +kernel
theorem dX11_drawRain_17 : decode cX11_drawRain 17 = .ok (.bipush 71, 2) := by decide +kernel
theorem dX11_drawRain_19 : decode cX11_drawRain 19 = .ok (.iadd, 1) := by decide +kernel
theorem dX11_drawRain_20 : decode cX11_drawRain 20 = .ok (.sipush 1000, 3) := by decide +kernel
theorem dX11_drawRain_23 : decode cX11_drawRain 23 = .ok (.irem, 1) := by decide +kernel
theorem dX11_drawRain_24 : decode cX11_drawRain 24 = .ok (.iastore, 1) := by decide +kernel
theorem dX11_drawRain_25 : decode cX11_drawRain 25 = .ok (.aload_n 0, 1) := by decide +kernel
theorem dX11_drawRain_26 : decode cX11_drawRain 26 = .ok (.getfield 96, 3) := by decide +kernel
theorem dX11_drawRain_29 : decode cX11_drawRain 29 = .ok (.bipush 38, 2) := by decide +kernel
theorem dX11_drawRain_31 : decode cX11_drawRain 31 = .ok (.iaload, 1) := by decide +kernel
theorem dX11_drawRain_32 : decode cX11_drawRain 32 = .ok (.bipush 100, 2) := by decide +kernel
theorem dX11_drawRain_34 : decode cX11_drawRain 34 = .ok (.irem, 1) := by decide +kernel
theorem dX11_drawRain_35 : decode cX11_drawRain 35 = .ok (.aload_n 0, 1) := by decide +kernel
theorem dX11_drawRain_36 : decode cX11_drawRain 36 = .ok (.getfield 393, 3) := by decide +kernel
theorem dX11_drawRain_39 : decode cX11_drawRain 39 = .ok (.if_icmp .ge 7, 3) := by decide +kernel
theorem dX11_drawRain_42 : decode cX11_drawRain 42 = .ok (.iconst 1, 1) := by decide +kernel
theorem dX11_drawRain_43 : decode cX11_drawRain 43 = .ok (.goto 4, 3) := by decide +kernel
theorem dX11_drawRain_46 : decode cX11_drawRain 46 = .ok (.iconst 0, 1) := by decide +kernel
theorem dX11_drawRain_47 : decode cX11_drawRain 47 = .ok (.ireturn, 1) := by decide +kernel
theorem dX11_dress_0 : decode cX11_dress 0 = .ok (.iload_n 1, 1) := by decide +kernel
theorem dX11_dress_1 : decode cX11_dress 1 = .ok (.iconst 0, 1) := by decide +kernel
theorem dX11_dress_2 : decode cX11_dress 2 = .ok (.iconst 1, 1) := by decide +kernel
theorem dX11_dress_3 : decode cX11_dress 3 = .ok (.invokestatic 417, 3) := by decide +kernel
theorem dX11_dress_6 : decode cX11_dress 6 = .ok (.ifCond .ne 5, 3) := by decide +kernel
theorem dX11_dress_9 : decode cX11_dress 9 = .ok (.iconst (-1), 1) := by decide +kernel
theorem dX11_dress_10 : decode cX11_dress 10 = .ok (.ireturn, 1) := by decide +kernel
theorem dX11_dress_11 : decode cX11_dress 11 = .ok (.aload_n 0, 1) := by decide +kernel
theorem dX11_dress_12 : decode cX11_dress 12 = .ok (.invokevirtual 470, 3) := by decide +kernel
theorem dX11_dress_15 : decode cX11_dress 15 = .ok (.iconst (-1), 1) := by decide +kernel
theorem dX11_dress_16 : decode cX11_dress 16 = .ok (.istore_n 2, 1) := by decide +kernel
theorem dX11_dress_17 : decode cX11_dress 17 = .ok (.iconst 0, 1) := by decide +kernel
theorem dX11_dress_18 : decode cX11_dress 18 = .ok (.istore_n 3, 1) := by decide +kernel
theorem dX11_dress_19 : decode cX11_dress 19 = .ok (.iconst 0, 1) := by decide +kernel
theorem dX11_dress_20 : decode cX11_dress 20 = .ok (.istore 4, 2) := by decide +kernel
theorem dX11_dress_22 : decode cX11_dress 22 = .ok (.iload 4, 2) := by decide +kernel
theorem dX11_dress_24 : decode cX11_dress 24 = .ok (.aload_n 0, 1) := by decide +kernel
theorem dX11_dress_25 : decode cX11_dress 25 = .ok (.getfield 390, 3) := by decide +kernel
theorem dX11_dress_28 : decode cX11_dress 28 = .ok (.iconst 1, 1) := by decide +kernel
theorem dX11_dress_29 : decode cX11_dress 29 = .ok (.iadd, 1) := by decide +kernel
theorem dX11_dress_30 : decode cX11_dress 30 = .ok (.aload_n 0, 1) := by decide +kernel
theorem dX11_dress_31 : decode cX11_dress 31 = .ok (.getfield 387, 3) := by decide +kernel
theorem dX11_dress_34 : decode cX11_dress 34 = .ok (.invokestatic 473, 3) := by decide +kernel
theorem dX11_dress_37 : decode cX11_dress 37 = .ok (.if_icmp .ge 85, 3) := by decide +kernel
theorem dX11_dress_40 : decode cX11_dress 40 = .ok (.aload_n 0, 1) := by decide +kernel
theorem dX11_dress_41 : decode cX11_dress 41 = .ok (.iload 4, 2) := by decide +kernel
theorem dX11_dress_43 : decode cX11_dress 43 = .ok (.invokevirtual 476, 3) := by decide +kernel
theorem dX11_dress_46 : decode cX11_dress 46 = .ok (.istore 5, 2) := by decide +kernel
theorem dX11_dress_48 : decode cX11_dress 48 = .ok (.iload 5, 2) := by decide +kernel
theorem dX11_dress_50 : decode cX11_dress 50 = .ok (.ifCond .lt 66, 3) := by decide +kernel
theorem dX11_dress_53 : decode cX11_dress 53 = .ok (.iload 5, 2) := by decide +kernel
theorem dX11_dress_55 : decode cX11_dress 55 = .ok (.iload_n 2, 1) := by decide +kernel
theorem dX11_dress_56 : decode cX11_dress 56 = .ok (.if_icmp .lt 60, 3) := by decide +kernel
theorem dX11_dress_59 : decode cX11_dress 59 = .ok (.iload 5, 2) := by decide +kernel
theorem dX11_dress_61 : decode cX11_dress 61 = .ok (.iload_n 2, 1) := by decide +kernel
theorem dX11_dress_62 : decode cX11_dress 62 = .ok (.if_icmp .ne 14, 3) := by decide +kernel
theorem dX11_dress_65 : decode cX11_dress 65 = .ok (.aload_n 0, 1) := by decide +kernel
theorem dX11_dress_66 : decode cX11_dress 66 = .ok (.invokevirtual 479, 3) := by decide +kernel
theorem dX11_dress_69 : decode cX11_dress 69 = .ok (.iload_n 3, 1) := by decide +kernel
theorem dX11_dress_70 : decode cX11_dress 70 = .ok (.if_icmp .lt 6, 3) := by decide +kernel
theorem dX11_dress_73 : decode cX11_dress 73 = .ok (.goto 43, 3) := by decide +kernel
theorem dX11_dress_76 : decode cX11_dress 76 = .ok (.iload 5, 2) := by decide +kernel
theorem dX11_dress_78 : decode cX11_dress 78 = .ok (.istore_n 2, 1) := by decide +kernel
theorem dX11_dress_79 : decode cX11_dress 79 = .ok (.aload_n 0, 1) := by decide +kernel
theorem dX11_dress_80 : decode cX11_dress 80 = .ok (.invokevirtual 479, 3) := by decide +kernel
theorem dX11_dress_83 : decode cX11_dress 83 = .ok (.istore_n 3, 1) := by decide +kernel
theorem dX11_dress_84 : decode cX11_dress 84 = .ok (.iconst 0, 1) := by decide +kernel
theorem dX11_dress_85 : decode cX11_dress 85 = .ok (.istore 6, 2) := by decide +kernel
theorem dX11_dress_87 : decode cX11_dress 87 = .ok (.iload 6, 2) := by decide +kernel
theorem dX11_dress_89 : decode cX11_dress 89 = .ok (.aload_n 0, 1) := by decide +kernel
theorem dX11_dress_90 : decode cX11_dress 90 = .ok (.getfield 387, 3) := by decide +kernel
theorem dX11_dress_93 : decode cX11_dress 93 = .ok (.if_icmp .ge 23, 3) := by decide +kernel
theorem dX11_dress_96 : decode cX11_dress 96 = .ok (.aload_n 0, 1) := by decide +kernel
theorem dX11_dress_97 : decode cX11_dress 97 = .ok (.getfield 102, 3) := by decide +kernel
theorem dX11_dress_100 : decode cX11_dress 100 = .ok (.iload 6, 2) := by decide +kernel
theorem dX11_dress_102 : decode cX11_dress 102 = .ok (.aload_n 0, 1) := by decide +kernel
theorem dX11_dress_103 : decode cX11_dress 103 = .ok (.getfield 105, 3) := by decide +kernel
theorem dX11_dress_106 : decode cX11_dress 106 = .ok (.iload 6, 2) := by decide +kernel
theorem dX11_dress_108 : decode cX11_dress 108 = .ok (.iaload, 1) := by decide +kernel
theorem dX11_dress_109 : decode cX11_dress 109 = .ok (.iastore, 1) := by decide +kernel
theorem dX11_dress_110 : decode cX11_dress 110 = .ok (.iinc 6 1, 3) := by decide +kernel
theorem dX11_dress_113 : decode cX11_dress 113 = .ok (.goto (-26), 3) := by decide +kernel
theorem dX11_dress_116 : decode cX11_dress 116 = .ok (.iinc 4 1, 3) := by decide +kernel
theorem dX11_dress_119 : decode cX11_dress 119 = .ok (.goto (-97), 3) := by decide +kernel
theorem dX11_dress_122 : decode cX11_dress 122 = .ok (.aload_n 0, 1) := by decide +kernel
theorem dX11_dress_123 : decode cX11_dress 123 = .ok (.aload_n 0, 1) := by decide +kernel
theorem dX11_dress_124 : decode cX11_dress 124 = .ok (.getfield 387, 3) := by decide +kernel
theorem dX11_dress_127 : decode cX11_dress 127 = .ok (.putfield 414, 3) := by decide +kernel
theorem dX11_dress_130 : decode cX11_dress 130 = .ok (.iload_n 1, 1) := by decide +kernel
theorem dX11_dress_131 : decode cX11_dress 131 = .ok (.ifCond .ne 7, 3) := by decide +kernel
theorem dX11_dress_134 : decode cX11_dress 134 = .ok (.iload_n 2, 1) := by decide +kernel
theorem dX11_dress_135 : decode cX11_dress 135 = .ok (.goto 4, 3) := by decide +kernel
theorem dX11_dress_138 : decode cX11_dress 138 = .ok (.iload_n 3, 1) := by decide +kernel
theorem dX11_dress_139 : decode cX11_dress 139 = .ok (.ireturn, 1) := by decide +kernel
theorem dX11_ease_0 : decode cX11_ease 0 = .ok (.aload_n 0, 1) := by decide +kernel
theorem dX11_ease_1 : decode cX11_ease 1 = .ok (.invokevirtual 449, 3) := by decide +kernel
theorem dX11_ease_4 : decode cX11_ease 4 = .ok (.iconst 0, 1) := by decide +kernel
theorem dX11_ease_5 : decode cX11_ease 5 = .ok (.istore_n 1, 1) := by decide +kernel
theorem dX11_ease_6 : decode cX11_ease 6 = .ok (.iconst 0, 1) := by decide +kernel
theorem dX11_ease_7 : decode cX11_ease 7 = .ok (.istore_n 2, 1) := by decide +kernel
theorem dX11_ease_8 : decode cX11_ease 8 = .ok (.iload_n 2, 1) := by decide +kernel
theorem dX11_ease_9 : decode cX11_ease 9 = .ok (.aload_n 0, 1) := by decide +kernel
theorem dX11_ease_10 : decode cX11_ease 10 = .ok (.getfield 387, 3) := by decide +kernel
theorem dX11_ease_13 : decode cX11_ease 13 = .ok (.if_icmp .ge 19, 3) := by decide +kernel
theorem dX11_ease_16 : decode cX11_ease 16 = .ok (.iload_n 1, 1) := by decide +kernel
theorem dX11_ease_17 : decode cX11_ease 17 = .ok (.aload_n 0, 1) := by decide +kernel
theorem dX11_ease_18 : decode cX11_ease 18 = .ok (.iload_n 2, 1) := by decide +kernel
theorem dX11_ease_19 : decode cX11_ease 19 = .ok (.invokevirtual 521, 3) := by decide +kernel
theorem dX11_ease_22 : decode cX11_ease 22 = .ok (.invokestatic 437, 3) := by decide +kernel
theorem dX11_ease_25 : decode cX11_ease 25 = .ok (.istore_n 1, 1) := by decide +kernel
theorem dX11_ease_26 : decode cX11_ease 26 = .ok (.iinc 2 1, 3) := by decide +kernel
theorem dX11_ease_29 : decode cX11_ease 29 = .ok (.goto (-21), 3) := by decide +kernel
theorem dX11_ease_32 : decode cX11_ease 32 = .ok (.iload_n 1, 1) := by decide +kernel
theorem dX11_ease_33 : decode cX11_ease 33 = .ok (.ireturn, 1) := by decide +kernel
theorem dX11_end_0 : decode cX11_end 0 = .ok (.iload_n 1, 1) := by decide +kernel
theorem dX11_end_1 : decode cX11_end 1 = .ok (.ifCond .lt 11, 3) := by decide +kernel
theorem dX11_end_4 : decode cX11_end 4 = .ok (.iload_n 1, 1) := by decide +kernel
theorem dX11_end_5 : decode cX11_end 5 = .ok (.aload_n 0, 1) := by decide +kernel
theorem dX11_end_6 : decode cX11_end 6 = .ok (.getfield 139, 3) := by decide +kernel
theorem dX11_end_9 : decode cX11_end 9 = .ok (.if_icmp .le 5, 3) := by decide +kernel
theorem dX11_end_12 : decode cX11_end 12 = .ok (.iconst (-1), 1) := by decide +kernel
theorem dX11_end_13 : decode cX11_end 13 = .ok (.ireturn, 1) := by decide +kernel
theorem dX11_end_14 : decode cX11_end 14 = .ok (.aload_n 0, 1) := by decide +kernel
theorem dX11_end_15 : decode cX11_end 15 = .ok (.iload_n 1, 1) := by decide +kernel
theorem dX11_end_16 : decode cX11_end 16 = .ok (.putfield 139, 3) := by decide +kernel
theorem dX11_end_19 : decode cX11_end 19 = .ok (.iload_n 1, 1) := by decide +kernel
theorem dX11_end_20 : decode cX11_end 20 = .ok (.ireturn, 1) := by decide +kernel
theorem dX11_exchange_0 : decode cX11_exchange 0 = .ok (.iconst 0, 1) := by decide +kernel
theorem dX11_exchange_1 : decode cX11_exchange 1 = .ok (.istore_n 2, 1) := by decide +kernel
theorem dX11_exchange_2 : decode cX11_exchange 2 = .ok (.iload_n 2, 1) := by decide +kernel
theorem dX11_exchange_3 : decode cX11_exchange 3 = .ok (.bipush 39, 2) := by decide +kernel
theorem dX11_exchange_5 : decode cX11_exchange 5 = .ok (.if_icmp .ge 39, 3) := by decide +kernel
theorem dX11_exchange_8 : decode cX11_exchange 8 = .ok (.aload_n 0, 1) := by decide +kernel
theorem dX11_exchange_9 : decode cX11_exchange 9 = .ok (.getfield 99, 3) := by decide +kernel
theorem dX11_exchange_12 : decode cX11_exchange 12 = .ok (.iload_n 1, 1) := by decide +kernel
theorem dX11_exchange_13 : decode cX11_exchange 13 = .ok (.iload_n 2, 1) := by decide +kernel
theorem dX11_exchange_14 : decode cX11_exchange 14 = .ok (.iadd, 1) := by decide +kernel
theorem dX11_exchange_15 : decode cX11_exchange 15 = .ok (.iaload, 1) := by decide +kernel
theorem dX11_exchange_16 : decode cX11_exchange 16 = .ok (.istore_n 3, 1) := by decide +kernel
theorem dX11_exchange_17 : decode cX11_exchange 17 = .ok (.aload_n 0, 1) := by decide +kernel
theorem dX11_exchange_18 : decode cX11_exchange 18 = .ok (.getfield 99, 3) := by decide +kernel
theorem dX11_exchange_21 : decode cX11_exchange 21 = .ok (.iload_n 1, 1) := by decide +kernel
theorem dX11_exchange_22 : decode cX11_exchange 22 = .ok (.iload_n 2, 1) := by decide +kernel
theorem dX11_exchange_23 : decode cX11_exchange 23 = .ok (.iadd, 1) := by decide +kernel
theorem dX11_exchange_24 : decode cX11_exchange 24 = .ok (.aload_n 0, 1) := by decide +kernel
theorem dX11_exchange_25 : decode cX11_exchange 25 = .ok (.getfield 93, 3) := by decide +kernel
theorem dX11_exchange_28 : decode cX11_exchange 28 = .ok (.iload_n 2, 1) := by decide +kernel
theorem dX11_exchange_29 : decode cX11_exchange 29 = .ok (.iaload, 1) := by decide +kernel
theorem dX11_exchange_30 : decode cX11_exchange 30 = .ok (.iastore, 1) := by decide +kernel
theorem dX11_exchange_31 : decode cX11_exchange 31 = .ok (.aload_n 0, 1) := by decide +kernel
theorem dX11_exchange_32 : decode cX11_exchange 32 = .ok (.getfield 93, 3) := by decide +kernel
theorem dX11_exchange_35 : decode cX11_exchange 35 = .ok (.iload_n 2, 1) := by decide +kernel
theorem dX11_exchange_36 : decode cX11_exchange 36 = .ok (.iload_n 3, 1) := by decide +kernel
theorem dX11_exchange_37 : decode cX11_exchange 37 = .ok (.iastore, 1) := by decide +kernel
theorem dX11_exchange_38 : decode cX11_exchange 38 = .ok (.iinc 2 1, 3) := by decide +kernel
theorem dX11_exchange_41 : decode cX11_exchange 41 = .ok (.goto (-39), 3) := by decide +kernel
theorem dX11_exchange_44 : decode cX11_exchange 44 = .ok (.return_, 1) := by decide +kernel
theorem dX11_fault_0 : decode cX11_fault 0 = .ok (.iload_n 1, 1) := by decide +kernel
theorem dX11_fault_1 : decode cX11_fault 1 = .ok (.ifCond .ne 10, 3) := by decide +kernel
theorem dX11_fault_4 : decode cX11_fault 4 = .ok (.aload_n 0, 1) := by decide +kernel
theorem dX11_fault_5 : decode cX11_fault 5 = .ok (.getfield 179, 3) := by decide +kernel
theorem dX11_fault_8 : decode cX11_fault 8 = .ok (.goto 16, 3) := by decide +kernel
theorem dX11_fault_11 : decode cX11_fault 11 = .ok (.iload_n 1, 1) := by decide +kernel
theorem dX11_fault_12 : decode cX11_fault 12 = .ok (.iconst 1, 1) := by decide +kernel
theorem dX11_fault_13 : decode cX11_fault 13 = .ok (.if_icmp .ne 10, 3) := by decide +kernel
theorem dX11_fault_16 : decode cX11_fault 16 = .ok (.aload_n 0, 1) := by decide +kernel
theorem dX11_fault_17 : decode cX11_fault 17 = .ok (.getfield 13, 3) := by decide +kernel
theorem dX11_fault_20 : decode cX11_fault 20 = .ok (.goto 4, 3) := by decide +kernel
theorem dX11_fault_23 : decode cX11_fault 23 = .ok (.iconst (-1), 1) := by decide +kernel
theorem dX11_fault_24 : decode cX11_fault 24 = .ok (.ireturn, 1) := by decide +kernel
theorem dX11_feed_0 : decode cX11_feed 0 = .ok (.aload_n 0, 1) := by decide +kernel
theorem dX11_feed_1 : decode cX11_feed 1 = .ok (.getfield 139, 3) := by decide +kernel
theorem dX11_feed_4 : decode cX11_feed 4 = .ok (.bipush 20, 2) := by decide +kernel
theorem dX11_feed_6 : decode cX11_feed 6 = .ok (.iadd, 1) := by decide +kernel
theorem dX11_feed_7 : decode cX11_feed 7 = .ok (.sipush 1600, 3) := by decide +kernel
theorem dX11_feed_10 : decode cX11_feed 10 = .ok (.if_icmp .le 5, 3) := by decide +kernel
theorem dX11_feed_13 : decode cX11_feed 13 = .ok (.iconst (-1), 1) := by decide +kernel
theorem dX11_feed_14 : decode cX11_feed 14 = .ok (.ireturn, 1) := by decide +kernel
theorem dX11_feed_15 : decode cX11_feed 15 = .ok (.aload_n 0, 1) := by decide +kernel
theorem dX11_feed_16 : decode cX11_feed 16 = .ok (.iload_n 1, 1) := by decide +kernel
theorem dX11_feed_17 : decode cX11_feed 17 = .ok (.invokevirtual 142, 3) := by decide +kernel
theorem dX11_feed_20 : decode cX11_feed 20 = .ok (.aload_n 0, 1) := by decide +kernel
theorem dX11_feed_21 : decode cX11_feed 21 = .ok (.iload_n 2, 1) := by decide +kernel
theorem dX11_feed_22 : decode cX11_feed 22 = .ok (.invokevirtual 142, 3) := by decide +kernel
theorem dX11_feed_25 : decode cX11_feed 25 = .ok (.aload_n 0, 1) := by decide +kernel
theorem dX11_feed_26 : decode cX11_feed 26 = .ok (.iload_n 3, 1) := by decide +kernel
theorem dX11_feed_27 : decode cX11_feed 27 = .ok (.invokevirtual 142, 3) := by decide +kernel
theorem dX11_feed_30 : decode cX11_feed 30 = .ok (.aload_n 0, 1) := by decide +kernel
theorem dX11_feed_31 : decode cX11_feed 31 = .ok (.iload 4, 2) := by decide +kernel
theorem dX11_feed_33 : decode cX11_feed 33 = .ok (.invokevirtual 142, 3) := by decide +kernel
theorem dX11_feed_36 : decode cX11_feed 36 = .ok (.aload_n 0, 1) := by decide +kernel
theorem dX11_feed_37 : decode cX11_feed 37 = .ok (.iload 5, 2) := by decide +kernel
theorem dX11_feed_39 : decode cX11_feed 39 = .ok (.invokevirtual 142, 3) := by decide +kernel
theorem dX11_feed_42 : decode cX11_feed 42 = .ok (.aload_n 0, 1) := by decide +kernel
theorem dX11_feed_43 : decode cX11_feed 43 = .ok (.getfield 139, 3) := by decide +kernel
theorem dX11_feed_46 : decode cX11_feed 46 = .ok (.ireturn, 1) := by decide +kernel
theorem dX11_fill_0 : decode cX11_fill 0 = .ok (.iconst 0, 1) := by decide +kernel
theorem dX11_fill_1 : decode cX11_fill 1 = .ok (.istore_n 1, 1) := by decide +kernel
theorem dX11_fill_2 : decode cX11_fill 2 = .ok (.iload_n 1, 1) := by decide +kernel
theorem dX11_fill_3 : decode cX11_fill 3 = .ok (.bipush 39, 2) := by decide +kernel
theorem dX11_fill_5 : decode cX11_fill 5 = .ok (.if_icmp .ge 21, 3) := by decide +kernel
theorem dX11_fill_8 : decode cX11_fill 8 = .ok (.aload_n 0, 1) := by decide +kernel
theorem dX11_fill_9 : decode cX11_fill 9 = .ok (.getfield 96, 3) := by decide +kernel
theorem dX11_fill_12 : decode cX11_fill 12 = .ok (.iload_n 1, 1) := by decide +kernel
theorem dX11_fill_13 : decode cX11_fill 13 = .ok (.aload_n 0, 1) := by decide +kernel
theorem dX11_fill_14 : decode cX11_fill 14 = .ok (.getfield 93, 3) := by decide +kernel
theorem dX11_fill_17 : decode cX11_fill 17 = .ok (.iload_n 1, 1) := by decide +kernel
theorem dX11_fill_18 : decode cX11_fill 18 = .ok (.iaload, 1) := by decide +kernel
theorem dX11_fill_19 : decode cX11_fill 19 = .ok (.iastore, 1) := by decide +kernel
theorem dX11_fill_20 : decode cX11_fill 20 = .ok (.iinc 1 1, 3) := by decide +kernel
theorem dX11_fill_23 : decode cX11_fill 23 = .ok (.goto (-21), 3) := by decide +kernel
theorem dX11_fill_26 : decode cX11_fill 26 = .ok (.return_, 1) := by decide +kernel
theorem dX11_fits_0 : decode cX11_fits 0 = .ok (.iload_n 2, 1) := by decide +kernel
theorem dX11_fits_1 : decode cX11_fits 1 = .ok (.ifCond .lt 20, 3) := by decide +kernel
theorem dX11_fits_4 : decode cX11_fits 4 = .ok (.aload_n 0, 1) := by decide +kernel
theorem dX11_fits_5 : decode cX11_fits 5 = .ok (.iload_n 1, 1) := by decide +kernel
theorem dX11_fits_6 : decode cX11_fits 6 = .ok (.iload_n 2, 1) := by decide +kernel
theorem dX11_fits_7 : decode cX11_fits 7 = .ok (.invokevirtual 421, 3) := by decide +kernel
theorem dX11_fits_10 : decode cX11_fits 10 = .ok (.aload_n 0, 1) := by decide +kernel
theorem dX11_fits_11 : decode cX11_fits 11 = .ok (.getfield 84, 3) := by decide +kernel
theorem dX11_fits_14 : decode cX11_fits 14 = .ok (.if_icmp .gt 7, 3) := by decide +kernel
theorem dX11_fits_17 : decode cX11_fits 17 = .ok (.iconst 1, 1) := by decide +kernel
theorem dX11_fits_18 : decode cX11_fits 18 = .ok (.goto 4, 3) := by decide +kernel
theorem dX11_fits_21 : decode cX11_fits 21 = .ok (.iconst 0, 1) := by decide +kernel
theorem dX11_fits_22 : decode cX11_fits 22 = .ok (.ireturn, 1) := by decide +kernel
theorem dX11_fitsGrowth_0 : decode cX11_fitsGrowth 0 = .ok (.iconst 1, 1) := by decide +kernel
theorem dX11_fitsGrowth_1 : decode cX11_fitsGrowth 1 = .ok (.istore_n 3, 1) := by decide +kernel
theorem dX11_fitsGrowth_2 : decode cX11_fitsGrowth 2 = .ok (.iconst 0, 1) := by decide +kernel
theorem dX11_fitsGrowth_3 : decode cX11_fitsGrowth 3 = .ok (.istore 4, 2) := by decide +kernel
theorem dX11_fitsGrowth_5 : decode cX11_fitsGrowth 5 = .ok (.iload 4, 2) := by decide +kernel
theorem dX11_fitsGrowth_7 : decode cX11_fitsGrowth 7 = .ok (.aload_n 0, 1) := by decide +kernel
theorem dX11_fitsGrowth_8 : decode cX11_fitsGrowth 8 = .ok (.getfield 411, 3) := by decide +kernel
theorem dX11_fitsGrowth_11 : decode cX11_fitsGrowth 11 = .ok (.if_icmp .ge 81, 3) := by decide +kernel
theorem dX11_fitsGrowth_14 : decode cX11_fitsGrowth 14 = .ok (.iload_n 3, 1) := by decide +kernel
theorem dX11_fitsGrowth_15 : decode cX11_fitsGrowth 15 = .ok (.ifCond .eq 77, 3) := by decide +kernel
theorem dX11_fitsGrowth_18 : decode cX11_fitsGrowth 18 = .ok (.aload_n 0, 1) := by decide +kernel
theorem dX11_fitsGrowth_19 : decode cX11_fitsGrowth 19 = .ok (.getfield 117, 3) := by decide +kernel
theorem dX11_fitsGrowth_22 : decode cX11_fitsGrowth 22 = .ok (.iload 4, 2) := by decide +kernel
theorem dX11_fitsGrowth_24 : decode cX11_fitsGrowth 24 = .ok (.iaload, 1) := by decide +kernel
theorem dX11_fitsGrowth_25 : decode cX11_fitsGrowth 25 = .ok (.iload_n 2, 1) := by decide +kernel
theorem dX11_fitsGrowth_26 : decode cX11_fitsGrowth 26 = .ok (.if_icmp .gt 60, 3) := by decide +kernel
theorem dX11_fitsGrowth_29 : decode cX11_fitsGrowth 29 = .ok (.aload_n 0, 1) := by decide +kernel
theorem dX11_fitsGrowth_30 : decode cX11_fitsGrowth 30 = .ok (.getfield 120, 3) := by decide +kernel
theorem dX11_fitsGrowth_33 : decode cX11_fitsGrowth 33 = .ok (.iload 4, 2) := by decide +kernel
theorem dX11_fitsGrowth_35 : decode cX11_fitsGrowth 35 = .ok (.iaload, 1) := by decide +kernel
theorem dX11_fitsGrowth_36 : decode cX11_fitsGrowth 36 = .ok (.ifCond .lt 17, 3) := by decide +kernel
theorem dX11_fitsGrowth_39 : decode cX11_fitsGrowth 39 = .ok (.aload_n 0, 1) := by decide +kernel
theorem dX11_fitsGrowth_40 : decode cX11_fitsGrowth 40 = .ok (.getfield 120, 3) := by decide +kernel
theorem dX11_fitsGrowth_43 : decode cX11_fitsGrowth 43 = .ok (.iload 4, 2) := by decide +kernel
theorem dX11_fitsGrowth_45 : decode cX11_fitsGrowth 45 = .ok (.iaload, 1) := by decide +kernel
theorem dX11_fitsGrowth_46 : decode cX11_fitsGrowth 46 = .ok (.iload_n 2, 1) := by decide +kernel
theorem dX11_fitsGrowth_47 : decode cX11_fitsGrowth 47 = .ok (.if_icmp .gt 6, 3) := by decide +kernel
theorem dX11_fitsGrowth_50 : decode cX11_fitsGrowth 50 = .ok (.goto 36, 3) := by decide +kernel
theorem dX11_fitsGrowth_53 : decode cX11_fitsGrowth 53 = .ok (.aload_n 0, 1) := by decide +kernel
theorem dX11_fitsGrowth_54 : decode cX11_fitsGrowth 54 = .ok (.getfield 127, 3) := by decide +kernel
theorem dX11_fitsGrowth_57 : decode cX11_fitsGrowth 57 = .ok (.bipush 21, 2) := by decide +kernel
theorem dX11_fitsGrowth_59 : decode cX11_fitsGrowth 59 = .ok (.iload_n 1, 1) := by decide +kernel
theorem dX11_fitsGrowth_60 : decode cX11_fitsGrowth 60 = .ok (.imul, 1) := by decide +kernel
theorem dX11_fitsGrowth_61 : decode cX11_fitsGrowth 61 = .ok (.aload_n 0, 1) := by decide +kernel
theorem dX11_fitsGrowth_62 : decode cX11_fitsGrowth 62 = .ok (.getfield 114, 3) := by decide +kernel
theorem dX11_fitsGrowth_65 : decode cX11_fitsGrowth 65 = .ok (.iload 4, 2) := by decide +kernel
theorem dX11_fitsGrowth_67 : decode cX11_fitsGrowth 67 = .ok (.iaload, 1) := by decide +kernel
theorem dX11_fitsGrowth_68 : decode cX11_fitsGrowth 68 = .ok (.iadd, 1) := by decide +kernel
theorem dX11_fitsGrowth_69 : decode cX11_fitsGrowth 69 = .ok (.baload, 1) := by decide +kernel
theorem dX11_fitsGrowth_70 : decode cX11_fitsGrowth 70 = .ok (.aload_n 0, 1) := by decide +kernel
theorem dX11_fitsGrowth_71 : decode cX11_fitsGrowth 71 = .ok (.getfield 123, 3) := by decide +kernel
theorem dX11_fitsGrowth_74 : decode cX11_fitsGrowth 74 = .ok (.iload 4, 2) := by decide +kernel
theorem dX11_fitsGrowth_76 : decode cX11_fitsGrowth 76 = .ok (.baload, 1) := by decide +kernel
theorem dX11_fitsGrowth_77 : decode cX11_fitsGrowth 77 = .ok (.if_icmp .ne 7, 3) := by decide +kernel
theorem dX11_fitsGrowth_80 : decode cX11_fitsGrowth 80 = .ok (.iconst 1, 1) := by decide +kernel
theorem dX11_fitsGrowth_81 : decode cX11_fitsGrowth 81 = .ok (.goto 4, 3) := by decide +kernel
theorem dX11_fitsGrowth_84 : decode cX11_fitsGrowth 84 = .ok (.iconst 0, 1) := by decide +kernel
theorem dX11_fitsGrowth_85 : decode cX11_fitsGrowth 85 = .ok (.istore_n 3, 1) := by decide +kernel
theorem dX11_fitsGrowth_86 : decode cX11_fitsGrowth 86 = .ok (.iinc 4 1, 3) := by decide +kernel
theorem dX11_fitsGrowth_89 : decode cX11_fitsGrowth 89 = .ok (.goto (-84), 3) := by decide +kernel
theorem dX11_fitsGrowth_92 : decode cX11_fitsGrowth 92 = .ok (.iload_n 3, 1) := by decide +kernel
theorem dX11_fitsGrowth_93 : decode cX11_fitsGrowth 93 = .ok (.ireturn, 1) := by decide +kernel
theorem dX11_fitsOwn_0 : decode cX11_fitsOwn 0 = .ok (.aload_n 0, 1) := by decide +kernel
theorem dX11_fitsOwn_1 : decode cX11_fitsOwn 1 = .ok (.iload_n 1, 1) := by decide +kernel
theorem dX11_fitsOwn_2 : decode cX11_fitsOwn 2 = .ok (.aload_n 0, 1) := by decide +kernel
theorem dX11_fitsOwn_3 : decode cX11_fitsOwn 3 = .ok (.getfield 96, 3) := by decide +kernel
theorem dX11_fitsOwn_6 : decode cX11_fitsOwn 6 = .ok (.bipush 6, 2) := by decide +kernel
theorem dX11_fitsOwn_8 : decode cX11_fitsOwn 8 = .ok (.iload_n 1, 1) := by decide +kernel
theorem dX11_fitsOwn_9 : decode cX11_fitsOwn 9 = .ok (.iadd, 1) := by decide +kernel
theorem dX11_fitsOwn_10 : decode cX11_fitsOwn 10 = .ok (.iaload, 1) := by decide +kernel
theorem dX11_fitsOwn_11 : decode cX11_fitsOwn 11 = .ok (.invokevirtual 424, 3) := by decide +kernel
theorem dX11_fitsOwn_14 : decode cX11_fitsOwn 14 = .ok (.ireturn, 1) := by decide +kernel
theorem dX11_fitted_0 : decode cX11_fitted 0 = .ok (.aload_n 0, 1) := by decide +kernel
theorem dX11_fitted_1 : decode cX11_fitted 1 = .ok (.invokevirtual 449, 3) := by decide +kernel
theorem dX11_fitted_4 : decode cX11_fitted 4 = .ok (.aload_n 0, 1) := by decide +kernel
theorem dX11_fitted_5 : decode cX11_fitted 5 = .ok (.invokevirtual 443, 3) := by decide +kernel
theorem dX11_fitted_8 : decode cX11_fitted 8 = .ok (.ireturn, 1) := by decide +kernel
theorem dX11_fittedOnes_0 : decode cX11_fittedOnes 0 = .ok (.iconst 0, 1) := by decide +kernel
theorem dX11_fittedOnes_1 : decode cX11_fittedOnes 1 = .ok (.istore_n 1, 1) := by decide +kernel
theorem dX11_fittedOnes_2 : decode cX11_fittedOnes 2 = .ok (.iconst 0, 1) := by decide +kernel
theorem dX11_fittedOnes_3 : decode cX11_fittedOnes 3 = .ok (.istore_n 2, 1) := by decide +kernel
theorem dX11_fittedOnes_4 : decode cX11_fittedOnes 4 = .ok (.iload_n 2, 1) := by decide +kernel
theorem dX11_fittedOnes_5 : decode cX11_fittedOnes 5 = .ok (.aload_n 0, 1) := by decide +kernel
theorem dX11_fittedOnes_6 : decode cX11_fittedOnes 6 = .ok (.getfield 387, 3) := by decide +kernel
theorem dX11_fittedOnes_9 : decode cX11_fittedOnes 9 = .ok (.if_icmp .ge 22, 3) := by decide +kernel
theorem dX11_fittedOnes_12 : decode cX11_fittedOnes 12 = .ok (.iload_n 1, 1) := by decide +kernel
theorem dX11_fittedOnes_13 : decode cX11_fittedOnes 13 = .ok (.aload_n 0, 1) := by decide +kernel
theorem dX11_fittedOnes_14 : decode cX11_fittedOnes 14 = .ok (.iload_n 2, 1) := by decide +kernel
theorem dX11_fittedOnes_15 : decode cX11_fittedOnes 15 = .ok (.invokevirtual 428, 3) := by decide +kernel
theorem dX11_fittedOnes_18 : decode cX11_fittedOnes 18 = .ok (.invokestatic 310, 3) := by decide +kernel
theorem dX11_fittedOnes_21 : decode cX11_fittedOnes 21 = .ok (.iload_n 2, 1) := by decide +kernel
theorem dX11_fittedOnes_22 : decode cX11_fittedOnes 22 = .ok (.ishl, 1) := by decide +kernel
theorem dX11_fittedOnes_23 : decode cX11_fittedOnes 23 = .ok (.ior, 1) := by decide +kernel
theorem dX11_fittedOnes_24 : decode cX11_fittedOnes 24 = .ok (.istore_n 1, 1) := by decide +kernel
theorem dX11_fittedOnes_25 : decode cX11_fittedOnes 25 = .ok (.iinc 2 1, 3) := by decide +kernel
theorem dX11_fittedOnes_28 : decode cX11_fittedOnes 28 = .ok (.goto (-24), 3) := by decide +kernel
theorem dX11_fittedOnes_31 : decode cX11_fittedOnes 31 = .ok (.iload_n 1, 1) := by decide +kernel
theorem dX11_fittedOnes_32 : decode cX11_fittedOnes 32 = .ok (.ireturn, 1) := by decide +kernel
theorem dX11_formula_0 : decode cX11_formula 0 = .ok (.aload_n 0, 1) := by decide +kernel
theorem dX11_formula_1 : decode cX11_formula 1 = .ok (.invokevirtual 235, 3) := by decide +kernel
theorem dX11_formula_4 : decode cX11_formula 4 = .ok (.aload_n 0, 1) := by decide +kernel
theorem dX11_formula_5 : decode cX11_formula 5 = .ok (.iconst 1, 1) := by decide +kernel
theorem dX11_formula_6 : decode cX11_formula 6 = .ok (.putfield 291, 3) := by decide +kernel
theorem dX11_formula_9 : decode cX11_formula 9 = .ok (.aload_n 0, 1) := by decide +kernel
theorem dX11_formula_10 : decode cX11_formula 10 = .ok (.iconst 0, 1) := by decide +kernel
theorem dX11_formula_11 : decode cX11_formula 11 = .ok (.putfield 253, 3) := by decide +kernel
theorem dX11_formula_14 : decode cX11_formula 14 = .ok (.aload_n 0, 1) := by decide +kernel
theorem dX11_formula_15 : decode cX11_formula 15 = .ok (.iconst 0, 1) := by decide +kernel
theorem dX11_formula_16 : decode cX11_formula 16 = .ok (.putfield 256, 3) := by decide +kernel
theorem dX11_formula_19 : decode cX11_formula 19 = .ok (.aload_n 0, 1) := by decide +kernel
theorem dX11_formula_20 : decode cX11_formula 20 = .ok (.iconst 0, 1) := by decide +kernel
theorem dX11_formula_21 : decode cX11_formula 21 = .ok (.putfield 266, 3) := by decide +kernel
theorem dX11_formula_24 : decode cX11_formula 24 = .ok (.aload_n 0, 1) := by decide +kernel
theorem dX11_formula_25 : decode cX11_formula 25 = .ok (.iconst 0, 1) := by decide +kernel
theorem dX11_formula_26 : decode cX11_formula 26 = .ok (.putfield 272, 3) := by decide +kernel
theorem dX11_formula_29 : decode cX11_formula 29 = .ok (.aload_n 0, 1) := by decide +kernel
theorem dX11_formula_30 : decode cX11_formula 30 = .ok (.invokevirtual 295, 3) := by decide +kernel
theorem dX11_formula_33 : decode cX11_formula 33 = .ok (.iconst 1, 1) := by decide +kernel
theorem dX11_formula_34 : decode cX11_formula 34 = .ok (.istore_n 1, 1) := by decide +kernel
theorem dX11_formula_35 : decode cX11_formula 35 = .ok (.iload_n 1, 1) := by decide +kernel
theorem dX11_formula_36 : decode cX11_formula 36 = .ok (.ifCond .eq 126, 3) := by decide +kernel
theorem dX11_formula_39 : decode cX11_formula 39 = .ok (.aload_n 0, 1) := by decide +kernel
theorem dX11_formula_40 : decode cX11_formula 40 = .ok (.getfield 179, 3) := by decide +kernel
theorem dX11_formula_43 : decode cX11_formula 43 = .ok (.ifCond .ne 119, 3) := by decide +kernel
theorem dX11_formula_46 : decode cX11_formula 46 = .ok (.aload_n 0, 1) := by decide +kernel
theorem dX11_formula_47 : decode cX11_formula 47 = .ok (.invokevirtual 298, 3) := by decide +kernel
theorem dX11_formula_50 : decode cX11_formula 50 = .ok (.istore_n 2, 1) := by decide +kernel
theorem dX11_formula_51 : decode cX11_formula 51 = .ok (.aload_n 0, 1) := by decide +kernel
theorem dX11_formula_52 : decode cX11_formula 52 = .ok (.getfield 166, 3) := by decide +kernel
theorem dX11_formula_55 : decode cX11_formula 55 = .ok (.bipush 41, 2) := by decide +kernel
theorem dX11_formula_57 : decode cX11_formula 57 = .ok (.if_icmp .ne 42, 3) := by decide +kernel
theorem dX11_formula_60 : decode cX11_formula 60 = .ok (.aload_n 0, 1) := by decide +kernel
theorem dX11_formula_61 : decode cX11_formula 61 = .ok (.invokevirtual 301, 3) := by decide +kernel
theorem dX11_formula_64 : decode cX11_formula 64 = .ok (.ifCond .eq 35, 3) := by decide +kernel
theorem dX11_formula_67 : decode cX11_formula 67 = .ok (.aload_n 0, 1) := by decide +kernel
theorem dX11_formula_68 : decode cX11_formula 68 = .ok (.iconst 0, 1) := by decide +kernel
theorem dX11_formula_69 : decode cX11_formula 69 = .ok (.invokevirtual 304, 3) := by decide +kernel
theorem dX11_formula_72 : decode cX11_formula 72 = .ok (.aload_n 0, 1) := by decide +kernel
theorem dX11_formula_73 : decode cX11_formula 73 = .ok (.dup, 1) := by decide +kernel
theorem dX11_formula_74 : decode cX11_formula 74 = .ok (.getfield 256, 3) := by decide +kernel
theorem dX11_formula_77 : decode cX11_formula 77 = .ok (.iconst 1, 1) := by decide +kernel
theorem dX11_formula_78 : decode cX11_formula 78 = .ok (.isub, 1) := by decide +kernel
theorem dX11_formula_79 : decode cX11_formula 79 = .ok (.putfield 256, 3) := by decide +kernel
theorem dX11_formula_82 : decode cX11_formula 82 = .ok (.aload_n 0, 1) := by decide +kernel
theorem dX11_formula_83 : decode cX11_formula 83 = .ok (.dup, 1) := by decide +kernel
theorem dX11_formula_84 : decode cX11_formula 84 = .ok (.getfield 266, 3) := by decide +kernel
theorem dX11_formula_87 : decode cX11_formula 87 = .ok (.iconst 1, 1) := by decide +kernel
theorem dX11_formula_88 : decode cX11_formula 88 = .ok (.isub, 1) := by decide +kernel
theorem dX11_formula_89 : decode cX11_formula 89 = .ok (.putfield 266, 3) := by decide +kernel
theorem dX11_formula_92 : decode cX11_formula 92 = .ok (.aload_n 0, 1) := by decide +kernel
theorem dX11_formula_93 : decode cX11_formula 93 = .ok (.invokevirtual 235, 3) := by decide +kernel
theorem dX11_formula_96 : decode cX11_formula 96 = .ok (.goto 63, 3) := by decide +kernel
theorem dX11_formula_99 : decode cX11_formula 99 = .ok (.iload_n 2, 1) := by decide +kernel
theorem dX11_formula_100 : decode cX11_formula 100 = .ok (.ifCond .eq 57, 3) := by decide +kernel
theorem dX11_formula_103 : decode cX11_formula 103 = .ok (.iload_n 2, 1) := by decide +kernel
theorem dX11_formula_104 : decode cX11_formula 104 = .ok (.invokestatic 259, 3) := by decide +kernel
theorem dX11_formula_107 : decode cX11_formula 107 = .ok (.iconst 4, 1) := by decide +kernel
theorem dX11_formula_108 : decode cX11_formula 108 = .ok (.if_icmp .ne 10, 3) := by decide +kernel
theorem dX11_formula_111 : decode cX11_formula 111 = .ok (.aload_n 0, 1) := by decide +kernel
theorem dX11_formula_112 : decode cX11_formula 112 = .ok (.invokevirtual 307, 3) := by decide +kernel
theorem dX11_formula_115 : decode cX11_formula 115 = .ok (.ifCond .ne 42, 3) := by decide +kernel
theorem dX11_formula_118 : decode cX11_formula 118 = .ok (.aload_n 0, 1) := by decide +kernel
theorem dX11_formula_119 : decode cX11_formula 119 = .ok (.iload_n 2, 1) := by decide +kernel
theorem dX11_formula_120 : decode cX11_formula 120 = .ok (.invokestatic 259, 3) := by decide +kernel
theorem dX11_formula_123 : decode cX11_formula 123 = .ok (.invokevirtual 304, 3) := by decide +kernel
theorem dX11_formula_126 : decode cX11_formula 126 = .ok (.aload_n 0, 1) := by decide +kernel
theorem dX11_formula_127 : decode cX11_formula 127 = .ok (.getfield 33, 3) := by decide +kernel
theorem dX11_formula_130 : decode cX11_formula 130 = .ok (.aload_n 0, 1) := by decide +kernel
theorem dX11_formula_131 : decode cX11_formula 131 = .ok (.getfield 256, 3) := by decide +kernel
theorem dX11_formula_134 : decode cX11_formula 134 = .ok (.iload_n 2, 1) := by decide +kernel
theorem dX11_formula_135 : decode cX11_formula 135 = .ok (.iastore, 1) := by decide +kernel
theorem dX11_formula_136 : decode cX11_formula 136 = .ok (.aload_n 0, 1) := by decide +kernel
theorem dX11_formula_137 : decode cX11_formula 137 = .ok (.dup, 1) := by decide +kernel
theorem dX11_formula_138 : decode cX11_formula 138 = .ok (.getfield 256, 3) := by decide +kernel
theorem dX11_formula_141 : decode cX11_formula 141 = .ok (.iconst 1, 1) := by decide +kernel
theorem dX11_formula_142 : decode cX11_formula 142 = .ok (.iadd, 1) := by decide +kernel
theorem dX11_formula_143 : decode cX11_formula 143 = .ok (.putfield 256, 3) := by decide +kernel
theorem dX11_formula_146 : decode cX11_formula 146 = .ok (.aload_n 0, 1) := by decide +kernel
theorem dX11_formula_147 : decode cX11_formula 147 = .ok (.invokevirtual 235, 3) := by decide +kernel
theorem dX11_formula_150 : decode cX11_formula 150 = .ok (.aload_n 0, 1) := by decide +kernel
theorem dX11_formula_151 : decode cX11_formula 151 = .ok (.invokevirtual 295, 3) := by decide +kernel
theorem dX11_formula_154 : decode cX11_formula 154 = .ok (.goto 5, 3) := by decide +kernel
theorem dX11_formula_157 : decode cX11_formula 157 = .ok (.iconst 0, 1) := by decide +kernel
theorem dX11_formula_158 : decode cX11_formula 158 = .ok (.istore_n 1, 1) := by decide +kernel
theorem dX11_formula_159 : decode cX11_formula 159 = .ok (.goto (-124), 3) := by decide +kernel
theorem dX11_formula_162 : decode cX11_formula 162 = .ok (.aload_n 0, 1) := by decide +kernel
theorem dX11_formula_163 : decode cX11_formula 163 = .ok (.getfield 179, 3) := by decide +kernel
theorem dX11_formula_166 : decode cX11_formula 166 = .ok (.ifCond .ne 15, 3) := by decide +kernel
theorem dX11_formula_169 : decode cX11_formula 169 = .ok (.aload_n 0, 1) := by decide +kernel
theorem dX11_formula_170 : decode cX11_formula 170 = .ok (.invokevirtual 301, 3) := by decide +kernel
theorem dX11_formula_173 : decode cX11_formula 173 = .ok (.ifCond .eq 8, 3) := by decide +kernel
theorem dX11_formula_176 : decode cX11_formula 176 = .ok (.aload_n 0, 1) := by decide +kernel
theorem dX11_formula_177 : decode cX11_formula 177 = .ok (.iconst 2, 1) := by decide +kernel
theorem dX11_formula_178 : decode cX11_formula 178 = .ok (.invokevirtual 232, 3) := by decide +kernel
theorem dX11_formula_181 : decode cX11_formula 181 = .ok (.aload_n 0, 1) := by decide +kernel
theorem dX11_formula_182 : decode cX11_formula 182 = .ok (.getfield 179, 3) := by decide +kernel
theorem dX11_formula_185 : decode cX11_formula 185 = .ok (.ifCond .ne 8, 3) := by decide +kernel
theorem dX11_formula_188 : decode cX11_formula 188 = .ok (.aload_n 0, 1) := by decide +kernel
theorem dX11_formula_189 : decode cX11_formula 189 = .ok (.iconst 0, 1) := by decide +kernel
theorem dX11_formula_190 : decode cX11_formula 190 = .ok (.invokevirtual 304, 3) := by decide +kernel
theorem dX11_formula_193 : decode cX11_formula 193 = .ok (.return_, 1) := by decide +kernel
theorem dX11_four_0 : decode cX11_four 0 = .ok (.bipush 24, 2) := by decide +kernel
theorem dX11_four_2 : decode cX11_four 2 = .ok (.istore_n 2, 1) := by decide +kernel
theorem dX11_four_3 : decode cX11_four 3 = .ok (.iload_n 2, 1) := by decide +kernel
theorem dX11_four_4 : decode cX11_four 4 = .ok (.ifCond .lt 35, 3) := by decide +kernel
theorem dX11_four_7 : decode cX11_four 7 = .ok (.aload_n 0, 1) := by decide +kernel
theorem dX11_four_8 : decode cX11_four 8 = .ok (.getfield 7, 3) := by decide +kernel
theorem dX11_four_11 : decode cX11_four 11 = .ok (.aload_n 0, 1) := by decide +kernel
theorem dX11_four_12 : decode cX11_four 12 = .ok (.getfield 139, 3) := by decide +kernel
theorem dX11_four_15 : decode cX11_four 15 = .ok (.iload_n 1, 1) := by decide +kernel
theorem dX11_four_16 : decode cX11_four 16 = .ok (.iload_n 2, 1) := by decide +kernel
theorem dX11_four_17 : decode cX11_four 17 = .ok (.ishr, 1) := by decide +kernel
theorem dX11_four_18 : decode cX11_four 18 = .ok (.sipush 255, 3) := by decide +kernel
theorem dX11_four_21 : decode cX11_four 21 = .ok (.iand, 1) := by decide +kernel
theorem dX11_four_22 : decode cX11_four 22 = .ok (.iastore, 1) := by decide +kernel
theorem dX11_four_23 : decode cX11_four 23 = .ok (.aload_n 0, 1) := by decide +kernel
theorem dX11_four_24 : decode cX11_four 24 = .ok (.dup, 1) := by decide +kernel
theorem dX11_four_25 : decode cX11_four 25 = .ok (.getfield 139, 3) := by decide +kernel
theorem dX11_four_28 : decode cX11_four 28 = .ok (.iconst 1, 1) := by decide +kernel
theorem dX11_four_29 : decode cX11_four 29 = .ok (.iadd, 1) := by decide +kernel
theorem dX11_four_30 : decode cX11_four 30 = .ok (.putfield 139, 3) := by decide +kernel
theorem dX11_four_33 : decode cX11_four 33 = .ok (.iinc 2 (-8), 3) := by decide +kernel
theorem dX11_four_36 : decode cX11_four 36 = .ok (.goto (-33), 3) := by decide +kernel
