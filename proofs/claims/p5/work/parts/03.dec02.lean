theorem dX6_coatLine_149 : decode cX6_coatLine 149 = .ok (.iload_n 2, 1) := by decide +kernel
theorem dX6_coatLine_150 : decode cX6_coatLine 150 = .ok (.iload_n 3, 1) := by decide +kernel
theorem dX6_coatLine_151 : decode cX6_coatLine 151 = .ok (.iload 4, 2) := by decide +kernel
theorem dX6_coatLine_153 : decode cX6_coatLine 153 = .ok (.invokevirtual 107, 3) := by decide +kernel
theorem dX6_coatLine_156 : decode cX6_coatLine 156 = .ok (.iconst 1, 1) := by decide +kernel
theorem dX6_coatLine_157 : decode cX6_coatLine 157 = .ok (.ireturn, 1) := by decide +kernel
theorem dX6_expression_0 : decode cX6_expression 0 = .ok (.iload_n 1, 1) := by decide +kernel
theorem dX6_expression_1 : decode cX6_expression 1 = .ok (.iconst 5, 1) := by decide +kernel
theorem dX6_expression_2 : decode cX6_expression 2 = .ok (.if_icmp .lt 9, 3) := by decide +kernel
theorem dX6_expression_5 : decode cX6_expression 5 = .ok (.aload_n 0, 1) := by decide +kernel
theorem dX6_expression_6 : decode cX6_expression 6 = .ok (.iload_n 2, 1) := by decide +kernel
theorem dX6_expression_7 : decode cX6_expression 7 = .ok (.invokevirtual 125, 3) := by decide +kernel
theorem dX6_expression_10 : decode cX6_expression 10 = .ok (.ireturn, 1) := by decide +kernel
theorem dX6_expression_11 : decode cX6_expression 11 = .ok (.iload_n 1, 1) := by decide +kernel
theorem dX6_expression_12 : decode cX6_expression 12 = .ok (.iconst 2, 1) := by decide +kernel
theorem dX6_expression_13 : decode cX6_expression 13 = .ok (.if_icmp .ne 21, 3) := by decide +kernel
theorem dX6_expression_16 : decode cX6_expression 16 = .ok (.aload_n 0, 1) := by decide +kernel
theorem dX6_expression_17 : decode cX6_expression 17 = .ok (.getfield 29, 3) := by decide +kernel
theorem dX6_expression_20 : decode cX6_expression 20 = .ok (.getfield 47, 3) := by decide +kernel
theorem dX6_expression_23 : decode cX6_expression 23 = .ok (.bipush 115, 2) := by decide +kernel
theorem dX6_expression_25 : decode cX6_expression 25 = .ok (.if_icmp .ne 9, 3) := by decide +kernel
theorem dX6_expression_28 : decode cX6_expression 28 = .ok (.aload_n 0, 1) := by decide +kernel
theorem dX6_expression_29 : decode cX6_expression 29 = .ok (.iload_n 2, 1) := by decide +kernel
theorem dX6_expression_30 : decode cX6_expression 30 = .ok (.invokevirtual 128, 3) := by decide +kernel
theorem dX6_expression_33 : decode cX6_expression 33 = .ok (.ireturn, 1) := by decide +kernel
theorem dX6_expression_34 : decode cX6_expression 34 = .ok (.aload_n 0, 1) := by decide +kernel
theorem dX6_expression_35 : decode cX6_expression 35 = .ok (.iload_n 1, 1) := by decide +kernel
theorem dX6_expression_36 : decode cX6_expression 36 = .ok (.iconst 1, 1) := by decide +kernel
theorem dX6_expression_37 : decode cX6_expression 37 = .ok (.iadd, 1) := by decide +kernel
theorem dX6_expression_38 : decode cX6_expression 38 = .ok (.iload_n 2, 1) := by decide +kernel
theorem dX6_expression_39 : decode cX6_expression 39 = .ok (.invokevirtual 67, 3) := by decide +kernel
theorem dX6_expression_42 : decode cX6_expression 42 = .ok (.ifCond .ne 5, 3) := by decide +kernel
theorem dX6_expression_45 : decode cX6_expression 45 = .ok (.iconst 0, 1) := by decide +kernel
theorem dX6_expression_46 : decode cX6_expression 46 = .ok (.ireturn, 1) := by decide +kernel
theorem dX6_expression_47 : decode cX6_expression 47 = .ok (.iload_n 1, 1) := by decide +kernel
theorem dX6_expression_48 : decode cX6_expression 48 = .ok (.iconst 2, 1) := by decide +kernel
theorem dX6_expression_49 : decode cX6_expression 49 = .ok (.if_icmp .ne 7, 3) := by decide +kernel
theorem dX6_expression_52 : decode cX6_expression 52 = .ok (.iconst 1, 1) := by decide +kernel
theorem dX6_expression_53 : decode cX6_expression 53 = .ok (.goto 6, 3) := by decide +kernel
theorem dX6_expression_56 : decode cX6_expression 56 = .ok (.sipush 1600, 3) := by decide +kernel
theorem dX6_expression_59 : decode cX6_expression 59 = .ok (.istore_n 3, 1) := by decide +kernel
theorem dX6_expression_60 : decode cX6_expression 60 = .ok (.iconst 0, 1) := by decide +kernel
theorem dX6_expression_61 : decode cX6_expression 61 = .ok (.istore 4, 2) := by decide +kernel
theorem dX6_expression_63 : decode cX6_expression 63 = .ok (.iload 4, 2) := by decide +kernel
theorem dX6_expression_65 : decode cX6_expression 65 = .ok (.iload_n 3, 1) := by decide +kernel
theorem dX6_expression_66 : decode cX6_expression 66 = .ok (.if_icmp .ge 65, 3) := by decide +kernel
theorem dX6_expression_69 : decode cX6_expression 69 = .ok (.iload_n 1, 1) := by decide +kernel
theorem dX6_expression_70 : decode cX6_expression 70 = .ok (.aload_n 0, 1) := by decide +kernel
theorem dX6_expression_71 : decode cX6_expression 71 = .ok (.getfield 29, 3) := by decide +kernel
theorem dX6_expression_74 : decode cX6_expression 74 = .ok (.getfield 47, 3) := by decide +kernel
theorem dX6_expression_77 : decode cX6_expression 77 = .ok (.invokestatic 131, 3) := by decide +kernel
theorem dX6_expression_80 : decode cX6_expression 80 = .ok (.ifCond .eq 51, 3) := by decide +kernel
theorem dX6_expression_83 : decode cX6_expression 83 = .ok (.aload_n 0, 1) := by decide +kernel
theorem dX6_expression_84 : decode cX6_expression 84 = .ok (.getfield 29, 3) := by decide +kernel
theorem dX6_expression_87 : decode cX6_expression 87 = .ok (.getfield 47, 3) := by decide +kernel
theorem dX6_expression_90 : decode cX6_expression 90 = .ok (.istore 5, 2) := by decide +kernel
theorem dX6_expression_92 : decode cX6_expression 92 = .ok (.aload_n 0, 1) := by decide +kernel
theorem dX6_expression_93 : decode cX6_expression 93 = .ok (.getfield 29, 3) := by decide +kernel
theorem dX6_expression_96 : decode cX6_expression 96 = .ok (.invokevirtual 86, 3) := by decide +kernel
theorem dX6_expression_99 : decode cX6_expression 99 = .ok (.aload_n 0, 1) := by decide +kernel
theorem dX6_expression_100 : decode cX6_expression 100 = .ok (.iload_n 1, 1) := by decide +kernel
theorem dX6_expression_101 : decode cX6_expression 101 = .ok (.iconst 1, 1) := by decide +kernel
theorem dX6_expression_102 : decode cX6_expression 102 = .ok (.iadd, 1) := by decide +kernel
theorem dX6_expression_103 : decode cX6_expression 103 = .ok (.iload_n 2, 1) := by decide +kernel
theorem dX6_expression_104 : decode cX6_expression 104 = .ok (.invokevirtual 67, 3) := by decide +kernel
theorem dX6_expression_107 : decode cX6_expression 107 = .ok (.ifCond .ne 5, 3) := by decide +kernel
theorem dX6_expression_110 : decode cX6_expression 110 = .ok (.iconst 0, 1) := by decide +kernel
theorem dX6_expression_111 : decode cX6_expression 111 = .ok (.ireturn, 1) := by decide +kernel
theorem dX6_expression_112 : decode cX6_expression 112 = .ok (.aload_n 0, 1) := by decide +kernel
theorem dX6_expression_113 : decode cX6_expression 113 = .ok (.getfield 12, 3) := by decide +kernel
theorem dX6_expression_116 : decode cX6_expression 116 = .ok (.getfield 134, 3) := by decide +kernel
theorem dX6_expression_119 : decode cX6_expression 119 = .ok (.iload 5, 2) := by decide +kernel
theorem dX6_expression_121 : decode cX6_expression 121 = .ok (.iconst 0, 1) := by decide +kernel
theorem dX6_expression_122 : decode cX6_expression 122 = .ok (.invokevirtual 138, 3) := by decide +kernel
theorem dX6_expression_125 : decode cX6_expression 125 = .ok (.iinc 4 1, 3) := by decide +kernel
theorem dX6_expression_128 : decode cX6_expression 128 = .ok (.goto (-65), 3) := by decide +kernel
theorem dX6_expression_131 : decode cX6_expression 131 = .ok (.iconst 1, 1) := by decide +kernel
theorem dX6_expression_132 : decode cX6_expression 132 = .ok (.ireturn, 1) := by decide +kernel
theorem dX6_joins_0 : decode cX6_joins 0 = .ok (.iload_n 0, 1) := by decide +kernel
theorem dX6_joins_1 : decode cX6_joins 1 = .ok (.tableswitch 125 0 4 #[35, 47, 59, 83, 101], 35) := by decide +kernel
theorem dX6_joins_36 : decode cX6_joins 36 = .ok (.iload_n 1, 1) := by decide +kernel
theorem dX6_joins_37 : decode cX6_joins 37 = .ok (.bipush 113, 2) := by decide +kernel
theorem dX6_joins_39 : decode cX6_joins 39 = .ok (.if_icmp .ne 7, 3) := by decide +kernel
theorem dX6_joins_42 : decode cX6_joins 42 = .ok (.iconst 1, 1) := by decide +kernel
theorem dX6_joins_43 : decode cX6_joins 43 = .ok (.goto 4, 3) := by decide +kernel
theorem dX6_joins_46 : decode cX6_joins 46 = .ok (.iconst 0, 1) := by decide +kernel
theorem dX6_joins_47 : decode cX6_joins 47 = .ok (.ireturn, 1) := by decide +kernel
theorem dX6_joins_48 : decode cX6_joins 48 = .ok (.iload_n 1, 1) := by decide +kernel
theorem dX6_joins_49 : decode cX6_joins 49 = .ok (.bipush 114, 2) := by decide +kernel
theorem dX6_joins_51 : decode cX6_joins 51 = .ok (.if_icmp .ne 7, 3) := by decide +kernel
theorem dX6_joins_54 : decode cX6_joins 54 = .ok (.iconst 1, 1) := by decide +kernel
theorem dX6_joins_55 : decode cX6_joins 55 = .ok (.goto 4, 3) := by decide +kernel
theorem dX6_joins_58 : decode cX6_joins 58 = .ok (.iconst 0, 1) := by decide +kernel
theorem dX6_joins_59 : decode cX6_joins 59 = .ok (.ireturn, 1) := by decide +kernel
theorem dX6_joins_60 : decode cX6_joins 60 = .ok (.iload_n 1, 1) := by decide +kernel
theorem dX6_joins_61 : decode cX6_joins 61 = .ok (.bipush 60, 2) := by decide +kernel
theorem dX6_joins_63 : decode cX6_joins 63 = .ok (.if_icmp .eq 15, 3) := by decide +kernel
theorem dX6_joins_66 : decode cX6_joins 66 = .ok (.iload_n 1, 1) := by decide +kernel
theorem dX6_joins_67 : decode cX6_joins 67 = .ok (.bipush 62, 2) := by decide +kernel
theorem dX6_joins_69 : decode cX6_joins 69 = .ok (.if_icmp .eq 9, 3) := by decide +kernel
theorem dX6_joins_72 : decode cX6_joins 72 = .ok (.iload_n 1, 1) := by decide +kernel
theorem dX6_joins_73 : decode cX6_joins 73 = .ok (.bipush 61, 2) := by decide +kernel
theorem dX6_joins_75 : decode cX6_joins 75 = .ok (.if_icmp .ne 7, 3) := by decide +kernel
theorem dX6_joins_78 : decode cX6_joins 78 = .ok (.iconst 1, 1) := by decide +kernel
theorem dX6_joins_79 : decode cX6_joins 79 = .ok (.goto 4, 3) := by decide +kernel
theorem dX6_joins_82 : decode cX6_joins 82 = .ok (.iconst 0, 1) := by decide +kernel
theorem dX6_joins_83 : decode cX6_joins 83 = .ok (.ireturn, 1) := by decide +kernel
theorem dX6_joins_84 : decode cX6_joins 84 = .ok (.iload_n 1, 1) := by decide +kernel
theorem dX6_joins_85 : decode cX6_joins 85 = .ok (.bipush 43, 2) := by decide +kernel
theorem dX6_joins_87 : decode cX6_joins 87 = .ok (.if_icmp .eq 9, 3) := by decide +kernel
theorem dX6_joins_90 : decode cX6_joins 90 = .ok (.iload_n 1, 1) := by decide +kernel
theorem dX6_joins_91 : decode cX6_joins 91 = .ok (.bipush 45, 2) := by decide +kernel
theorem dX6_joins_93 : decode cX6_joins 93 = .ok (.if_icmp .ne 7, 3) := by decide +kernel
theorem dX6_joins_96 : decode cX6_joins 96 = .ok (.iconst 1, 1) := by decide +kernel
theorem dX6_joins_97 : decode cX6_joins 97 = .ok (.goto 4, 3) := by decide +kernel
theorem dX6_joins_100 : decode cX6_joins 100 = .ok (.iconst 0, 1) := by decide +kernel
theorem dX6_joins_101 : decode cX6_joins 101 = .ok (.ireturn, 1) := by decide +kernel
theorem dX6_joins_102 : decode cX6_joins 102 = .ok (.iload_n 1, 1) := by decide +kernel
theorem dX6_joins_103 : decode cX6_joins 103 = .ok (.bipush 42, 2) := by decide +kernel
theorem dX6_joins_105 : decode cX6_joins 105 = .ok (.if_icmp .eq 15, 3) := by decide +kernel
theorem dX6_joins_108 : decode cX6_joins 108 = .ok (.iload_n 1, 1) := by decide +kernel
theorem dX6_joins_109 : decode cX6_joins 109 = .ok (.bipush 47, 2) := by decide +kernel
theorem dX6_joins_111 : decode cX6_joins 111 = .ok (.if_icmp .eq 9, 3) := by decide +kernel
theorem dX6_joins_114 : decode cX6_joins 114 = .ok (.iload_n 1, 1) := by decide +kernel
theorem dX6_joins_115 : decode cX6_joins 115 = .ok (.bipush 37, 2) := by decide +kernel
theorem dX6_joins_117 : decode cX6_joins 117 = .ok (.if_icmp .ne 7, 3) := by decide +kernel
theorem dX6_joins_120 : decode cX6_joins 120 = .ok (.iconst 1, 1) := by decide +kernel
theorem dX6_joins_121 : decode cX6_joins 121 = .ok (.goto 4, 3) := by decide +kernel
theorem dX6_joins_124 : decode cX6_joins 124 = .ok (.iconst 0, 1) := by decide +kernel
theorem dX6_joins_125 : decode cX6_joins 125 = .ok (.ireturn, 1) := by decide +kernel
theorem dX6_joins_126 : decode cX6_joins 126 = .ok (.iconst 0, 1) := by decide +kernel
theorem dX6_joins_127 : decode cX6_joins 127 = .ok (.ireturn, 1) := by decide +kernel
theorem dX6_labelled_0 : decode cX6_labelled 0 = .ok (.aload_n 0, 1) := by decide +kernel
theorem dX6_labelled_1 : decode cX6_labelled 1 = .ok (.getfield 29, 3) := by decide +kernel
theorem dX6_labelled_4 : decode cX6_labelled 4 = .ok (.getfield 47, 3) := by decide +kernel
theorem dX6_labelled_7 : decode cX6_labelled 7 = .ok (.iload_n 1, 1) := by decide +kernel
theorem dX6_labelled_8 : decode cX6_labelled 8 = .ok (.if_icmp .eq 10, 3) := by decide +kernel
theorem dX6_labelled_11 : decode cX6_labelled 11 = .ok (.aload_n 0, 1) := by decide +kernel
theorem dX6_labelled_12 : decode cX6_labelled 12 = .ok (.invokevirtual 74, 3) := by decide +kernel
theorem dX6_labelled_15 : decode cX6_labelled 15 = .ok (.pop, 1) := by decide +kernel
theorem dX6_labelled_16 : decode cX6_labelled 16 = .ok (.iconst (-1), 1) := by decide +kernel
theorem dX6_labelled_17 : decode cX6_labelled 17 = .ok (.ireturn, 1) := by decide +kernel
theorem dX6_labelled_18 : decode cX6_labelled 18 = .ok (.aload_n 0, 1) := by decide +kernel
theorem dX6_labelled_19 : decode cX6_labelled 19 = .ok (.getfield 29, 3) := by decide +kernel
theorem dX6_labelled_22 : decode cX6_labelled 22 = .ok (.invokevirtual 86, 3) := by decide +kernel
theorem dX6_labelled_25 : decode cX6_labelled 25 = .ok (.aload_n 0, 1) := by decide +kernel
theorem dX6_labelled_26 : decode cX6_labelled 26 = .ok (.iload_n 2, 1) := by decide +kernel
theorem dX6_labelled_27 : decode cX6_labelled 27 = .ok (.invokevirtual 114, 3) := by decide +kernel
theorem dX6_labelled_30 : decode cX6_labelled 30 = .ok (.ireturn, 1) := by decide +kernel
theorem dX6_line_0 : decode cX6_line 0 = .ok (.aload_n 0, 1) := by decide +kernel
theorem dX6_line_1 : decode cX6_line 1 = .ok (.getfield 29, 3) := by decide +kernel
theorem dX6_line_4 : decode cX6_line 4 = .ok (.getfield 47, 3) := by decide +kernel
theorem dX6_line_7 : decode cX6_line 7 = .ok (.tableswitch 183 101 108 #[45, 65, 85, 116, 116, 139, 161, 116], 45) := by decide +kernel
theorem dX6_line_52 : decode cX6_line 52 = .ok (.aload_n 0, 1) := by decide +kernel
theorem dX6_line_53 : decode cX6_line 53 = .ok (.invokevirtual 54, 3) := by decide +kernel
theorem dX6_line_56 : decode cX6_line 56 = .ok (.ifCond .eq 14, 3) := by decide +kernel
theorem dX6_line_59 : decode cX6_line 59 = .ok (.aload_n 0, 1) := by decide +kernel
theorem dX6_line_60 : decode cX6_line 60 = .ok (.invokevirtual 57, 3) := by decide +kernel
theorem dX6_line_63 : decode cX6_line 63 = .ok (.ifCond .eq 7, 3) := by decide +kernel
theorem dX6_line_66 : decode cX6_line 66 = .ok (.iconst 1, 1) := by decide +kernel
theorem dX6_line_67 : decode cX6_line 67 = .ok (.goto 4, 3) := by decide +kernel
theorem dX6_line_70 : decode cX6_line 70 = .ok (.iconst 0, 1) := by decide +kernel
theorem dX6_line_71 : decode cX6_line 71 = .ok (.ireturn, 1) := by decide +kernel
theorem dX6_line_72 : decode cX6_line 72 = .ok (.aload_n 0, 1) := by decide +kernel
theorem dX6_line_73 : decode cX6_line 73 = .ok (.invokevirtual 60, 3) := by decide +kernel
theorem dX6_line_76 : decode cX6_line 76 = .ok (.ifCond .eq 14, 3) := by decide +kernel
theorem dX6_line_79 : decode cX6_line 79 = .ok (.aload_n 0, 1) := by decide +kernel
theorem dX6_line_80 : decode cX6_line 80 = .ok (.invokevirtual 57, 3) := by decide +kernel
theorem dX6_line_83 : decode cX6_line 83 = .ok (.ifCond .eq 7, 3) := by decide +kernel
theorem dX6_line_86 : decode cX6_line 86 = .ok (.iconst 1, 1) := by decide +kernel
theorem dX6_line_87 : decode cX6_line 87 = .ok (.goto 4, 3) := by decide +kernel
theorem dX6_line_90 : decode cX6_line 90 = .ok (.iconst 0, 1) := by decide +kernel
theorem dX6_line_91 : decode cX6_line 91 = .ok (.ireturn, 1) := by decide +kernel
theorem dX6_line_92 : decode cX6_line 92 = .ok (.aload_n 0, 1) := by decide +kernel
theorem dX6_line_93 : decode cX6_line 93 = .ok (.bipush 103, 2) := by decide +kernel
theorem dX6_line_95 : decode cX6_line 95 = .ok (.invokevirtual 63, 3) := by decide +kernel
theorem dX6_line_98 : decode cX6_line 98 = .ok (.ifCond .eq 23, 3) := by decide +kernel
theorem dX6_line_101 : decode cX6_line 101 = .ok (.aload_n 0, 1) := by decide +kernel
theorem dX6_line_102 : decode cX6_line 102 = .ok (.iconst 0, 1) := by decide +kernel
theorem dX6_line_103 : decode cX6_line 103 = .ok (.iconst 0, 1) := by decide +kernel
theorem dX6_line_104 : decode cX6_line 104 = .ok (.invokevirtual 67, 3) := by decide +kernel
theorem dX6_line_107 : decode cX6_line 107 = .ok (.ifCond .eq 14, 3) := by decide +kernel
theorem dX6_line_110 : decode cX6_line 110 = .ok (.aload_n 0, 1) := by decide +kernel
theorem dX6_line_111 : decode cX6_line 111 = .ok (.invokevirtual 57, 3) := by decide +kernel
theorem dX6_line_114 : decode cX6_line 114 = .ok (.ifCond .eq 7, 3) := by decide +kernel
theorem dX6_line_117 : decode cX6_line 117 = .ok (.iconst 1, 1) := by decide +kernel
theorem dX6_line_118 : decode cX6_line 118 = .ok (.goto 4, 3) := by decide +kernel
theorem dX6_line_121 : decode cX6_line 121 = .ok (.iconst 0, 1) := by decide +kernel
theorem dX6_line_122 : decode cX6_line 122 = .ok (.ireturn, 1) := by decide +kernel
theorem dX6_line_123 : decode cX6_line 123 = .ok (.aload_n 0, 1) := by decide +kernel
theorem dX6_line_124 : decode cX6_line 124 = .ok (.sipush 999, 3) := by decide +kernel
theorem dX6_line_127 : decode cX6_line 127 = .ok (.invokevirtual 71, 3) := by decide +kernel
theorem dX6_line_130 : decode cX6_line 130 = .ok (.ifCond .eq 14, 3) := by decide +kernel
theorem dX6_line_133 : decode cX6_line 133 = .ok (.aload_n 0, 1) := by decide +kernel
theorem dX6_line_134 : decode cX6_line 134 = .ok (.invokevirtual 57, 3) := by decide +kernel
theorem dX6_line_137 : decode cX6_line 137 = .ok (.ifCond .eq 7, 3) := by decide +kernel
theorem dX6_line_140 : decode cX6_line 140 = .ok (.iconst 1, 1) := by decide +kernel
theorem dX6_line_141 : decode cX6_line 141 = .ok (.goto 4, 3) := by decide +kernel
theorem dX6_line_144 : decode cX6_line 144 = .ok (.iconst 0, 1) := by decide +kernel
theorem dX6_line_145 : decode cX6_line 145 = .ok (.ireturn, 1) := by decide +kernel
theorem dX6_line_146 : decode cX6_line 146 = .ok (.aload_n 0, 1) := by decide +kernel
theorem dX6_line_147 : decode cX6_line 147 = .ok (.bipush 99, 2) := by decide +kernel
theorem dX6_line_149 : decode cX6_line 149 = .ok (.invokevirtual 71, 3) := by decide +kernel
theorem dX6_line_152 : decode cX6_line 152 = .ok (.ifCond .eq 14, 3) := by decide +kernel
theorem dX6_line_155 : decode cX6_line 155 = .ok (.aload_n 0, 1) := by decide +kernel
theorem dX6_line_156 : decode cX6_line 156 = .ok (.invokevirtual 57, 3) := by decide +kernel
theorem dX6_line_159 : decode cX6_line 159 = .ok (.ifCond .eq 7, 3) := by decide +kernel
theorem dX6_line_162 : decode cX6_line 162 = .ok (.iconst 1, 1) := by decide +kernel
theorem dX6_line_163 : decode cX6_line 163 = .ok (.goto 4, 3) := by decide +kernel
theorem dX6_line_166 : decode cX6_line 166 = .ok (.iconst 0, 1) := by decide +kernel
theorem dX6_line_167 : decode cX6_line 167 = .ok (.ireturn, 1) := by decide +kernel
theorem dX6_line_168 : decode cX6_line 168 = .ok (.aload_n 0, 1) := by decide +kernel
theorem dX6_line_169 : decode cX6_line 169 = .ok (.bipush 100, 2) := by decide +kernel
theorem dX6_line_171 : decode cX6_line 171 = .ok (.invokevirtual 71, 3) := by decide +kernel
theorem dX6_line_174 : decode cX6_line 174 = .ok (.ifCond .eq 14, 3) := by decide +kernel
theorem dX6_line_177 : decode cX6_line 177 = .ok (.aload_n 0, 1) := by decide +kernel
theorem dX6_line_178 : decode cX6_line 178 = .ok (.invokevirtual 57, 3) := by decide +kernel
theorem dX6_line_181 : decode cX6_line 181 = .ok (.ifCond .eq 7, 3) := by decide +kernel
theorem dX6_line_184 : decode cX6_line 184 = .ok (.iconst 1, 1) := by decide +kernel
theorem dX6_line_185 : decode cX6_line 185 = .ok (.goto 4, 3) := by decide +kernel
theorem dX6_line_188 : decode cX6_line 188 = .ok (.iconst 0, 1) := by decide +kernel
theorem dX6_line_189 : decode cX6_line 189 = .ok (.ireturn, 1) := by decide +kernel
theorem dX6_line_190 : decode cX6_line 190 = .ok (.aload_n 0, 1) := by decide +kernel
theorem dX6_line_191 : decode cX6_line 191 = .ok (.invokevirtual 74, 3) := by decide +kernel
theorem dX6_line_194 : decode cX6_line 194 = .ok (.ireturn, 1) := by decide +kernel
theorem dX6_manLine_0 : decode cX6_manLine 0 = .ok (.aload_n 0, 1) := by decide +kernel
theorem dX6_manLine_1 : decode cX6_manLine 1 = .ok (.getfield 12, 3) := by decide +kernel
theorem dX6_manLine_4 : decode cX6_manLine 4 = .ok (.getfield 89, 3) := by decide +kernel
theorem dX6_manLine_7 : decode cX6_manLine 7 = .ok (.bipush 6, 2) := by decide +kernel
theorem dX6_manLine_9 : decode cX6_manLine 9 = .ok (.if_icmp .lt 8, 3) := by decide +kernel
theorem dX6_manLine_12 : decode cX6_manLine 12 = .ok (.aload_n 0, 1) := by decide +kernel
theorem dX6_manLine_13 : decode cX6_manLine 13 = .ok (.invokevirtual 74, 3) := by decide +kernel
theorem dX6_manLine_16 : decode cX6_manLine 16 = .ok (.ireturn, 1) := by decide +kernel
theorem dX6_manLine_17 : decode cX6_manLine 17 = .ok (.aload_n 0, 1) := by decide +kernel
theorem dX6_manLine_18 : decode cX6_manLine 18 = .ok (.getfield 29, 3) := by decide +kernel
theorem dX6_manLine_21 : decode cX6_manLine 21 = .ok (.invokevirtual 86, 3) := by decide +kernel
theorem dX6_manLine_24 : decode cX6_manLine 24 = .ok (.aload_n 0, 1) := by decide +kernel
theorem dX6_manLine_25 : decode cX6_manLine 25 = .ok (.aload_n 0, 1) := by decide +kernel
theorem dX6_manLine_26 : decode cX6_manLine 26 = .ok (.getfield 18, 3) := by decide +kernel
theorem dX6_manLine_29 : decode cX6_manLine 29 = .ok (.aload_n 0, 1) := by decide +kernel
theorem dX6_manLine_30 : decode cX6_manLine 30 = .ok (.getfield 12, 3) := by decide +kernel
theorem dX6_manLine_33 : decode cX6_manLine 33 = .ok (.getfield 89, 3) := by decide +kernel
theorem dX6_manLine_36 : decode cX6_manLine 36 = .ok (.invokevirtual 92, 3) := by decide +kernel
theorem dX6_manLine_39 : decode cX6_manLine 39 = .ok (.ifCond .ne 5, 3) := by decide +kernel
theorem dX6_manLine_42 : decode cX6_manLine 42 = .ok (.iconst 0, 1) := by decide +kernel
theorem dX6_manLine_43 : decode cX6_manLine 43 = .ok (.ireturn, 1) := by decide +kernel
theorem dX6_manLine_44 : decode cX6_manLine 44 = .ok (.aload_n 0, 1) := by decide +kernel
theorem dX6_manLine_45 : decode cX6_manLine 45 = .ok (.bipush 109, 2) := by decide +kernel
theorem dX6_manLine_47 : decode cX6_manLine 47 = .ok (.bipush 99, 2) := by decide +kernel
theorem dX6_manLine_49 : decode cX6_manLine 49 = .ok (.invokevirtual 96, 3) := by decide +kernel
theorem dX6_manLine_52 : decode cX6_manLine 52 = .ok (.istore_n 1, 1) := by decide +kernel
theorem dX6_manLine_53 : decode cX6_manLine 53 = .ok (.iload_n 1, 1) := by decide +kernel
theorem dX6_manLine_54 : decode cX6_manLine 54 = .ok (.ifCond .ge 7, 3) := by decide +kernel
theorem dX6_manLine_57 : decode cX6_manLine 57 = .ok (.iconst (-1), 1) := by decide +kernel
theorem dX6_manLine_58 : decode cX6_manLine 58 = .ok (.goto 11, 3) := by decide +kernel
theorem dX6_manLine_61 : decode cX6_manLine 61 = .ok (.aload_n 0, 1) := by decide +kernel
theorem dX6_manLine_62 : decode cX6_manLine 62 = .ok (.bipush 110, 2) := by decide +kernel
theorem dX6_manLine_64 : decode cX6_manLine 64 = .ok (.bipush 99, 2) := by decide +kernel
theorem dX6_manLine_66 : decode cX6_manLine 66 = .ok (.invokevirtual 96, 3) := by decide +kernel
theorem dX6_manLine_69 : decode cX6_manLine 69 = .ok (.istore_n 2, 1) := by decide +kernel
theorem dX6_manLine_70 : decode cX6_manLine 70 = .ok (.iload_n 2, 1) := by decide +kernel
theorem dX6_manLine_71 : decode cX6_manLine 71 = .ok (.ifCond .ge 7, 3) := by decide +kernel
theorem dX6_manLine_74 : decode cX6_manLine 74 = .ok (.iconst (-1), 1) := by decide +kernel
theorem dX6_manLine_75 : decode cX6_manLine 75 = .ok (.goto 27, 3) := by decide +kernel
theorem dX6_manLine_78 : decode cX6_manLine 78 = .ok (.aload_n 0, 1) := by decide +kernel
theorem dX6_manLine_79 : decode cX6_manLine 79 = .ok (.getfield 29, 3) := by decide +kernel
theorem dX6_manLine_82 : decode cX6_manLine 82 = .ok (.getfield 47, 3) := by decide +kernel
theorem dX6_manLine_85 : decode cX6_manLine 85 = .ok (.bipush 111, 2) := by decide +kernel
theorem dX6_manLine_87 : decode cX6_manLine 87 = .ok (.if_icmp .ne 14, 3) := by decide +kernel
theorem dX6_manLine_90 : decode cX6_manLine 90 = .ok (.aload_n 0, 1) := by decide +kernel
theorem dX6_manLine_91 : decode cX6_manLine 91 = .ok (.bipush 111, 2) := by decide +kernel
theorem dX6_manLine_93 : decode cX6_manLine 93 = .ok (.bipush 9, 2) := by decide +kernel
theorem dX6_manLine_95 : decode cX6_manLine 95 = .ok (.invokevirtual 96, 3) := by decide +kernel
theorem dX6_manLine_98 : decode cX6_manLine 98 = .ok (.goto 4, 3) := by decide +kernel
theorem dX6_manLine_101 : decode cX6_manLine 101 = .ok (.iconst 0, 1) := by decide +kernel
theorem dX6_manLine_102 : decode cX6_manLine 102 = .ok (.istore_n 3, 1) := by decide +kernel
theorem dX6_manLine_103 : decode cX6_manLine 103 = .ok (.iload_n 3, 1) := by decide +kernel
theorem dX6_manLine_104 : decode cX6_manLine 104 = .ok (.ifCond .ge 5, 3) := by decide +kernel
theorem dX6_manLine_107 : decode cX6_manLine 107 = .ok (.iconst 0, 1) := by decide +kernel
theorem dX6_manLine_108 : decode cX6_manLine 108 = .ok (.ireturn, 1) := by decide +kernel
theorem dX6_manLine_109 : decode cX6_manLine 109 = .ok (.aload_n 0, 1) := by decide +kernel
theorem dX6_manLine_110 : decode cX6_manLine 110 = .ok (.getfield 12, 3) := by decide +kernel
theorem dX6_manLine_113 : decode cX6_manLine 113 = .ok (.iload_n 1, 1) := by decide +kernel
theorem dX6_manLine_114 : decode cX6_manLine 114 = .ok (.iload_n 2, 1) := by decide +kernel
theorem dX6_manLine_115 : decode cX6_manLine 115 = .ok (.iload_n 3, 1) := by decide +kernel
theorem dX6_manLine_116 : decode cX6_manLine 116 = .ok (.invokevirtual 100, 3) := by decide +kernel
theorem dX6_manLine_119 : decode cX6_manLine 119 = .ok (.iconst 1, 1) := by decide +kernel
theorem dX6_manLine_120 : decode cX6_manLine 120 = .ok (.ireturn, 1) := by decide +kernel
theorem dX6_name_0 : decode cX6_name 0 = .ok (.aload_n 0, 1) := by decide +kernel
theorem dX6_name_1 : decode cX6_name 1 = .ok (.getfield 29, 3) := by decide +kernel
theorem dX6_name_4 : decode cX6_name 4 = .ok (.getfield 47, 3) := by decide +kernel
theorem dX6_name_7 : decode cX6_name 7 = .ok (.iconst 3, 1) := by decide +kernel
theorem dX6_name_8 : decode cX6_name 8 = .ok (.if_icmp .eq 8, 3) := by decide +kernel
theorem dX6_name_11 : decode cX6_name 11 = .ok (.aload_n 0, 1) := by decide +kernel
theorem dX6_name_12 : decode cX6_name 12 = .ok (.invokevirtual 74, 3) := by decide +kernel
theorem dX6_name_15 : decode cX6_name 15 = .ok (.ireturn, 1) := by decide +kernel
theorem dX6_name_16 : decode cX6_name 16 = .ok (.iconst 0, 1) := by decide +kernel
theorem dX6_name_17 : decode cX6_name 17 = .ok (.istore_n 3, 1) := by decide +kernel
theorem dX6_name_18 : decode cX6_name 18 = .ok (.iload_n 3, 1) := by decide +kernel
theorem dX6_name_19 : decode cX6_name 19 = .ok (.iload_n 2, 1) := by decide +kernel
theorem dX6_name_20 : decode cX6_name 20 = .ok (.if_icmp .ge 41, 3) := by decide +kernel
theorem dX6_name_23 : decode cX6_name 23 = .ok (.iload_n 3, 1) := by decide +kernel
theorem dX6_name_24 : decode cX6_name 24 = .ok (.aload_n 1, 1) := by decide +kernel
theorem dX6_name_25 : decode cX6_name 25 = .ok (.arraylength, 1) := by decide +kernel
theorem dX6_name_26 : decode cX6_name 26 = .ok (.if_icmp .ge 35, 3) := by decide +kernel
theorem dX6_name_29 : decode cX6_name 29 = .ok (.aload_n 0, 1) := by decide +kernel
theorem dX6_name_30 : decode cX6_name 30 = .ok (.getfield 29, 3) := by decide +kernel
theorem dX6_name_33 : decode cX6_name 33 = .ok (.aload_n 1, 1) := by decide +kernel
theorem dX6_name_34 : decode cX6_name 34 = .ok (.iload_n 3, 1) := by decide +kernel
theorem dX6_name_35 : decode cX6_name 35 = .ok (.iaload, 1) := by decide +kernel
theorem dX6_name_36 : decode cX6_name 36 = .ok (.aload_n 0, 1) := by decide +kernel
theorem dX6_name_37 : decode cX6_name 37 = .ok (.getfield 29, 3) := by decide +kernel
theorem dX6_name_40 : decode cX6_name 40 = .ok (.getfield 80, 3) := by decide +kernel
theorem dX6_name_43 : decode cX6_name 43 = .ok (.invokevirtual 111, 3) := by decide +kernel
theorem dX6_name_46 : decode cX6_name 46 = .ok (.ifCond .eq 9, 3) := by decide +kernel
theorem dX6_name_49 : decode cX6_name 49 = .ok (.aload_n 0, 1) := by decide +kernel
theorem dX6_name_50 : decode cX6_name 50 = .ok (.iconst 3, 1) := by decide +kernel
theorem dX6_name_51 : decode cX6_name 51 = .ok (.invokevirtual 77, 3) := by decide +kernel
theorem dX6_name_54 : decode cX6_name 54 = .ok (.ireturn, 1) := by decide +kernel
theorem dX6_name_55 : decode cX6_name 55 = .ok (.iinc 3 1, 3) := by decide +kernel
theorem dX6_name_58 : decode cX6_name 58 = .ok (.goto (-40), 3) := by decide +kernel
theorem dX6_name_61 : decode cX6_name 61 = .ok (.iload_n 2, 1) := by decide +kernel
theorem dX6_name_62 : decode cX6_name 62 = .ok (.ifCond .lt 19, 3) := by decide +kernel
theorem dX6_name_65 : decode cX6_name 65 = .ok (.iload_n 2, 1) := by decide +kernel
theorem dX6_name_66 : decode cX6_name 66 = .ok (.aload_n 1, 1) := by decide +kernel
theorem dX6_name_67 : decode cX6_name 67 = .ok (.arraylength, 1) := by decide +kernel
theorem dX6_name_68 : decode cX6_name 68 = .ok (.if_icmp .ge 13, 3) := by decide +kernel
theorem dX6_name_71 : decode cX6_name 71 = .ok (.aload_n 1, 1) := by decide +kernel
theorem dX6_name_72 : decode cX6_name 72 = .ok (.iload_n 2, 1) := by decide +kernel
theorem dX6_name_73 : decode cX6_name 73 = .ok (.aload_n 0, 1) := by decide +kernel
theorem dX6_name_74 : decode cX6_name 74 = .ok (.getfield 29, 3) := by decide +kernel
theorem dX6_name_77 : decode cX6_name 77 = .ok (.getfield 80, 3) := by decide +kernel
theorem dX6_name_80 : decode cX6_name 80 = .ok (.iastore, 1) := by decide +kernel
theorem dX6_name_81 : decode cX6_name 81 = .ok (.aload_n 0, 1) := by decide +kernel
theorem dX6_name_82 : decode cX6_name 82 = .ok (.getfield 29, 3) := by decide +kernel
theorem dX6_name_85 : decode cX6_name 85 = .ok (.invokevirtual 86, 3) := by decide +kernel
theorem dX6_name_88 : decode cX6_name 88 = .ok (.iconst 1, 1) := by decide +kernel
theorem dX6_name_89 : decode cX6_name 89 = .ok (.ireturn, 1) := by decide +kernel
theorem dX6_negation_0 : decode cX6_negation 0 = .ok (.iload_n 1, 1) := by decide +kernel
theorem dX6_negation_1 : decode cX6_negation 1 = .ok (.bipush 7, 2) := by decide +kernel
theorem dX6_negation_3 : decode cX6_negation 3 = .ok (.if_icmp .lt 8, 3) := by decide +kernel
theorem dX6_negation_6 : decode cX6_negation 6 = .ok (.aload_n 0, 1) := by decide +kernel
theorem dX6_negation_7 : decode cX6_negation 7 = .ok (.invokevirtual 74, 3) := by decide +kernel
theorem dX6_negation_10 : decode cX6_negation 10 = .ok (.ireturn, 1) := by decide +kernel
theorem dX6_negation_11 : decode cX6_negation 11 = .ok (.aload_n 0, 1) := by decide +kernel
theorem dX6_negation_12 : decode cX6_negation 12 = .ok (.getfield 29, 3) := by decide +kernel
theorem dX6_negation_15 : decode cX6_negation 15 = .ok (.invokevirtual 86, 3) := by decide +kernel
theorem dX6_negation_18 : decode cX6_negation 18 = .ok (.aload_n 0, 1) := by decide +kernel
theorem dX6_negation_19 : decode cX6_negation 19 = .ok (.iconst 2, 1) := by decide +kernel
theorem dX6_negation_20 : decode cX6_negation 20 = .ok (.iload_n 1, 1) := by decide +kernel
theorem dX6_negation_21 : decode cX6_negation 21 = .ok (.iconst 1, 1) := by decide +kernel
theorem dX6_negation_22 : decode cX6_negation 22 = .ok (.iadd, 1) := by decide +kernel
theorem dX6_negation_23 : decode cX6_negation 23 = .ok (.invokevirtual 67, 3) := by decide +kernel
theorem dX6_negation_26 : decode cX6_negation 26 = .ok (.ifCond .ne 5, 3) := by decide +kernel
theorem dX6_negation_29 : decode cX6_negation 29 = .ok (.iconst 0, 1) := by decide +kernel
theorem dX6_negation_30 : decode cX6_negation 30 = .ok (.ireturn, 1) := by decide +kernel
theorem dX6_negation_31 : decode cX6_negation 31 = .ok (.aload_n 0, 1) := by decide +kernel
theorem dX6_negation_32 : decode cX6_negation 32 = .ok (.getfield 12, 3) := by decide +kernel
theorem dX6_negation_35 : decode cX6_negation 35 = .ok (.getfield 134, 3) := by decide +kernel
theorem dX6_negation_38 : decode cX6_negation 38 = .ok (.bipush 115, 2) := by decide +kernel
theorem dX6_negation_40 : decode cX6_negation 40 = .ok (.iconst 0, 1) := by decide +kernel
theorem dX6_negation_41 : decode cX6_negation 41 = .ok (.invokevirtual 138, 3) := by decide +kernel
theorem dX6_negation_44 : decode cX6_negation 44 = .ok (.iconst 1, 1) := by decide +kernel
theorem dX6_negation_45 : decode cX6_negation 45 = .ok (.ireturn, 1) := by decide +kernel
theorem dX6_numbered_0 : decode cX6_numbered 0 = .ok (.aload_n 0, 1) := by decide +kernel
theorem dX6_numbered_1 : decode cX6_numbered 1 = .ok (.getfield 29, 3) := by decide +kernel
theorem dX6_numbered_4 : decode cX6_numbered 4 = .ok (.getfield 118, 3) := by decide +kernel
theorem dX6_numbered_7 : decode cX6_numbered 7 = .ok (.istore_n 2, 1) := by decide +kernel
theorem dX6_numbered_8 : decode cX6_numbered 8 = .ok (.aload_n 0, 1) := by decide +kernel
theorem dX6_numbered_9 : decode cX6_numbered 9 = .ok (.getfield 29, 3) := by decide +kernel
theorem dX6_numbered_12 : decode cX6_numbered 12 = .ok (.getfield 47, 3) := by decide +kernel
theorem dX6_numbered_15 : decode cX6_numbered 15 = .ok (.iconst 2, 1) := by decide +kernel
theorem dX6_numbered_16 : decode cX6_numbered 16 = .ok (.if_icmp .eq 10, 3) := by decide +kernel
theorem dX6_numbered_19 : decode cX6_numbered 19 = .ok (.aload_n 0, 1) := by decide +kernel
theorem dX6_numbered_20 : decode cX6_numbered 20 = .ok (.invokevirtual 74, 3) := by decide +kernel
theorem dX6_numbered_23 : decode cX6_numbered 23 = .ok (.pop, 1) := by decide +kernel
theorem dX6_numbered_24 : decode cX6_numbered 24 = .ok (.iconst (-1), 1) := by decide +kernel
theorem dX6_numbered_25 : decode cX6_numbered 25 = .ok (.ireturn, 1) := by decide +kernel
theorem dX6_numbered_26 : decode cX6_numbered 26 = .ok (.iload_n 2, 1) := by decide +kernel
theorem dX6_numbered_27 : decode cX6_numbered 27 = .ok (.iload_n 1, 1) := by decide +kernel
theorem dX6_numbered_28 : decode cX6_numbered 28 = .ok (.if_icmp .le 11, 3) := by decide +kernel
theorem dX6_numbered_31 : decode cX6_numbered 31 = .ok (.aload_n 0, 1) := by decide +kernel
theorem dX6_numbered_32 : decode cX6_numbered 32 = .ok (.iconst 4, 1) := by decide +kernel
theorem dX6_numbered_33 : decode cX6_numbered 33 = .ok (.invokevirtual 77, 3) := by decide +kernel
theorem dX6_numbered_36 : decode cX6_numbered 36 = .ok (.pop, 1) := by decide +kernel
theorem dX6_numbered_37 : decode cX6_numbered 37 = .ok (.iconst (-1), 1) := by decide +kernel
theorem dX6_numbered_38 : decode cX6_numbered 38 = .ok (.ireturn, 1) := by decide +kernel
theorem dX6_numbered_39 : decode cX6_numbered 39 = .ok (.aload_n 0, 1) := by decide +kernel
theorem dX6_numbered_40 : decode cX6_numbered 40 = .ok (.getfield 29, 3) := by decide +kernel
theorem dX6_numbered_43 : decode cX6_numbered 43 = .ok (.invokevirtual 86, 3) := by decide +kernel
theorem dX6_numbered_46 : decode cX6_numbered 46 = .ok (.iload_n 2, 1) := by decide +kernel
theorem dX6_numbered_47 : decode cX6_numbered 47 = .ok (.ireturn, 1) := by decide +kernel
theorem dX6_opened_0 : decode cX6_opened 0 = .ok (.iconst 1, 1) := by decide +kernel
theorem dX6_opened_1 : decode cX6_opened 1 = .ok (.iload_n 1, 1) := by decide +kernel
theorem dX6_opened_2 : decode cX6_opened 2 = .ok (.bipush 103, 2) := by decide +kernel
theorem dX6_opened_4 : decode cX6_opened 4 = .ok (.isub, 1) := by decide +kernel
theorem dX6_opened_5 : decode cX6_opened 5 = .ok (.ishl, 1) := by decide +kernel
theorem dX6_opened_6 : decode cX6_opened 6 = .ok (.istore_n 2, 1) := by decide +kernel
theorem dX6_opened_7 : decode cX6_opened 7 = .ok (.aload_n 0, 1) := by decide +kernel
theorem dX6_opened_8 : decode cX6_opened 8 = .ok (.getfield 36, 3) := by decide +kernel
theorem dX6_opened_11 : decode cX6_opened 11 = .ok (.iload_n 2, 1) := by decide +kernel
theorem dX6_opened_12 : decode cX6_opened 12 = .ok (.iand, 1) := by decide +kernel
theorem dX6_opened_13 : decode cX6_opened 13 = .ok (.ifCond .eq 8, 3) := by decide +kernel
theorem dX6_opened_16 : decode cX6_opened 16 = .ok (.aload_n 0, 1) := by decide +kernel
theorem dX6_opened_17 : decode cX6_opened 17 = .ok (.invokevirtual 74, 3) := by decide +kernel
theorem dX6_opened_20 : decode cX6_opened 20 = .ok (.ireturn, 1) := by decide +kernel
theorem dX6_opened_21 : decode cX6_opened 21 = .ok (.aload_n 0, 1) := by decide +kernel
theorem dX6_opened_22 : decode cX6_opened 22 = .ok (.dup, 1) := by decide +kernel
theorem dX6_opened_23 : decode cX6_opened 23 = .ok (.getfield 36, 3) := by decide +kernel
theorem dX6_opened_26 : decode cX6_opened 26 = .ok (.iload_n 2, 1) := by decide +kernel
theorem dX6_opened_27 : decode cX6_opened 27 = .ok (.ior, 1) := by decide +kernel
theorem dX6_opened_28 : decode cX6_opened 28 = .ok (.putfield 36, 3) := by decide +kernel
theorem dX6_opened_31 : decode cX6_opened 31 = .ok (.aload_n 0, 1) := by decide +kernel
theorem dX6_opened_32 : decode cX6_opened 32 = .ok (.getfield 29, 3) := by decide +kernel
theorem dX6_opened_35 : decode cX6_opened 35 = .ok (.invokevirtual 86, 3) := by decide +kernel
theorem dX6_opened_38 : decode cX6_opened 38 = .ok (.iconst 1, 1) := by decide +kernel
theorem dX6_opened_39 : decode cX6_opened 39 = .ok (.ireturn, 1) := by decide +kernel
theorem dX6_read_0 : decode cX6_read 0 = .ok (.aload_n 0, 1) := by decide +kernel
theorem dX6_read_1 : decode cX6_read 1 = .ok (.getfield 12, 3) := by decide +kernel
theorem dX6_read_4 : decode cX6_read 4 = .ok (.invokevirtual 33, 3) := by decide +kernel
theorem dX6_read_7 : decode cX6_read 7 = .ok (.aload_n 0, 1) := by decide +kernel
theorem dX6_read_8 : decode cX6_read 8 = .ok (.iconst 0, 1) := by decide +kernel
theorem dX6_read_9 : decode cX6_read 9 = .ok (.putfield 36, 3) := by decide +kernel
theorem dX6_read_12 : decode cX6_read 12 = .ok (.aload_n 0, 1) := by decide +kernel
theorem dX6_read_13 : decode cX6_read 13 = .ok (.iconst 0, 1) := by decide +kernel
theorem dX6_read_14 : decode cX6_read 14 = .ok (.putfield 39, 3) := by decide +kernel
theorem dX6_read_17 : decode cX6_read 17 = .ok (.aload_n 0, 1) := by decide +kernel
theorem dX6_read_18 : decode cX6_read 18 = .ok (.iconst (-1), 1) := by decide +kernel
theorem dX6_read_19 : decode cX6_read 19 = .ok (.putfield 25, 3) := by decide +kernel
theorem dX6_read_22 : decode cX6_read 22 = .ok (.aload_n 0, 1) := by decide +kernel
theorem dX6_read_23 : decode cX6_read 23 = .ok (.getfield 29, 3) := by decide +kernel
theorem dX6_read_26 : decode cX6_read 26 = .ok (.invokevirtual 42, 3) := by decide +kernel
theorem dX6_read_29 : decode cX6_read 29 = .ok (.iconst 0, 1) := by decide +kernel
theorem dX6_read_30 : decode cX6_read 30 = .ok (.istore_n 1, 1) := by decide +kernel
theorem dX6_read_31 : decode cX6_read 31 = .ok (.iload_n 1, 1) := by decide +kernel
theorem dX6_read_32 : decode cX6_read 32 = .ok (.sipush 1600, 3) := by decide +kernel
theorem dX6_read_35 : decode cX6_read 35 = .ok (.if_icmp .ge 28, 3) := by decide +kernel
theorem dX6_read_38 : decode cX6_read 38 = .ok (.aload_n 0, 1) := by decide +kernel
theorem dX6_read_39 : decode cX6_read 39 = .ok (.getfield 29, 3) := by decide +kernel
theorem dX6_read_42 : decode cX6_read 42 = .ok (.getfield 47, 3) := by decide +kernel
theorem dX6_read_45 : decode cX6_read 45 = .ok (.ifCond .eq 18, 3) := by decide +kernel
theorem dX6_read_48 : decode cX6_read 48 = .ok (.aload_n 0, 1) := by decide +kernel
theorem dX6_read_49 : decode cX6_read 49 = .ok (.invokevirtual 50, 3) := by decide +kernel
theorem dX6_read_52 : decode cX6_read 52 = .ok (.ifCond .ne 5, 3) := by decide +kernel
theorem dX6_read_55 : decode cX6_read 55 = .ok (.iconst 0, 1) := by decide +kernel
theorem dX6_read_56 : decode cX6_read 56 = .ok (.ireturn, 1) := by decide +kernel
theorem dX6_read_57 : decode cX6_read 57 = .ok (.iinc 1 1, 3) := by decide +kernel
theorem dX6_read_60 : decode cX6_read 60 = .ok (.goto (-29), 3) := by decide +kernel
theorem dX6_read_63 : decode cX6_read 63 = .ok (.iconst 1, 1) := by decide +kernel
theorem dX6_read_64 : decode cX6_read 64 = .ok (.ireturn, 1) := by decide +kernel
theorem dX6_refuse_0 : decode cX6_refuse 0 = .ok (.aload_n 0, 1) := by decide +kernel
theorem dX6_refuse_1 : decode cX6_refuse 1 = .ok (.aload_n 0, 1) := by decide +kernel
theorem dX6_refuse_2 : decode cX6_refuse 2 = .ok (.getfield 29, 3) := by decide +kernel
theorem dX6_refuse_5 : decode cX6_refuse 5 = .ok (.getfield 47, 3) := by decide +kernel
theorem dX6_refuse_8 : decode cX6_refuse 8 = .ok (.iconst 1, 1) := by decide +kernel
theorem dX6_refuse_9 : decode cX6_refuse 9 = .ok (.if_icmp .ne 7, 3) := by decide +kernel
theorem dX6_refuse_12 : decode cX6_refuse 12 = .ok (.iconst 1, 1) := by decide +kernel
theorem dX6_refuse_13 : decode cX6_refuse 13 = .ok (.goto 4, 3) := by decide +kernel
theorem dX6_refuse_16 : decode cX6_refuse 16 = .ok (.iconst 2, 1) := by decide +kernel
theorem dX6_refuse_17 : decode cX6_refuse 17 = .ok (.invokevirtual 77, 3) := by decide +kernel
theorem dX6_refuse_20 : decode cX6_refuse 20 = .ok (.ireturn, 1) := by decide +kernel
theorem dX6_refuseAs_0 : decode cX6_refuseAs 0 = .ok (.aload_n 0, 1) := by decide +kernel
theorem dX6_refuseAs_1 : decode cX6_refuseAs 1 = .ok (.iload_n 1, 1) := by decide +kernel
theorem dX6_refuseAs_2 : decode cX6_refuseAs 2 = .ok (.putfield 39, 3) := by decide +kernel
theorem dX6_refuseAs_5 : decode cX6_refuseAs 5 = .ok (.aload_n 0, 1) := by decide +kernel
theorem dX6_refuseAs_6 : decode cX6_refuseAs 6 = .ok (.aload_n 0, 1) := by decide +kernel
theorem dX6_refuseAs_7 : decode cX6_refuseAs 7 = .ok (.getfield 29, 3) := by decide +kernel
theorem dX6_refuseAs_10 : decode cX6_refuseAs 10 = .ok (.getfield 80, 3) := by decide +kernel
theorem dX6_refuseAs_13 : decode cX6_refuseAs 13 = .ok (.putfield 25, 3) := by decide +kernel
theorem dX6_refuseAs_16 : decode cX6_refuseAs 16 = .ok (.iconst 0, 1) := by decide +kernel
theorem dX6_refuseAs_17 : decode cX6_refuseAs 17 = .ok (.ireturn, 1) := by decide +kernel
theorem dX6_settingLine_0 : decode cX6_settingLine 0 = .ok (.aload_n 0, 1) := by decide +kernel
theorem dX6_settingLine_1 : decode cX6_settingLine 1 = .ok (.getfield 29, 3) := by decide +kernel
theorem dX6_settingLine_4 : decode cX6_settingLine 4 = .ok (.getfield 47, 3) := by decide +kernel
theorem dX6_settingLine_7 : decode cX6_settingLine 7 = .ok (.istore_n 2, 1) := by decide +kernel
theorem dX6_settingLine_8 : decode cX6_settingLine 8 = .ok (.aload_n 0, 1) := by decide +kernel
theorem dX6_settingLine_9 : decode cX6_settingLine 9 = .ok (.iload_n 2, 1) := by decide +kernel
theorem dX6_settingLine_10 : decode cX6_settingLine 10 = .ok (.invokevirtual 63, 3) := by decide +kernel
theorem dX6_settingLine_13 : decode cX6_settingLine 13 = .ok (.ifCond .eq 11, 3) := by decide +kernel
theorem dX6_settingLine_16 : decode cX6_settingLine 16 = .ok (.aload_n 0, 1) := by decide +kernel
theorem dX6_settingLine_17 : decode cX6_settingLine 17 = .ok (.iload_n 1, 1) := by decide +kernel
theorem dX6_settingLine_18 : decode cX6_settingLine 18 = .ok (.invokevirtual 114, 3) := by decide +kernel
theorem dX6_settingLine_21 : decode cX6_settingLine 21 = .ok (.goto 4, 3) := by decide +kernel
theorem dX6_settingLine_24 : decode cX6_settingLine 24 = .ok (.iconst (-1), 1) := by decide +kernel
theorem dX6_settingLine_25 : decode cX6_settingLine 25 = .ok (.istore_n 3, 1) := by decide +kernel
theorem dX6_settingLine_26 : decode cX6_settingLine 26 = .ok (.iload_n 3, 1) := by decide +kernel
theorem dX6_settingLine_27 : decode cX6_settingLine 27 = .ok (.ifCond .ge 5, 3) := by decide +kernel
theorem dX6_settingLine_30 : decode cX6_settingLine 30 = .ok (.iconst 0, 1) := by decide +kernel
theorem dX6_settingLine_31 : decode cX6_settingLine 31 = .ok (.ireturn, 1) := by decide +kernel
theorem dX6_settingLine_32 : decode cX6_settingLine 32 = .ok (.aload_n 0, 1) := by decide +kernel
theorem dX6_settingLine_33 : decode cX6_settingLine 33 = .ok (.getfield 12, 3) := by decide +kernel
theorem dX6_settingLine_36 : decode cX6_settingLine 36 = .ok (.iload_n 2, 1) := by decide +kernel
theorem dX6_settingLine_37 : decode cX6_settingLine 37 = .ok (.iload_n 3, 1) := by decide +kernel
theorem dX6_settingLine_38 : decode cX6_settingLine 38 = .ok (.invokevirtual 121, 3) := by decide +kernel
theorem dX6_settingLine_41 : decode cX6_settingLine 41 = .ok (.iconst 1, 1) := by decide +kernel
theorem dX6_settingLine_42 : decode cX6_settingLine 42 = .ok (.ireturn, 1) := by decide +kernel
theorem dX6_taken_0 : decode cX6_taken 0 = .ok (.aload_n 0, 1) := by decide +kernel
theorem dX6_taken_1 : decode cX6_taken 1 = .ok (.getfield 29, 3) := by decide +kernel
theorem dX6_taken_4 : decode cX6_taken 4 = .ok (.getfield 47, 3) := by decide +kernel
theorem dX6_taken_7 : decode cX6_taken 7 = .ok (.iload_n 1, 1) := by decide +kernel
theorem dX6_taken_8 : decode cX6_taken 8 = .ok (.if_icmp .eq 8, 3) := by decide +kernel
theorem dX6_taken_11 : decode cX6_taken 11 = .ok (.aload_n 0, 1) := by decide +kernel
theorem dX6_taken_12 : decode cX6_taken 12 = .ok (.invokevirtual 74, 3) := by decide +kernel
theorem dX6_taken_15 : decode cX6_taken 15 = .ok (.ireturn, 1) := by decide +kernel
theorem dX6_taken_16 : decode cX6_taken 16 = .ok (.aload_n 0, 1) := by decide +kernel
theorem dX6_taken_17 : decode cX6_taken 17 = .ok (.getfield 29, 3) := by decide +kernel
theorem dX6_taken_20 : decode cX6_taken 20 = .ok (.invokevirtual 86, 3) := by decide +kernel
theorem dX6_taken_23 : decode cX6_taken 23 = .ok (.iconst 1, 1) := by decide +kernel
theorem dX6_taken_24 : decode cX6_taken 24 = .ok (.ireturn, 1) := by decide +kernel
theorem dX6_unit_0 : decode cX6_unit 0 = .ok (.aload_n 0, 1) := by decide +kernel
theorem dX6_unit_1 : decode cX6_unit 1 = .ok (.getfield 29, 3) := by decide +kernel
theorem dX6_unit_4 : decode cX6_unit 4 = .ok (.getfield 47, 3) := by decide +kernel
theorem dX6_unit_7 : decode cX6_unit 7 = .ok (.istore_n 2, 1) := by decide +kernel
theorem dX6_unit_8 : decode cX6_unit 8 = .ok (.iload_n 2, 1) := by decide +kernel
theorem dX6_unit_9 : decode cX6_unit 9 = .ok (.iconst 2, 1) := by decide +kernel
theorem dX6_unit_10 : decode cX6_unit 10 = .ok (.if_icmp .eq 15, 3) := by decide +kernel
theorem dX6_unit_13 : decode cX6_unit 13 = .ok (.iload_n 2, 1) := by decide +kernel
theorem dX6_unit_14 : decode cX6_unit 14 = .ok (.bipush 116, 2) := by decide +kernel
theorem dX6_unit_16 : decode cX6_unit 16 = .ok (.if_icmp .lt 13, 3) := by decide +kernel
theorem dX6_unit_19 : decode cX6_unit 19 = .ok (.iload_n 2, 1) := by decide +kernel
theorem dX6_unit_20 : decode cX6_unit 20 = .ok (.bipush 121, 2) := by decide +kernel
theorem dX6_unit_22 : decode cX6_unit 22 = .ok (.if_icmp .gt 7, 3) := by decide +kernel
theorem dX6_unit_25 : decode cX6_unit 25 = .ok (.iconst 1, 1) := by decide +kernel
theorem dX6_unit_26 : decode cX6_unit 26 = .ok (.goto 4, 3) := by decide +kernel
theorem dX6_unit_29 : decode cX6_unit 29 = .ok (.iconst 0, 1) := by decide +kernel
theorem dX6_unit_30 : decode cX6_unit 30 = .ok (.istore_n 3, 1) := by decide +kernel
theorem dX6_unit_31 : decode cX6_unit 31 = .ok (.iload_n 3, 1) := by decide +kernel
theorem dX6_unit_32 : decode cX6_unit 32 = .ok (.ifCond .ne 9, 3) := by decide +kernel
theorem dX6_unit_35 : decode cX6_unit 35 = .ok (.iload_n 2, 1) := by decide +kernel
theorem dX6_unit_36 : decode cX6_unit 36 = .ok (.bipush 40, 2) := by decide +kernel
theorem dX6_unit_38 : decode cX6_unit 38 = .ok (.if_icmp .ne 18, 3) := by decide +kernel
theorem dX6_unit_41 : decode cX6_unit 41 = .ok (.aload_n 0, 1) := by decide +kernel
theorem dX6_unit_42 : decode cX6_unit 42 = .ok (.getfield 12, 3) := by decide +kernel
theorem dX6_unit_45 : decode cX6_unit 45 = .ok (.getfield 134, 3) := by decide +kernel
theorem dX6_unit_48 : decode cX6_unit 48 = .ok (.getfield 143, 3) := by decide +kernel
theorem dX6_unit_51 : decode cX6_unit 51 = .ok (.bipush 30, 2) := by decide +kernel
theorem dX6_unit_53 : decode cX6_unit 53 = .ok (.if_icmp .lt 8, 3) := by decide +kernel
theorem dX6_unit_56 : decode cX6_unit 56 = .ok (.aload_n 0, 1) := by decide +kernel
theorem dX6_unit_57 : decode cX6_unit 57 = .ok (.invokevirtual 74, 3) := by decide +kernel
theorem dX6_unit_60 : decode cX6_unit 60 = .ok (.ireturn, 1) := by decide +kernel
theorem dX6_unit_61 : decode cX6_unit 61 = .ok (.iload_n 3, 1) := by decide +kernel
theorem dX6_unit_62 : decode cX6_unit 62 = .ok (.ifCond .eq 46, 3) := by decide +kernel
theorem dX6_unit_65 : decode cX6_unit 65 = .ok (.aload_n 0, 1) := by decide +kernel
theorem dX6_unit_66 : decode cX6_unit 66 = .ok (.getfield 12, 3) := by decide +kernel
theorem dX6_unit_69 : decode cX6_unit 69 = .ok (.getfield 134, 3) := by decide +kernel
theorem dX6_unit_72 : decode cX6_unit 72 = .ok (.iload_n 2, 1) := by decide +kernel
theorem dX6_unit_73 : decode cX6_unit 73 = .ok (.aload_n 0, 1) := by decide +kernel
theorem dX6_unit_74 : decode cX6_unit 74 = .ok (.getfield 29, 3) := by decide +kernel
theorem dX6_unit_77 : decode cX6_unit 77 = .ok (.getfield 118, 3) := by decide +kernel
theorem dX6_unit_80 : decode cX6_unit 80 = .ok (.invokevirtual 138, 3) := by decide +kernel
theorem dX6_unit_83 : decode cX6_unit 83 = .ok (.aload_n 0, 1) := by decide +kernel
theorem dX6_unit_84 : decode cX6_unit 84 = .ok (.getfield 12, 3) := by decide +kernel
theorem dX6_unit_87 : decode cX6_unit 87 = .ok (.getfield 134, 3) := by decide +kernel
theorem dX6_unit_90 : decode cX6_unit 90 = .ok (.dup, 1) := by decide +kernel
theorem dX6_unit_91 : decode cX6_unit 91 = .ok (.getfield 143, 3) := by decide +kernel
theorem dX6_unit_94 : decode cX6_unit 94 = .ok (.iconst 1, 1) := by decide +kernel
theorem dX6_unit_95 : decode cX6_unit 95 = .ok (.iadd, 1) := by decide +kernel
theorem dX6_unit_96 : decode cX6_unit 96 = .ok (.putfield 143, 3) := by decide +kernel
theorem dX6_unit_99 : decode cX6_unit 99 = .ok (.aload_n 0, 1) := by decide +kernel
theorem dX6_unit_100 : decode cX6_unit 100 = .ok (.getfield 29, 3) := by decide +kernel
theorem dX6_unit_103 : decode cX6_unit 103 = .ok (.invokevirtual 86, 3) := by decide +kernel
theorem dX6_unit_106 : decode cX6_unit 106 = .ok (.iconst 1, 1) := by decide +kernel
theorem dX6_unit_107 : decode cX6_unit 107 = .ok (.ireturn, 1) := by decide +kernel
theorem dX6_unit_108 : decode cX6_unit 108 = .ok (.iload_n 1, 1) := by decide +kernel
theorem dX6_unit_109 : decode cX6_unit 109 = .ok (.bipush 7, 2) := by decide +kernel
theorem dX6_unit_111 : decode cX6_unit 111 = .ok (.if_icmp .lt 8, 3) := by decide +kernel
theorem dX6_unit_114 : decode cX6_unit 114 = .ok (.aload_n 0, 1) := by decide +kernel
theorem dX6_unit_115 : decode cX6_unit 115 = .ok (.invokevirtual 74, 3) := by decide +kernel
theorem dX6_unit_118 : decode cX6_unit 118 = .ok (.ireturn, 1) := by decide +kernel
theorem dX6_unit_119 : decode cX6_unit 119 = .ok (.aload_n 0, 1) := by decide +kernel
theorem dX6_unit_120 : decode cX6_unit 120 = .ok (.getfield 12, 3) := by decide +kernel
theorem dX6_unit_123 : decode cX6_unit 123 = .ok (.getfield 134, 3) := by decide +kernel
theorem dX6_unit_126 : decode cX6_unit 126 = .ok (.dup, 1) := by decide +kernel
theorem dX6_unit_127 : decode cX6_unit 127 = .ok (.getfield 143, 3) := by decide +kernel
theorem dX6_unit_130 : decode cX6_unit 130 = .ok (.iconst 1, 1) := by decide +kernel
theorem dX6_unit_131 : decode cX6_unit 131 = .ok (.iadd, 1) := by decide +kernel
theorem dX6_unit_132 : decode cX6_unit 132 = .ok (.putfield 143, 3) := by decide +kernel
theorem dX6_unit_135 : decode cX6_unit 135 = .ok (.aload_n 0, 1) := by decide +kernel
theorem dX6_unit_136 : decode cX6_unit 136 = .ok (.getfield 29, 3) := by decide +kernel
theorem dX6_unit_139 : decode cX6_unit 139 = .ok (.invokevirtual 86, 3) := by decide +kernel
theorem dX6_unit_142 : decode cX6_unit 142 = .ok (.aload_n 0, 1) := by decide +kernel
theorem dX6_unit_143 : decode cX6_unit 143 = .ok (.iconst 0, 1) := by decide +kernel
theorem dX6_unit_144 : decode cX6_unit 144 = .ok (.iload_n 1, 1) := by decide +kernel
theorem dX6_unit_145 : decode cX6_unit 145 = .ok (.iconst 1, 1) := by decide +kernel
theorem dX6_unit_146 : decode cX6_unit 146 = .ok (.iadd, 1) := by decide +kernel
theorem dX6_unit_147 : decode cX6_unit 147 = .ok (.invokevirtual 67, 3) := by decide +kernel
theorem dX6_unit_150 : decode cX6_unit 150 = .ok (.ifCond .eq 16, 3) := by decide +kernel
theorem dX6_unit_153 : decode cX6_unit 153 = .ok (.aload_n 0, 1) := by decide +kernel
theorem dX6_unit_154 : decode cX6_unit 154 = .ok (.bipush 41, 2) := by decide +kernel
theorem dX6_unit_156 : decode cX6_unit 156 = .ok (.invokevirtual 83, 3) := by decide +kernel
theorem dX6_unit_159 : decode cX6_unit 159 = .ok (.ifCond .eq 7, 3) := by decide +kernel
theorem dX6_unit_162 : decode cX6_unit 162 = .ok (.iconst 1, 1) := by decide +kernel
theorem dX6_unit_163 : decode cX6_unit 163 = .ok (.goto 4, 3) := by decide +kernel
theorem dX6_unit_166 : decode cX6_unit 166 = .ok (.iconst 0, 1) := by decide +kernel
theorem dX6_unit_167 : decode cX6_unit 167 = .ok (.ireturn, 1) := by decide +kernel
theorem dX7_addCoat_0 : decode cX7_addCoat 0 = .ok (.aload_n 0, 1) := by decide +kernel
theorem dX7_addCoat_1 : decode cX7_addCoat 1 = .ok (.getfield 32, 3) := by decide +kernel
theorem dX7_addCoat_4 : decode cX7_addCoat 4 = .ok (.bipush 6, 2) := by decide +kernel
theorem dX7_addCoat_6 : decode cX7_addCoat 6 = .ok (.if_icmp .ge 65, 3) := by decide +kernel
theorem dX7_addCoat_9 : decode cX7_addCoat 9 = .ok (.aload_n 0, 1) := by decide +kernel
theorem dX7_addCoat_10 : decode cX7_addCoat 10 = .ok (.getfield 15, 3) := by decide +kernel
theorem dX7_addCoat_13 : decode cX7_addCoat 13 = .ok (.iconst 0, 1) := by decide +kernel
theorem dX7_addCoat_14 : decode cX7_addCoat 14 = .ok (.aload_n 0, 1) := by decide +kernel
theorem dX7_addCoat_15 : decode cX7_addCoat 15 = .ok (.getfield 32, 3) := by decide +kernel
theorem dX7_addCoat_18 : decode cX7_addCoat 18 = .ok (.iadd, 1) := by decide +kernel
theorem dX7_addCoat_19 : decode cX7_addCoat 19 = .ok (.iload_n 1, 1) := by decide +kernel
theorem dX7_addCoat_20 : decode cX7_addCoat 20 = .ok (.iastore, 1) := by decide +kernel
theorem dX7_addCoat_21 : decode cX7_addCoat 21 = .ok (.aload_n 0, 1) := by decide +kernel
theorem dX7_addCoat_22 : decode cX7_addCoat 22 = .ok (.getfield 15, 3) := by decide +kernel
theorem dX7_addCoat_25 : decode cX7_addCoat 25 = .ok (.bipush 6, 2) := by decide +kernel
theorem dX7_addCoat_27 : decode cX7_addCoat 27 = .ok (.aload_n 0, 1) := by decide +kernel
theorem dX7_addCoat_28 : decode cX7_addCoat 28 = .ok (.getfield 32, 3) := by decide +kernel
theorem dX7_addCoat_31 : decode cX7_addCoat 31 = .ok (.iadd, 1) := by decide +kernel
theorem dX7_addCoat_32 : decode cX7_addCoat 32 = .ok (.iload_n 2, 1) := by decide +kernel
theorem dX7_addCoat_33 : decode cX7_addCoat 33 = .ok (.iastore, 1) := by decide +kernel
theorem dX7_addCoat_34 : decode cX7_addCoat 34 = .ok (.aload_n 0, 1) := by decide +kernel
theorem dX7_addCoat_35 : decode cX7_addCoat 35 = .ok (.getfield 15, 3) := by decide +kernel
theorem dX7_addCoat_38 : decode cX7_addCoat 38 = .ok (.bipush 12, 2) := by decide +kernel
theorem dX7_addCoat_40 : decode cX7_addCoat 40 = .ok (.aload_n 0, 1) := by decide +kernel
theorem dX7_addCoat_41 : decode cX7_addCoat 41 = .ok (.getfield 32, 3) := by decide +kernel
theorem dX7_addCoat_44 : decode cX7_addCoat 44 = .ok (.iadd, 1) := by decide +kernel
theorem dX7_addCoat_45 : decode cX7_addCoat 45 = .ok (.iload_n 3, 1) := by decide +kernel
theorem dX7_addCoat_46 : decode cX7_addCoat 46 = .ok (.iastore, 1) := by decide +kernel
theorem dX7_addCoat_47 : decode cX7_addCoat 47 = .ok (.aload_n 0, 1) := by decide +kernel
theorem dX7_addCoat_48 : decode cX7_addCoat 48 = .ok (.getfield 15, 3) := by decide +kernel
theorem dX7_addCoat_51 : decode cX7_addCoat 51 = .ok (.bipush 18, 2) := by decide +kernel
theorem dX7_addCoat_53 : decode cX7_addCoat 53 = .ok (.aload_n 0, 1) := by decide +kernel
theorem dX7_addCoat_54 : decode cX7_addCoat 54 = .ok (.getfield 32, 3) := by decide +kernel
theorem dX7_addCoat_57 : decode cX7_addCoat 57 = .ok (.iadd, 1) := by decide +kernel
theorem dX7_addCoat_58 : decode cX7_addCoat 58 = .ok (.iload 4, 2) := by decide +kernel
theorem dX7_addCoat_60 : decode cX7_addCoat 60 = .ok (.iastore, 1) := by decide +kernel
theorem dX7_addCoat_61 : decode cX7_addCoat 61 = .ok (.aload_n 0, 1) := by decide +kernel
theorem dX7_addCoat_62 : decode cX7_addCoat 62 = .ok (.dup, 1) := by decide +kernel
theorem dX7_addCoat_63 : decode cX7_addCoat 63 = .ok (.getfield 32, 3) := by decide +kernel
theorem dX7_addCoat_66 : decode cX7_addCoat 66 = .ok (.iconst 1, 1) := by decide +kernel
theorem dX7_addCoat_67 : decode cX7_addCoat 67 = .ok (.iadd, 1) := by decide +kernel
theorem dX7_addCoat_68 : decode cX7_addCoat 68 = .ok (.putfield 32, 3) := by decide +kernel
theorem dX7_addCoat_71 : decode cX7_addCoat 71 = .ok (.return_, 1) := by decide +kernel
theorem dX7_addMan_0 : decode cX7_addMan 0 = .ok (.aload_n 0, 1) := by decide +kernel
theorem dX7_addMan_1 : decode cX7_addMan 1 = .ok (.getfield 28, 3) := by decide +kernel
theorem dX7_addMan_4 : decode cX7_addMan 4 = .ok (.bipush 6, 2) := by decide +kernel
theorem dX7_addMan_6 : decode cX7_addMan 6 = .ok (.if_icmp .ge 51, 3) := by decide +kernel
theorem dX7_addMan_9 : decode cX7_addMan 9 = .ok (.aload_n 0, 1) := by decide +kernel
theorem dX7_addMan_10 : decode cX7_addMan 10 = .ok (.getfield 9, 3) := by decide +kernel
theorem dX7_addMan_13 : decode cX7_addMan 13 = .ok (.iconst 0, 1) := by decide +kernel
theorem dX7_addMan_14 : decode cX7_addMan 14 = .ok (.aload_n 0, 1) := by decide +kernel
theorem dX7_addMan_15 : decode cX7_addMan 15 = .ok (.getfield 28, 3) := by decide +kernel
theorem dX7_addMan_18 : decode cX7_addMan 18 = .ok (.iadd, 1) := by decide +kernel
theorem dX7_addMan_19 : decode cX7_addMan 19 = .ok (.iload_n 1, 1) := by decide +kernel
theorem dX7_addMan_20 : decode cX7_addMan 20 = .ok (.iastore, 1) := by decide +kernel
theorem dX7_addMan_21 : decode cX7_addMan 21 = .ok (.aload_n 0, 1) := by decide +kernel
theorem dX7_addMan_22 : decode cX7_addMan 22 = .ok (.getfield 9, 3) := by decide +kernel
theorem dX7_addMan_25 : decode cX7_addMan 25 = .ok (.bipush 6, 2) := by decide +kernel
theorem dX7_addMan_27 : decode cX7_addMan 27 = .ok (.aload_n 0, 1) := by decide +kernel
theorem dX7_addMan_28 : decode cX7_addMan 28 = .ok (.getfield 28, 3) := by decide +kernel
theorem dX7_addMan_31 : decode cX7_addMan 31 = .ok (.iadd, 1) := by decide +kernel
theorem dX7_addMan_32 : decode cX7_addMan 32 = .ok (.iload_n 2, 1) := by decide +kernel
theorem dX7_addMan_33 : decode cX7_addMan 33 = .ok (.iastore, 1) := by decide +kernel
theorem dX7_addMan_34 : decode cX7_addMan 34 = .ok (.aload_n 0, 1) := by decide +kernel
theorem dX7_addMan_35 : decode cX7_addMan 35 = .ok (.getfield 9, 3) := by decide +kernel
theorem dX7_addMan_38 : decode cX7_addMan 38 = .ok (.bipush 12, 2) := by decide +kernel
theorem dX7_addMan_40 : decode cX7_addMan 40 = .ok (.aload_n 0, 1) := by decide +kernel
theorem dX7_addMan_41 : decode cX7_addMan 41 = .ok (.getfield 28, 3) := by decide +kernel
theorem dX7_addMan_44 : decode cX7_addMan 44 = .ok (.iadd, 1) := by decide +kernel
theorem dX7_addMan_45 : decode cX7_addMan 45 = .ok (.iload_n 3, 1) := by decide +kernel
theorem dX7_addMan_46 : decode cX7_addMan 46 = .ok (.iastore, 1) := by decide +kernel
theorem dX7_addMan_47 : decode cX7_addMan 47 = .ok (.aload_n 0, 1) := by decide +kernel
theorem dX7_addMan_48 : decode cX7_addMan 48 = .ok (.dup, 1) := by decide +kernel
theorem dX7_addMan_49 : decode cX7_addMan 49 = .ok (.getfield 28, 3) := by decide +kernel
theorem dX7_addMan_52 : decode cX7_addMan 52 = .ok (.iconst 1, 1) := by decide +kernel
theorem dX7_addMan_53 : decode cX7_addMan 53 = .ok (.iadd, 1) := by decide +kernel
theorem dX7_addMan_54 : decode cX7_addMan 54 = .ok (.putfield 28, 3) := by decide +kernel
theorem dX7_addMan_57 : decode cX7_addMan 57 = .ok (.return_, 1) := by decide +kernel
theorem dX7_clear_0 : decode cX7_clear 0 = .ok (.aload_n 0, 1) := by decide +kernel
theorem dX7_clear_1 : decode cX7_clear 1 = .ok (.iconst 0, 1) := by decide +kernel
theorem dX7_clear_2 : decode cX7_clear 2 = .ok (.putfield 28, 3) := by decide +kernel
theorem dX7_clear_5 : decode cX7_clear 5 = .ok (.aload_n 0, 1) := by decide +kernel
theorem dX7_clear_6 : decode cX7_clear 6 = .ok (.iconst 0, 1) := by decide +kernel
theorem dX7_clear_7 : decode cX7_clear 7 = .ok (.putfield 32, 3) := by decide +kernel
theorem dX7_clear_10 : decode cX7_clear 10 = .ok (.aload_n 0, 1) := by decide +kernel
theorem dX7_clear_11 : decode cX7_clear 11 = .ok (.getfield 21, 3) := by decide +kernel
theorem dX7_clear_14 : decode cX7_clear 14 = .ok (.invokevirtual 35, 3) := by decide +kernel
theorem dX7_clear_17 : decode cX7_clear 17 = .ok (.aload_n 0, 1) := by decide +kernel
theorem dX7_clear_18 : decode cX7_clear 18 = .ok (.invokevirtual 25, 3) := by decide +kernel
theorem dX7_clear_21 : decode cX7_clear 21 = .ok (.return_, 1) := by decide +kernel
theorem dX7_coatPart_0 : decode cX7_coatPart 0 = .ok (.aload_n 0, 1) := by decide +kernel
theorem dX7_coatPart_1 : decode cX7_coatPart 1 = .ok (.iload_n 2, 1) := by decide +kernel
theorem dX7_coatPart_2 : decode cX7_coatPart 2 = .ok (.invokevirtual 67, 3) := by decide +kernel
theorem dX7_coatPart_5 : decode cX7_coatPart 5 = .ok (.ifCond .eq 26, 3) := by decide +kernel
theorem dX7_coatPart_8 : decode cX7_coatPart 8 = .ok (.iload_n 1, 1) := by decide +kernel
theorem dX7_coatPart_9 : decode cX7_coatPart 9 = .ok (.ifCond .lt 22, 3) := by decide +kernel
theorem dX7_coatPart_12 : decode cX7_coatPart 12 = .ok (.iload_n 1, 1) := by decide +kernel
theorem dX7_coatPart_13 : decode cX7_coatPart 13 = .ok (.iconst 4, 1) := by decide +kernel
theorem dX7_coatPart_14 : decode cX7_coatPart 14 = .ok (.if_icmp .ge 17, 3) := by decide +kernel
theorem dX7_coatPart_17 : decode cX7_coatPart 17 = .ok (.aload_n 0, 1) := by decide +kernel
theorem dX7_coatPart_18 : decode cX7_coatPart 18 = .ok (.getfield 15, 3) := by decide +kernel
theorem dX7_coatPart_21 : decode cX7_coatPart 21 = .ok (.iload_n 1, 1) := by decide +kernel
theorem dX7_coatPart_22 : decode cX7_coatPart 22 = .ok (.bipush 6, 2) := by decide +kernel
theorem dX7_coatPart_24 : decode cX7_coatPart 24 = .ok (.imul, 1) := by decide +kernel
theorem dX7_coatPart_25 : decode cX7_coatPart 25 = .ok (.iload_n 2, 1) := by decide +kernel
theorem dX7_coatPart_26 : decode cX7_coatPart 26 = .ok (.iadd, 1) := by decide +kernel
theorem dX7_coatPart_27 : decode cX7_coatPart 27 = .ok (.iaload, 1) := by decide +kernel
theorem dX7_coatPart_28 : decode cX7_coatPart 28 = .ok (.goto 4, 3) := by decide +kernel
theorem dX7_coatPart_31 : decode cX7_coatPart 31 = .ok (.iconst 0, 1) := by decide +kernel
theorem dX7_coatPart_32 : decode cX7_coatPart 32 = .ok (.ireturn, 1) := by decide +kernel
theorem dX7_copy_0 : decode cX7_copy 0 = .ok (.aload_n 1, 1) := by decide +kernel
theorem dX7_copy_1 : decode cX7_copy 1 = .ok (.getfield 9, 3) := by decide +kernel
theorem dX7_copy_4 : decode cX7_copy 4 = .ok (.iconst 0, 1) := by decide +kernel
theorem dX7_copy_5 : decode cX7_copy 5 = .ok (.aload_n 0, 1) := by decide +kernel
theorem dX7_copy_6 : decode cX7_copy 6 = .ok (.getfield 9, 3) := by decide +kernel
theorem dX7_copy_9 : decode cX7_copy 9 = .ok (.iconst 0, 1) := by decide +kernel
theorem dX7_copy_10 : decode cX7_copy 10 = .ok (.aload_n 0, 1) := by decide +kernel
theorem dX7_copy_11 : decode cX7_copy 11 = .ok (.getfield 9, 3) := by decide +kernel
theorem dX7_copy_14 : decode cX7_copy 14 = .ok (.arraylength, 1) := by decide +kernel
theorem dX7_copy_15 : decode cX7_copy 15 = .ok (.invokestatic 53, 3) := by decide +kernel
theorem dX7_copy_18 : decode cX7_copy 18 = .ok (.aload_n 1, 1) := by decide +kernel
theorem dX7_copy_19 : decode cX7_copy 19 = .ok (.getfield 15, 3) := by decide +kernel
theorem dX7_copy_22 : decode cX7_copy 22 = .ok (.iconst 0, 1) := by decide +kernel
theorem dX7_copy_23 : decode cX7_copy 23 = .ok (.aload_n 0, 1) := by decide +kernel
theorem dX7_copy_24 : decode cX7_copy 24 = .ok (.getfield 15, 3) := by decide +kernel
theorem dX7_copy_27 : decode cX7_copy 27 = .ok (.iconst 0, 1) := by decide +kernel
theorem dX7_copy_28 : decode cX7_copy 28 = .ok (.aload_n 0, 1) := by decide +kernel
theorem dX7_copy_29 : decode cX7_copy 29 = .ok (.getfield 15, 3) := by decide +kernel
theorem dX7_copy_32 : decode cX7_copy 32 = .ok (.arraylength, 1) := by decide +kernel
theorem dX7_copy_33 : decode cX7_copy 33 = .ok (.invokestatic 53, 3) := by decide +kernel
theorem dX7_copy_36 : decode cX7_copy 36 = .ok (.aload_n 0, 1) := by decide +kernel
theorem dX7_copy_37 : decode cX7_copy 37 = .ok (.getfield 21, 3) := by decide +kernel
theorem dX7_copy_40 : decode cX7_copy 40 = .ok (.aload_n 1, 1) := by decide +kernel
theorem dX7_copy_41 : decode cX7_copy 41 = .ok (.getfield 21, 3) := by decide +kernel
theorem dX7_copy_44 : decode cX7_copy 44 = .ok (.invokevirtual 59, 3) := by decide +kernel
theorem dX7_copy_47 : decode cX7_copy 47 = .ok (.aload_n 0, 1) := by decide +kernel
theorem dX7_copy_48 : decode cX7_copy 48 = .ok (.aload_n 1, 1) := by decide +kernel
theorem dX7_copy_49 : decode cX7_copy 49 = .ok (.getfield 28, 3) := by decide +kernel
theorem dX7_copy_52 : decode cX7_copy 52 = .ok (.putfield 28, 3) := by decide +kernel
theorem dX7_copy_55 : decode cX7_copy 55 = .ok (.aload_n 0, 1) := by decide +kernel
theorem dX7_copy_56 : decode cX7_copy 56 = .ok (.aload_n 1, 1) := by decide +kernel
theorem dX7_copy_57 : decode cX7_copy 57 = .ok (.getfield 32, 3) := by decide +kernel
theorem dX7_copy_60 : decode cX7_copy 60 = .ok (.putfield 32, 3) := by decide +kernel
theorem dX7_copy_63 : decode cX7_copy 63 = .ok (.aload_n 0, 1) := by decide +kernel
theorem dX7_copy_64 : decode cX7_copy 64 = .ok (.aload_n 1, 1) := by decide +kernel
theorem dX7_copy_65 : decode cX7_copy 65 = .ok (.getfield 38, 3) := by decide +kernel
theorem dX7_copy_68 : decode cX7_copy 68 = .ok (.putfield 38, 3) := by decide +kernel
theorem dX7_copy_71 : decode cX7_copy 71 = .ok (.aload_n 0, 1) := by decide +kernel
theorem dX7_copy_72 : decode cX7_copy 72 = .ok (.aload_n 1, 1) := by decide +kernel
theorem dX7_copy_73 : decode cX7_copy 73 = .ok (.getfield 41, 3) := by decide +kernel
theorem dX7_copy_76 : decode cX7_copy 76 = .ok (.putfield 41, 3) := by decide +kernel
theorem dX7_copy_79 : decode cX7_copy 79 = .ok (.aload_n 0, 1) := by decide +kernel
theorem dX7_copy_80 : decode cX7_copy 80 = .ok (.aload_n 1, 1) := by decide +kernel
theorem dX7_copy_81 : decode cX7_copy 81 = .ok (.getfield 44, 3) := by decide +kernel
theorem dX7_copy_84 : decode cX7_copy 84 = .ok (.putfield 44, 3) := by decide +kernel
theorem dX7_copy_87 : decode cX7_copy 87 = .ok (.aload_n 0, 1) := by decide +kernel
theorem dX7_copy_88 : decode cX7_copy 88 = .ok (.aload_n 1, 1) := by decide +kernel
theorem dX7_copy_89 : decode cX7_copy 89 = .ok (.getfield 47, 3) := by decide +kernel
theorem dX7_copy_92 : decode cX7_copy 92 = .ok (.putfield 47, 3) := by decide +kernel
theorem dX7_copy_95 : decode cX7_copy 95 = .ok (.aload_n 0, 1) := by decide +kernel
theorem dX7_copy_96 : decode cX7_copy 96 = .ok (.aload_n 1, 1) := by decide +kernel
theorem dX7_copy_97 : decode cX7_copy 97 = .ok (.getfield 50, 3) := by decide +kernel
theorem dX7_copy_100 : decode cX7_copy 100 = .ok (.putfield 50, 3) := by decide +kernel
theorem dX7_copy_103 : decode cX7_copy 103 = .ok (.return_, 1) := by decide +kernel
theorem dX7_hasCoat_0 : decode cX7_hasCoat 0 = .ok (.iload_n 1, 1) := by decide +kernel
theorem dX7_hasCoat_1 : decode cX7_hasCoat 1 = .ok (.ifCond .lt 15, 3) := by decide +kernel
theorem dX7_hasCoat_4 : decode cX7_hasCoat 4 = .ok (.iload_n 1, 1) := by decide +kernel
theorem dX7_hasCoat_5 : decode cX7_hasCoat 5 = .ok (.aload_n 0, 1) := by decide +kernel
theorem dX7_hasCoat_6 : decode cX7_hasCoat 6 = .ok (.getfield 32, 3) := by decide +kernel
theorem dX7_hasCoat_9 : decode cX7_hasCoat 9 = .ok (.if_icmp .ge 7, 3) := by decide +kernel
theorem dX7_hasCoat_12 : decode cX7_hasCoat 12 = .ok (.iconst 1, 1) := by decide +kernel
theorem dX7_hasCoat_13 : decode cX7_hasCoat 13 = .ok (.goto 4, 3) := by decide +kernel
theorem dX7_hasCoat_16 : decode cX7_hasCoat 16 = .ok (.iconst 0, 1) := by decide +kernel
theorem dX7_hasCoat_17 : decode cX7_hasCoat 17 = .ok (.ireturn, 1) := by decide +kernel
theorem dX7_hasMan_0 : decode cX7_hasMan 0 = .ok (.iload_n 1, 1) := by decide +kernel
theorem dX7_hasMan_1 : decode cX7_hasMan 1 = .ok (.ifCond .lt 15, 3) := by decide +kernel
theorem dX7_hasMan_4 : decode cX7_hasMan 4 = .ok (.iload_n 1, 1) := by decide +kernel
theorem dX7_hasMan_5 : decode cX7_hasMan 5 = .ok (.aload_n 0, 1) := by decide +kernel
theorem dX7_hasMan_6 : decode cX7_hasMan 6 = .ok (.getfield 28, 3) := by decide +kernel
theorem dX7_hasMan_9 : decode cX7_hasMan 9 = .ok (.if_icmp .ge 7, 3) := by decide +kernel
theorem dX7_hasMan_12 : decode cX7_hasMan 12 = .ok (.iconst 1, 1) := by decide +kernel
theorem dX7_hasMan_13 : decode cX7_hasMan 13 = .ok (.goto 4, 3) := by decide +kernel
theorem dX7_hasMan_16 : decode cX7_hasMan 16 = .ok (.iconst 0, 1) := by decide +kernel
theorem dX7_hasMan_17 : decode cX7_hasMan 17 = .ok (.ireturn, 1) := by decide +kernel
theorem dX7_manPart_0 : decode cX7_manPart 0 = .ok (.aload_n 0, 1) := by decide +kernel
theorem dX7_manPart_1 : decode cX7_manPart 1 = .ok (.iload_n 2, 1) := by decide +kernel
theorem dX7_manPart_2 : decode cX7_manPart 2 = .ok (.invokevirtual 63, 3) := by decide +kernel
theorem dX7_manPart_5 : decode cX7_manPart 5 = .ok (.ifCond .eq 26, 3) := by decide +kernel
theorem dX7_manPart_8 : decode cX7_manPart 8 = .ok (.iload_n 1, 1) := by decide +kernel
theorem dX7_manPart_9 : decode cX7_manPart 9 = .ok (.ifCond .lt 22, 3) := by decide +kernel
theorem dX7_manPart_12 : decode cX7_manPart 12 = .ok (.iload_n 1, 1) := by decide +kernel
theorem dX7_manPart_13 : decode cX7_manPart 13 = .ok (.iconst 3, 1) := by decide +kernel
theorem dX7_manPart_14 : decode cX7_manPart 14 = .ok (.if_icmp .ge 17, 3) := by decide +kernel
theorem dX7_manPart_17 : decode cX7_manPart 17 = .ok (.aload_n 0, 1) := by decide +kernel
theorem dX7_manPart_18 : decode cX7_manPart 18 = .ok (.getfield 9, 3) := by decide +kernel
theorem dX7_manPart_21 : decode cX7_manPart 21 = .ok (.iload_n 1, 1) := by decide +kernel
theorem dX7_manPart_22 : decode cX7_manPart 22 = .ok (.bipush 6, 2) := by decide +kernel
theorem dX7_manPart_24 : decode cX7_manPart 24 = .ok (.imul, 1) := by decide +kernel
theorem dX7_manPart_25 : decode cX7_manPart 25 = .ok (.iload_n 2, 1) := by decide +kernel
theorem dX7_manPart_26 : decode cX7_manPart 26 = .ok (.iadd, 1) := by decide +kernel
theorem dX7_manPart_27 : decode cX7_manPart 27 = .ok (.iaload, 1) := by decide +kernel
theorem dX7_manPart_28 : decode cX7_manPart 28 = .ok (.goto 4, 3) := by decide +kernel
theorem dX7_manPart_31 : decode cX7_manPart 31 = .ok (.iconst 0, 1) := by decide +kernel
theorem dX7_manPart_32 : decode cX7_manPart 32 = .ok (.ireturn, 1) := by decide +kernel
theorem dX7_set_0 : decode cX7_set 0 = .ok (.iload_n 1, 1) := by decide +kernel
theorem dX7_set_1 : decode cX7_set 1 = .ok (.tableswitch 63 104 107 #[31, 39, 47, 55], 31) := by decide +kernel
theorem dX7_set_32 : decode cX7_set 32 = .ok (.aload_n 0, 1) := by decide +kernel
theorem dX7_set_33 : decode cX7_set 33 = .ok (.iload_n 2, 1) := by decide +kernel
theorem dX7_set_34 : decode cX7_set 34 = .ok (.putfield 38, 3) := by decide +kernel
theorem dX7_set_37 : decode cX7_set 37 = .ok (.goto 32, 3) := by decide +kernel
theorem dX7_set_40 : decode cX7_set 40 = .ok (.aload_n 0, 1) := by decide +kernel
theorem dX7_set_41 : decode cX7_set 41 = .ok (.iload_n 2, 1) := by decide +kernel
theorem dX7_set_42 : decode cX7_set 42 = .ok (.putfield 41, 3) := by decide +kernel
theorem dX7_set_45 : decode cX7_set 45 = .ok (.goto 24, 3) := by decide +kernel
theorem dX7_set_48 : decode cX7_set 48 = .ok (.aload_n 0, 1) := by decide +kernel
theorem dX7_set_49 : decode cX7_set 49 = .ok (.iload_n 2, 1) := by decide +kernel
theorem dX7_set_50 : decode cX7_set 50 = .ok (.putfield 44, 3) := by decide +kernel
theorem dX7_set_53 : decode cX7_set 53 = .ok (.goto 16, 3) := by decide +kernel
theorem dX7_set_56 : decode cX7_set 56 = .ok (.aload_n 0, 1) := by decide +kernel
theorem dX7_set_57 : decode cX7_set 57 = .ok (.iload_n 2, 1) := by decide +kernel
theorem dX7_set_58 : decode cX7_set 58 = .ok (.putfield 47, 3) := by decide +kernel
theorem dX7_set_61 : decode cX7_set 61 = .ok (.goto 8, 3) := by decide +kernel
theorem dX7_set_64 : decode cX7_set 64 = .ok (.aload_n 0, 1) := by decide +kernel
theorem dX7_set_65 : decode cX7_set 65 = .ok (.iload_n 2, 1) := by decide +kernel
theorem dX7_set_66 : decode cX7_set 66 = .ok (.putfield 50, 3) := by decide +kernel
theorem dX7_set_69 : decode cX7_set 69 = .ok (.return_, 1) := by decide +kernel
theorem dX7_setDefaults_0 : decode cX7_setDefaults 0 = .ok (.aload_n 0, 1) := by decide +kernel
theorem dX7_setDefaults_1 : decode cX7_setDefaults 1 = .ok (.bipush 10, 2) := by decide +kernel
theorem dX7_setDefaults_3 : decode cX7_setDefaults 3 = .ok (.putfield 38, 3) := by decide +kernel
theorem dX7_setDefaults_6 : decode cX7_setDefaults 6 = .ok (.aload_n 0, 1) := by decide +kernel
theorem dX7_setDefaults_7 : decode cX7_setDefaults 7 = .ok (.sipush 150, 3) := by decide +kernel
theorem dX7_setDefaults_10 : decode cX7_setDefaults 10 = .ok (.putfield 41, 3) := by decide +kernel
theorem dX7_setDefaults_13 : decode cX7_setDefaults 13 = .ok (.aload_n 0, 1) := by decide +kernel
theorem dX7_setDefaults_14 : decode cX7_setDefaults 14 = .ok (.iconst 2, 1) := by decide +kernel
theorem dX7_setDefaults_15 : decode cX7_setDefaults 15 = .ok (.putfield 44, 3) := by decide +kernel
theorem dX7_setDefaults_18 : decode cX7_setDefaults 18 = .ok (.aload_n 0, 1) := by decide +kernel
theorem dX7_setDefaults_19 : decode cX7_setDefaults 19 = .ok (.iconst 0, 1) := by decide +kernel
theorem dX7_setDefaults_20 : decode cX7_setDefaults 20 = .ok (.putfield 47, 3) := by decide +kernel
theorem dX7_setDefaults_23 : decode cX7_setDefaults 23 = .ok (.aload_n 0, 1) := by decide +kernel
theorem dX7_setDefaults_24 : decode cX7_setDefaults 24 = .ok (.iconst 0, 1) := by decide +kernel
theorem dX7_setDefaults_25 : decode cX7_setDefaults 25 = .ok (.putfield 50, 3) := by decide +kernel
theorem dX7_setDefaults_28 : decode cX7_setDefaults 28 = .ok (.return_, 1) := by decide +kernel
theorem dX8_clear_0 : decode cX8_clear 0 = .ok (.aload_n 0, 1) := by decide +kernel
theorem dX8_clear_1 : decode cX8_clear 1 = .ok (.iconst 0, 1) := by decide +kernel
theorem dX8_clear_2 : decode cX8_clear 2 = .ok (.putfield 38, 3) := by decide +kernel
theorem dX8_clear_5 : decode cX8_clear 5 = .ok (.aload_n 0, 1) := by decide +kernel
theorem dX8_clear_6 : decode cX8_clear 6 = .ok (.getfield 25, 3) := by decide +kernel
theorem dX8_clear_9 : decode cX8_clear 9 = .ok (.iconst (-1), 1) := by decide +kernel
theorem dX8_clear_10 : decode cX8_clear 10 = .ok (.invokestatic 32, 3) := by decide +kernel
theorem dX8_clear_13 : decode cX8_clear 13 = .ok (.return_, 1) := by decide +kernel
theorem dX9_advance_0 : decode cX9_advance 0 = .ok (.aload_n 0, 1) := by decide +kernel
theorem dX9_advance_1 : decode cX9_advance 1 = .ok (.aload_n 0, 1) := by decide +kernel
theorem dX9_advance_2 : decode cX9_advance 2 = .ok (.getfield 19, 3) := by decide +kernel
theorem dX9_advance_5 : decode cX9_advance 5 = .ok (.putfield 25, 3) := by decide +kernel
theorem dX9_advance_8 : decode cX9_advance 8 = .ok (.aload_n 0, 1) := by decide +kernel
theorem dX9_advance_9 : decode cX9_advance 9 = .ok (.getfield 25, 3) := by decide +kernel
theorem dX9_advance_12 : decode cX9_advance 12 = .ok (.aload_n 0, 1) := by decide +kernel
theorem dX9_advance_13 : decode cX9_advance 13 = .ok (.getfield 15, 3) := by decide +kernel
theorem dX9_advance_16 : decode cX9_advance 16 = .ok (.if_icmp .ge 44, 3) := by decide +kernel
theorem dX9_advance_19 : decode cX9_advance 19 = .ok (.aload_n 0, 1) := by decide +kernel
theorem dX9_advance_20 : decode cX9_advance 20 = .ok (.getfield 9, 3) := by decide +kernel
theorem dX9_advance_23 : decode cX9_advance 23 = .ok (.aload_n 0, 1) := by decide +kernel
theorem dX9_advance_24 : decode cX9_advance 24 = .ok (.getfield 25, 3) := by decide +kernel
theorem dX9_advance_27 : decode cX9_advance 27 = .ok (.baload, 1) := by decide +kernel
theorem dX9_advance_28 : decode cX9_advance 28 = .ok (.bipush 32, 2) := by decide +kernel
theorem dX9_advance_30 : decode cX9_advance 30 = .ok (.if_icmp .eq 17, 3) := by decide +kernel
theorem dX9_advance_33 : decode cX9_advance 33 = .ok (.aload_n 0, 1) := by decide +kernel
theorem dX9_advance_34 : decode cX9_advance 34 = .ok (.getfield 9, 3) := by decide +kernel
theorem dX9_advance_37 : decode cX9_advance 37 = .ok (.aload_n 0, 1) := by decide +kernel
theorem dX9_advance_38 : decode cX9_advance 38 = .ok (.getfield 25, 3) := by decide +kernel
theorem dX9_advance_41 : decode cX9_advance 41 = .ok (.baload, 1) := by decide +kernel
theorem dX9_advance_42 : decode cX9_advance 42 = .ok (.bipush 10, 2) := by decide +kernel
theorem dX9_advance_44 : decode cX9_advance 44 = .ok (.if_icmp .ne 16, 3) := by decide +kernel
theorem dX9_advance_47 : decode cX9_advance 47 = .ok (.aload_n 0, 1) := by decide +kernel
theorem dX9_advance_48 : decode cX9_advance 48 = .ok (.dup, 1) := by decide +kernel
theorem dX9_advance_49 : decode cX9_advance 49 = .ok (.getfield 25, 3) := by decide +kernel
theorem dX9_advance_52 : decode cX9_advance 52 = .ok (.iconst 1, 1) := by decide +kernel
theorem dX9_advance_53 : decode cX9_advance 53 = .ok (.iadd, 1) := by decide +kernel
theorem dX9_advance_54 : decode cX9_advance 54 = .ok (.putfield 25, 3) := by decide +kernel
theorem dX9_advance_57 : decode cX9_advance 57 = .ok (.goto (-49), 3) := by decide +kernel
theorem dX9_advance_60 : decode cX9_advance 60 = .ok (.aload_n 0, 1) := by decide +kernel
theorem dX9_advance_61 : decode cX9_advance 61 = .ok (.aload_n 0, 1) := by decide +kernel
theorem dX9_advance_62 : decode cX9_advance 62 = .ok (.getfield 25, 3) := by decide +kernel
theorem dX9_advance_65 : decode cX9_advance 65 = .ok (.putfield 19, 3) := by decide +kernel
theorem dX9_advance_68 : decode cX9_advance 68 = .ok (.aload_n 0, 1) := by decide +kernel
theorem dX9_advance_69 : decode cX9_advance 69 = .ok (.getfield 25, 3) := by decide +kernel
theorem dX9_advance_72 : decode cX9_advance 72 = .ok (.aload_n 0, 1) := by decide +kernel
theorem dX9_advance_73 : decode cX9_advance 73 = .ok (.getfield 15, 3) := by decide +kernel
theorem dX9_advance_76 : decode cX9_advance 76 = .ok (.if_icmp .lt 11, 3) := by decide +kernel
theorem dX9_advance_79 : decode cX9_advance 79 = .ok (.aload_n 0, 1) := by decide +kernel
theorem dX9_advance_80 : decode cX9_advance 80 = .ok (.iconst 0, 1) := by decide +kernel
theorem dX9_advance_81 : decode cX9_advance 81 = .ok (.putfield 28, 3) := by decide +kernel
theorem dX9_advance_84 : decode cX9_advance 84 = .ok (.goto 238, 3) := by decide +kernel
theorem dX9_advance_87 : decode cX9_advance 87 = .ok (.aload_n 0, 1) := by decide +kernel
theorem dX9_advance_88 : decode cX9_advance 88 = .ok (.aload_n 0, 1) := by decide +kernel
theorem dX9_advance_89 : decode cX9_advance 89 = .ok (.getfield 25, 3) := by decide +kernel
theorem dX9_advance_92 : decode cX9_advance 92 = .ok (.invokevirtual 31, 3) := by decide +kernel
theorem dX9_advance_95 : decode cX9_advance 95 = .ok (.ifCond .eq 67, 3) := by decide +kernel
theorem dX9_advance_98 : decode cX9_advance 98 = .ok (.aload_n 0, 1) := by decide +kernel
theorem dX9_advance_99 : decode cX9_advance 99 = .ok (.getfield 19, 3) := by decide +kernel
theorem dX9_advance_102 : decode cX9_advance 102 = .ok (.aload_n 0, 1) := by decide +kernel
theorem dX9_advance_103 : decode cX9_advance 103 = .ok (.getfield 15, 3) := by decide +kernel
theorem dX9_advance_106 : decode cX9_advance 106 = .ok (.if_icmp .ge 27, 3) := by decide +kernel
theorem dX9_advance_109 : decode cX9_advance 109 = .ok (.aload_n 0, 1) := by decide +kernel
theorem dX9_advance_110 : decode cX9_advance 110 = .ok (.aload_n 0, 1) := by decide +kernel
theorem dX9_advance_111 : decode cX9_advance 111 = .ok (.getfield 19, 3) := by decide +kernel
theorem dX9_advance_114 : decode cX9_advance 114 = .ok (.invokevirtual 31, 3) := by decide +kernel
theorem dX9_advance_117 : decode cX9_advance 117 = .ok (.ifCond .eq 16, 3) := by decide +kernel
theorem dX9_advance_120 : decode cX9_advance 120 = .ok (.aload_n 0, 1) := by decide +kernel
theorem dX9_advance_121 : decode cX9_advance 121 = .ok (.dup, 1) := by decide +kernel
theorem dX9_advance_122 : decode cX9_advance 122 = .ok (.getfield 19, 3) := by decide +kernel
theorem dX9_advance_125 : decode cX9_advance 125 = .ok (.iconst 1, 1) := by decide +kernel
theorem dX9_advance_126 : decode cX9_advance 126 = .ok (.iadd, 1) := by decide +kernel
theorem dX9_advance_127 : decode cX9_advance 127 = .ok (.putfield 19, 3) := by decide +kernel
theorem dX9_advance_130 : decode cX9_advance 130 = .ok (.goto (-32), 3) := by decide +kernel
theorem dX9_advance_133 : decode cX9_advance 133 = .ok (.aload_n 0, 1) := by decide +kernel
theorem dX9_advance_134 : decode cX9_advance 134 = .ok (.aload_n 0, 1) := by decide +kernel
theorem dX9_advance_135 : decode cX9_advance 135 = .ok (.getfield 19, 3) := by decide +kernel
theorem dX9_advance_138 : decode cX9_advance 138 = .ok (.aload_n 0, 1) := by decide +kernel
theorem dX9_advance_139 : decode cX9_advance 139 = .ok (.getfield 25, 3) := by decide +kernel
theorem dX9_advance_142 : decode cX9_advance 142 = .ok (.isub, 1) := by decide +kernel
theorem dX9_advance_143 : decode cX9_advance 143 = .ok (.bipush 8, 2) := by decide +kernel
theorem dX9_advance_145 : decode cX9_advance 145 = .ok (.if_icmp .le 7, 3) := by decide +kernel
theorem dX9_advance_148 : decode cX9_advance 148 = .ok (.iconst 1, 1) := by decide +kernel
theorem dX9_advance_149 : decode cX9_advance 149 = .ok (.goto 7, 3) := by decide +kernel
theorem dX9_advance_152 : decode cX9_advance 152 = .ok (.aload_n 0, 1) := by decide +kernel
theorem dX9_advance_153 : decode cX9_advance 153 = .ok (.invokevirtual 35, 3) := by decide +kernel
theorem dX9_advance_156 : decode cX9_advance 156 = .ok (.putfield 28, 3) := by decide +kernel
theorem dX9_advance_159 : decode cX9_advance 159 = .ok (.goto 163, 3) := by decide +kernel
theorem dX9_advance_162 : decode cX9_advance 162 = .ok (.aload_n 0, 1) := by decide +kernel
theorem dX9_advance_163 : decode cX9_advance 163 = .ok (.aload_n 0, 1) := by decide +kernel
theorem dX9_advance_164 : decode cX9_advance 164 = .ok (.getfield 25, 3) := by decide +kernel
theorem dX9_advance_167 : decode cX9_advance 167 = .ok (.invokevirtual 39, 3) := by decide +kernel
theorem dX9_advance_170 : decode cX9_advance 170 = .ok (.ifCond .eq 103, 3) := by decide +kernel
theorem dX9_advance_173 : decode cX9_advance 173 = .ok (.aload_n 0, 1) := by decide +kernel
theorem dX9_advance_174 : decode cX9_advance 174 = .ok (.iconst 0, 1) := by decide +kernel
theorem dX9_advance_175 : decode cX9_advance 175 = .ok (.putfield 42, 3) := by decide +kernel
theorem dX9_advance_178 : decode cX9_advance 178 = .ok (.aload_n 0, 1) := by decide +kernel
theorem dX9_advance_179 : decode cX9_advance 179 = .ok (.getfield 19, 3) := by decide +kernel
theorem dX9_advance_182 : decode cX9_advance 182 = .ok (.aload_n 0, 1) := by decide +kernel
theorem dX9_advance_183 : decode cX9_advance 183 = .ok (.getfield 15, 3) := by decide +kernel
theorem dX9_advance_186 : decode cX9_advance 186 = .ok (.if_icmp .ge 51, 3) := by decide +kernel
theorem dX9_advance_189 : decode cX9_advance 189 = .ok (.aload_n 0, 1) := by decide +kernel
theorem dX9_advance_190 : decode cX9_advance 190 = .ok (.aload_n 0, 1) := by decide +kernel
theorem dX9_advance_191 : decode cX9_advance 191 = .ok (.getfield 19, 3) := by decide +kernel
theorem dX9_advance_194 : decode cX9_advance 194 = .ok (.invokevirtual 39, 3) := by decide +kernel
theorem dX9_advance_197 : decode cX9_advance 197 = .ok (.ifCond .eq 40, 3) := by decide +kernel
theorem dX9_advance_200 : decode cX9_advance 200 = .ok (.aload_n 0, 1) := by decide +kernel
theorem dX9_advance_201 : decode cX9_advance 201 = .ok (.aload_n 0, 1) := by decide +kernel
theorem dX9_advance_202 : decode cX9_advance 202 = .ok (.getfield 42, 3) := by decide +kernel
theorem dX9_advance_205 : decode cX9_advance 205 = .ok (.bipush 10, 2) := by decide +kernel
theorem dX9_advance_207 : decode cX9_advance 207 = .ok (.imul, 1) := by decide +kernel
theorem dX9_advance_208 : decode cX9_advance 208 = .ok (.aload_n 0, 1) := by decide +kernel
theorem dX9_advance_209 : decode cX9_advance 209 = .ok (.getfield 9, 3) := by decide +kernel
theorem dX9_advance_212 : decode cX9_advance 212 = .ok (.aload_n 0, 1) := by decide +kernel
theorem dX9_advance_213 : decode cX9_advance 213 = .ok (.getfield 19, 3) := by decide +kernel
theorem dX9_advance_216 : decode cX9_advance 216 = .ok (.baload, 1) := by decide +kernel
theorem dX9_advance_217 : decode cX9_advance 217 = .ok (.iadd, 1) := by decide +kernel
theorem dX9_advance_218 : decode cX9_advance 218 = .ok (.bipush 48, 2) := by decide +kernel
theorem dX9_advance_220 : decode cX9_advance 220 = .ok (.isub, 1) := by decide +kernel
theorem dX9_advance_221 : decode cX9_advance 221 = .ok (.putfield 42, 3) := by decide +kernel
theorem dX9_advance_224 : decode cX9_advance 224 = .ok (.aload_n 0, 1) := by decide +kernel
theorem dX9_advance_225 : decode cX9_advance 225 = .ok (.dup, 1) := by decide +kernel
theorem dX9_advance_226 : decode cX9_advance 226 = .ok (.getfield 19, 3) := by decide +kernel
theorem dX9_advance_229 : decode cX9_advance 229 = .ok (.iconst 1, 1) := by decide +kernel
theorem dX9_advance_230 : decode cX9_advance 230 = .ok (.iadd, 1) := by decide +kernel
theorem dX9_advance_231 : decode cX9_advance 231 = .ok (.putfield 19, 3) := by decide +kernel
theorem dX9_advance_234 : decode cX9_advance 234 = .ok (.goto (-56), 3) := by decide +kernel
theorem dX9_advance_237 : decode cX9_advance 237 = .ok (.aload_n 0, 1) := by decide +kernel
theorem dX9_advance_238 : decode cX9_advance 238 = .ok (.aload_n 0, 1) := by decide +kernel
theorem dX9_advance_239 : decode cX9_advance 239 = .ok (.getfield 19, 3) := by decide +kernel
theorem dX9_advance_242 : decode cX9_advance 242 = .ok (.aload_n 0, 1) := by decide +kernel
theorem dX9_advance_243 : decode cX9_advance 243 = .ok (.getfield 25, 3) := by decide +kernel
theorem dX9_advance_246 : decode cX9_advance 246 = .ok (.isub, 1) := by decide +kernel
theorem dX9_advance_247 : decode cX9_advance 247 = .ok (.iconst 4, 1) := by decide +kernel
theorem dX9_advance_248 : decode cX9_advance 248 = .ok (.if_icmp .gt 14, 3) := by decide +kernel
theorem dX9_advance_251 : decode cX9_advance 251 = .ok (.aload_n 0, 1) := by decide +kernel
theorem dX9_advance_252 : decode cX9_advance 252 = .ok (.aload_n 0, 1) := by decide +kernel
theorem dX9_advance_253 : decode cX9_advance 253 = .ok (.getfield 19, 3) := by decide +kernel
theorem dX9_advance_256 : decode cX9_advance 256 = .ok (.invokevirtual 31, 3) := by decide +kernel
theorem dX9_advance_259 : decode cX9_advance 259 = .ok (.ifCond .eq 7, 3) := by decide +kernel
theorem dX9_advance_262 : decode cX9_advance 262 = .ok (.iconst 1, 1) := by decide +kernel
theorem dX9_advance_263 : decode cX9_advance 263 = .ok (.goto 4, 3) := by decide +kernel
theorem dX9_advance_266 : decode cX9_advance 266 = .ok (.iconst 2, 1) := by decide +kernel
theorem dX9_advance_267 : decode cX9_advance 267 = .ok (.putfield 28, 3) := by decide +kernel
theorem dX9_advance_270 : decode cX9_advance 270 = .ok (.goto 52, 3) := by decide +kernel
theorem dX9_advance_273 : decode cX9_advance 273 = .ok (.aload_n 0, 1) := by decide +kernel
theorem dX9_advance_274 : decode cX9_advance 274 = .ok (.dup, 1) := by decide +kernel
theorem dX9_advance_275 : decode cX9_advance 275 = .ok (.getfield 19, 3) := by decide +kernel
theorem dX9_advance_278 : decode cX9_advance 278 = .ok (.iconst 1, 1) := by decide +kernel
theorem dX9_advance_279 : decode cX9_advance 279 = .ok (.iadd, 1) := by decide +kernel
theorem dX9_advance_280 : decode cX9_advance 280 = .ok (.putfield 19, 3) := by decide +kernel
theorem dX9_advance_283 : decode cX9_advance 283 = .ok (.aload_n 0, 1) := by decide +kernel
theorem dX9_advance_284 : decode cX9_advance 284 = .ok (.ldc 45, 2) := by decide +kernel
theorem dX9_advance_286 : decode cX9_advance 286 = .ok (.aload_n 0, 1) := by decide +kernel
theorem dX9_advance_287 : decode cX9_advance 287 = .ok (.getfield 9, 3) := by decide +kernel
theorem dX9_advance_290 : decode cX9_advance 290 = .ok (.aload_n 0, 1) := by decide +kernel
theorem dX9_advance_291 : decode cX9_advance 291 = .ok (.getfield 25, 3) := by decide +kernel
theorem dX9_advance_294 : decode cX9_advance 294 = .ok (.baload, 1) := by decide +kernel
theorem dX9_advance_295 : decode cX9_advance 295 = .ok (.sipush 255, 3) := by decide +kernel
theorem dX9_advance_298 : decode cX9_advance 298 = .ok (.iand, 1) := by decide +kernel
theorem dX9_advance_299 : decode cX9_advance 299 = .ok (.i2c, 1) := by decide +kernel
theorem dX9_advance_300 : decode cX9_advance 300 = .ok (.invokevirtual 47, 3) := by decide +kernel
theorem dX9_advance_303 : decode cX9_advance 303 = .ok (.ifCond .lt 15, 3) := by decide +kernel
theorem dX9_advance_306 : decode cX9_advance 306 = .ok (.aload_n 0, 1) := by decide +kernel
