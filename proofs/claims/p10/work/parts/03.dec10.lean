theorem dX6_read_29 : decode cX6_read 29 = .ok (.iconst 0, 1) := by decide +kernel
theorem dX6_read_30 : decode cX6_read 30 = .ok (.istore_n 1, 1) := by decide +kernel
theorem dX6_read_31 : decode cX6_read 31 = .ok (.iload_n 1, 1) := by decide +kernel
theorem dX6_read_32 : decode cX6_read 32 = .ok (.sipush 1600, 3) := by decide +kernel
theorem dX6_read_35 : decode cX6_read 35 = .ok (.if_icmp .ge 28, 3) := by decide +kernel
theorem dX6_read_38 : decode cX6_read 38 = .ok (.aload_n 0, 1) := by decide +kernel
theorem dX6_read_39 : decode cX6_read 39 = .ok (.getfield 29, 3) := by decide +kernel
theorem dX6_read_42 : decode cX6_read 42 = .ok (.getfield 47, 3) := by decide +kernel
theorem dX6_read_45 : decode cX6_read 45 = .ok (.ifCond .eq 18, 3) := by decide +kernel
theorem dX6_read_48 : decode cX6_read 48 = .ok (.aload_n 0, 1) := by decide +kernel
theorem dX6_read_49 : decode cX6_read 49 = .ok (.invokevirtual 50, 3) := by decide +kernel
theorem dX6_read_52 : decode cX6_read 52 = .ok (.ifCond .ne 5, 3) := by decide +kernel
theorem dX6_read_55 : decode cX6_read 55 = .ok (.iconst 0, 1) := by decide +kernel
theorem dX6_read_56 : decode cX6_read 56 = .ok (.ireturn, 1) := by decide +kernel
theorem dX6_read_57 : decode cX6_read 57 = .ok (.iinc 1 1, 3) := by decide +kernel
theorem dX6_read_60 : decode cX6_read 60 = .ok (.goto (-29), 3) := by decide +kernel
theorem dX6_read_63 : decode cX6_read 63 = .ok (.iconst 1, 1) := by decide +kernel
theorem dX6_read_64 : decode cX6_read 64 = .ok (.ireturn, 1) := by decide +kernel
theorem dX6_refuse_0 : decode cX6_refuse 0 = .ok (.aload_n 0, 1) := by decide +kernel
theorem dX6_refuse_1 : decode cX6_refuse 1 = .ok (.aload_n 0, 1) := by decide +kernel
theorem dX6_refuse_2 : decode cX6_refuse 2 = .ok (.getfield 29, 3) := by decide +kernel
theorem dX6_refuse_5 : decode cX6_refuse 5 = .ok (.getfield 47, 3) := by decide +kernel
theorem dX6_refuse_8 : decode cX6_refuse 8 = .ok (.iconst 1, 1) := by decide +kernel
theorem dX6_refuse_9 : decode cX6_refuse 9 = .ok (.if_icmp .ne 7, 3) := by decide +kernel
theorem dX6_refuse_12 : decode cX6_refuse 12 = .ok (.iconst 1, 1) := by decide +kernel
theorem dX6_refuse_13 : decode cX6_refuse 13 = .ok (.goto 4, 3) := by decide +kernel
theorem dX6_refuse_16 : decode cX6_refuse 16 = .ok (.iconst 2, 1) := by decide +kernel
theorem dX6_refuse_17 : decode cX6_refuse 17 = .ok (.invokevirtual 77, 3) := by decide +kernel
theorem dX6_refuse_20 : decode cX6_refuse 20 = .ok (.ireturn, 1) := by decide +kernel
theorem dX6_refuseAs_0 : decode cX6_refuseAs 0 = .ok (.aload_n 0, 1) := by decide +kernel
theorem dX6_refuseAs_1 : decode cX6_refuseAs 1 = .ok (.iload_n 1, 1) := by decide +kernel
theorem dX6_refuseAs_2 : decode cX6_refuseAs 2 = .ok (.putfield 39, 3) := by decide +kernel
theorem dX6_refuseAs_5 : decode cX6_refuseAs 5 = .ok (.aload_n 0, 1) := by decide +kernel
theorem dX6_refuseAs_6 : decode cX6_refuseAs 6 = .ok (.aload_n 0, 1) := by decide +kernel
theorem dX6_refuseAs_7 : decode cX6_refuseAs 7 = .ok (.getfield 29, 3) := by decide +kernel
theorem dX6_refuseAs_10 : decode cX6_refuseAs 10 = .ok (.getfield 80, 3) := by decide +kernel
theorem dX6_refuseAs_13 : decode cX6_refuseAs 13 = .ok (.putfield 25, 3) := by decide +kernel
theorem dX6_refuseAs_16 : decode cX6_refuseAs 16 = .ok (.iconst 0, 1) := by decide +kernel
theorem dX6_refuseAs_17 : decode cX6_refuseAs 17 = .ok (.ireturn, 1) := by decide +kernel
theorem dX6_settingLine_0 : decode cX6_settingLine 0 = .ok (.aload_n 0, 1) := by decide +kernel
theorem dX6_settingLine_1 : decode cX6_settingLine 1 = .ok (.getfield 29, 3) := by decide +kernel
theorem dX6_settingLine_4 : decode cX6_settingLine 4 = .ok (.getfield 47, 3) := by decide +kernel
theorem dX6_settingLine_7 : decode cX6_settingLine 7 = .ok (.istore_n 2, 1) := by decide +kernel
theorem dX6_settingLine_8 : decode cX6_settingLine 8 = .ok (.aload_n 0, 1) := by decide +kernel
theorem dX6_settingLine_9 : decode cX6_settingLine 9 = .ok (.iload_n 2, 1) := by decide +kernel
theorem dX6_settingLine_10 : decode cX6_settingLine 10 = .ok (.invokevirtual 63, 3) := by decide +kernel
theorem dX6_settingLine_13 : decode cX6_settingLine 13 = .ok (.ifCond .eq 11, 3) := by decide +kernel
theorem dX6_settingLine_16 : decode cX6_settingLine 16 = .ok (.aload_n 0, 1) := by decide +kernel
theorem dX6_settingLine_17 : decode cX6_settingLine 17 = .ok (.iload_n 1, 1) := by decide +kernel
theorem dX6_settingLine_18 : decode cX6_settingLine 18 = .ok (.invokevirtual 114, 3) := by decide +kernel
theorem dX6_settingLine_21 : decode cX6_settingLine 21 = .ok (.goto 4, 3) := by decide +kernel
theorem dX6_settingLine_24 : decode cX6_settingLine 24 = .ok (.iconst (-1), 1) := by decide +kernel
theorem dX6_settingLine_25 : decode cX6_settingLine 25 = .ok (.istore_n 3, 1) := by decide +kernel
theorem dX6_settingLine_26 : decode cX6_settingLine 26 = .ok (.iload_n 3, 1) := by decide +kernel
theorem dX6_settingLine_27 : decode cX6_settingLine 27 = .ok (.ifCond .ge 5, 3) := by decide +kernel
theorem dX6_settingLine_30 : decode cX6_settingLine 30 = .ok (.iconst 0, 1) := by decide +kernel
theorem dX6_settingLine_31 : decode cX6_settingLine 31 = .ok (.ireturn, 1) := by decide +kernel
theorem dX6_settingLine_32 : decode cX6_settingLine 32 = .ok (.aload_n 0, 1) := by decide +kernel
theorem dX6_settingLine_33 : decode cX6_settingLine 33 = .ok (.getfield 12, 3) := by decide +kernel
theorem dX6_settingLine_36 : decode cX6_settingLine 36 = .ok (.iload_n 2, 1) := by decide +kernel
theorem dX6_settingLine_37 : decode cX6_settingLine 37 = .ok (.iload_n 3, 1) := by decide +kernel
theorem dX6_settingLine_38 : decode cX6_settingLine 38 = .ok (.invokevirtual 121, 3) := by decide +kernel
theorem dX6_settingLine_41 : decode cX6_settingLine 41 = .ok (.iconst 1, 1) := by decide +kernel
theorem dX6_settingLine_42 : decode cX6_settingLine 42 = .ok (.ireturn, 1) := by decide +kernel
theorem dX6_taken_0 : decode cX6_taken 0 = .ok (.aload_n 0, 1) := by decide +kernel
theorem dX6_taken_1 : decode cX6_taken 1 = .ok (.getfield 29, 3) := by decide +kernel
theorem dX6_taken_4 : decode cX6_taken 4 = .ok (.getfield 47, 3) := by decide +kernel
theorem dX6_taken_7 : decode cX6_taken 7 = .ok (.iload_n 1, 1) := by decide +kernel
theorem dX6_taken_8 : decode cX6_taken 8 = .ok (.if_icmp .eq 8, 3) := by decide +kernel
theorem dX6_taken_11 : decode cX6_taken 11 = .ok (.aload_n 0, 1) := by decide +kernel
theorem dX6_taken_12 : decode cX6_taken 12 = .ok (.invokevirtual 74, 3) := by decide +kernel
theorem dX6_taken_15 : decode cX6_taken 15 = .ok (.ireturn, 1) := by decide +kernel
theorem dX6_taken_16 : decode cX6_taken 16 = .ok (.aload_n 0, 1) := by decide +kernel
theorem dX6_taken_17 : decode cX6_taken 17 = .ok (.getfield 29, 3) := by decide +kernel
theorem dX6_taken_20 : decode cX6_taken 20 = .ok (.invokevirtual 86, 3) := by decide +kernel
theorem dX6_taken_23 : decode cX6_taken 23 = .ok (.iconst 1, 1) := by decide +kernel
theorem dX6_taken_24 : decode cX6_taken 24 = .ok (.ireturn, 1) := by decide +kernel
theorem dX6_unit_0 : decode cX6_unit 0 = .ok (.aload_n 0, 1) := by decide +kernel
theorem dX6_unit_1 : decode cX6_unit 1 = .ok (.getfield 29, 3) := by decide +kernel
theorem dX6_unit_4 : decode cX6_unit 4 = .ok (.getfield 47, 3) := by decide +kernel
theorem dX6_unit_7 : decode cX6_unit 7 = .ok (.istore_n 2, 1) := by decide +kernel
theorem dX6_unit_8 : decode cX6_unit 8 = .ok (.iload_n 2, 1) := by decide +kernel
theorem dX6_unit_9 : decode cX6_unit 9 = .ok (.iconst 2, 1) := by decide +kernel
theorem dX6_unit_10 : decode cX6_unit 10 = .ok (.if_icmp .eq 15, 3) := by decide +kernel
theorem dX6_unit_13 : decode cX6_unit 13 = .ok (.iload_n 2, 1) := by decide +kernel
theorem dX6_unit_14 : decode cX6_unit 14 = .ok (.bipush 116, 2) := by decide +kernel
theorem dX6_unit_16 : decode cX6_unit 16 = .ok (.if_icmp .lt 13, 3) := by decide +kernel
theorem dX6_unit_19 : decode cX6_unit 19 = .ok (.iload_n 2, 1) := by decide +kernel
theorem dX6_unit_20 : decode cX6_unit 20 = .ok (.bipush 121, 2) := by decide +kernel
theorem dX6_unit_22 : decode cX6_unit 22 = .ok (.if_icmp .gt 7, 3) := by decide +kernel
theorem dX6_unit_25 : decode cX6_unit 25 = .ok (.iconst 1, 1) := by decide +kernel
theorem dX6_unit_26 : decode cX6_unit 26 = .ok (.goto 4, 3) := by decide +kernel
theorem dX6_unit_29 : decode cX6_unit 29 = .ok (.iconst 0, 1) := by decide +kernel
theorem dX6_unit_30 : decode cX6_unit 30 = .ok (.istore_n 3, 1) := by decide +kernel
theorem dX6_unit_31 : decode cX6_unit 31 = .ok (.iload_n 3, 1) := by decide +kernel
theorem dX6_unit_32 : decode cX6_unit 32 = .ok (.ifCond .ne 9, 3) := by decide +kernel
theorem dX6_unit_35 : decode cX6_unit 35 = .ok (.iload_n 2, 1) := by decide +kernel
theorem dX6_unit_36 : decode cX6_unit 36 = .ok (.bipush 40, 2) := by decide +kernel
theorem dX6_unit_38 : decode cX6_unit 38 = .ok (.if_icmp .ne 18, 3) := by decide +kernel
theorem dX6_unit_41 : decode cX6_unit 41 = .ok (.aload_n 0, 1) := by decide +kernel
theorem dX6_unit_42 : decode cX6_unit 42 = .ok (.getfield 12, 3) := by decide +kernel
theorem dX6_unit_45 : decode cX6_unit 45 = .ok (.getfield 134, 3) := by decide +kernel
theorem dX6_unit_48 : decode cX6_unit 48 = .ok (.getfield 143, 3) := by decide +kernel
theorem dX6_unit_51 : decode cX6_unit 51 = .ok (.bipush 30, 2) := by decide +kernel
theorem dX6_unit_53 : decode cX6_unit 53 = .ok (.if_icmp .lt 8, 3) := by decide +kernel
theorem dX6_unit_56 : decode cX6_unit 56 = .ok (.aload_n 0, 1) := by decide +kernel
theorem dX6_unit_57 : decode cX6_unit 57 = .ok (.invokevirtual 74, 3) := by decide +kernel
theorem dX6_unit_60 : decode cX6_unit 60 = .ok (.ireturn, 1) := by decide +kernel
theorem dX6_unit_61 : decode cX6_unit 61 = .ok (.iload_n 3, 1) := by decide +kernel
theorem dX6_unit_62 : decode cX6_unit 62 = .ok (.ifCond .eq 46, 3) := by decide +kernel
theorem dX6_unit_65 : decode cX6_unit 65 = .ok (.aload_n 0, 1) := by decide +kernel
theorem dX6_unit_66 : decode cX6_unit 66 = .ok (.getfield 12, 3) := by decide +kernel
theorem dX6_unit_69 : decode cX6_unit 69 = .ok (.getfield 134, 3) := by decide +kernel
theorem dX6_unit_72 : decode cX6_unit 72 = .ok (.iload_n 2, 1) := by decide +kernel
theorem dX6_unit_73 : decode cX6_unit 73 = .ok (.aload_n 0, 1) := by decide +kernel
theorem dX6_unit_74 : decode cX6_unit 74 = .ok (.getfield 29, 3) := by decide +kernel
theorem dX6_unit_77 : decode cX6_unit 77 = .ok (.getfield 118, 3) := by decide +kernel
theorem dX6_unit_80 : decode cX6_unit 80 = .ok (.invokevirtual 138, 3) := by decide +kernel
theorem dX6_unit_83 : decode cX6_unit 83 = .ok (.aload_n 0, 1) := by decide +kernel
theorem dX6_unit_84 : decode cX6_unit 84 = .ok (.getfield 12, 3) := by decide +kernel
theorem dX6_unit_87 : decode cX6_unit 87 = .ok (.getfield 134, 3) := by decide +kernel
theorem dX6_unit_90 : decode cX6_unit 90 = .ok (.dup, 1) := by decide +kernel
theorem dX6_unit_91 : decode cX6_unit 91 = .ok (.getfield 143, 3) := by decide +kernel
theorem dX6_unit_94 : decode cX6_unit 94 = .ok (.iconst 1, 1) := by decide +kernel
theorem dX6_unit_95 : decode cX6_unit 95 = .ok (.iadd, 1) := by decide +kernel
theorem dX6_unit_96 : decode cX6_unit 96 = .ok (.putfield 143, 3) := by decide +kernel
theorem dX6_unit_99 : decode cX6_unit 99 = .ok (.aload_n 0, 1) := by decide +kernel
theorem dX6_unit_100 : decode cX6_unit 100 = .ok (.getfield 29, 3) := by decide +kernel
theorem dX6_unit_103 : decode cX6_unit 103 = .ok (.invokevirtual 86, 3) := by decide +kernel
theorem dX6_unit_106 : decode cX6_unit 106 = .ok (.iconst 1, 1) := by decide +kernel
theorem dX6_unit_107 : decode cX6_unit 107 = .ok (.ireturn, 1) := by decide +kernel
theorem dX6_unit_108 : decode cX6_unit 108 = .ok (.iload_n 1, 1) := by decide +kernel
theorem dX6_unit_109 : decode cX6_unit 109 = .ok (.bipush 7, 2) := by decide +kernel
theorem dX6_unit_111 : decode cX6_unit 111 = .ok (.if_icmp .lt 8, 3) := by decide +kernel
theorem dX6_unit_114 : decode cX6_unit 114 = .ok (.aload_n 0, 1) := by decide +kernel
theorem dX6_unit_115 : decode cX6_unit 115 = .ok (.invokevirtual 74, 3) := by decide +kernel
theorem dX6_unit_118 : decode cX6_unit 118 = .ok (.ireturn, 1) := by decide +kernel
theorem dX6_unit_119 : decode cX6_unit 119 = .ok (.aload_n 0, 1) := by decide +kernel
theorem dX6_unit_120 : decode cX6_unit 120 = .ok (.getfield 12, 3) := by decide +kernel
theorem dX6_unit_123 : decode cX6_unit 123 = .ok (.getfield 134, 3) := by decide +kernel
theorem dX6_unit_126 : decode cX6_unit 126 = .ok (.dup, 1) := by decide +kernel
theorem dX6_unit_127 : decode cX6_unit 127 = .ok (.getfield 143, 3) := by decide +kernel
theorem dX6_unit_130 : decode cX6_unit 130 = .ok (.iconst 1, 1) := by decide +kernel
theorem dX6_unit_131 : decode cX6_unit 131 = .ok (.iadd, 1) := by decide +kernel
theorem dX6_unit_132 : decode cX6_unit 132 = .ok (.putfield 143, 3) := by decide +kernel
theorem dX6_unit_135 : decode cX6_unit 135 = .ok (.aload_n 0, 1) := by decide +kernel
theorem dX6_unit_136 : decode cX6_unit 136 = .ok (.getfield 29, 3) := by decide +kernel
theorem dX6_unit_139 : decode cX6_unit 139 = .ok (.invokevirtual 86, 3) := by decide +kernel
theorem dX6_unit_142 : decode cX6_unit 142 = .ok (.aload_n 0, 1) := by decide +kernel
theorem dX6_unit_143 : decode cX6_unit 143 = .ok (.iconst 0, 1) := by decide +kernel
theorem dX6_unit_144 : decode cX6_unit 144 = .ok (.iload_n 1, 1) := by decide +kernel
theorem dX6_unit_145 : decode cX6_unit 145 = .ok (.iconst 1, 1) := by decide +kernel
theorem dX6_unit_146 : decode cX6_unit 146 = .ok (.iadd, 1) := by decide +kernel
theorem dX6_unit_147 : decode cX6_unit 147 = .ok (.invokevirtual 67, 3) := by decide +kernel
theorem dX6_unit_150 : decode cX6_unit 150 = .ok (.ifCond .eq 16, 3) := by decide +kernel
theorem dX6_unit_153 : decode cX6_unit 153 = .ok (.aload_n 0, 1) := by decide +kernel
theorem dX6_unit_154 : decode cX6_unit 154 = .ok (.bipush 41, 2) := by decide +kernel
theorem dX6_unit_156 : decode cX6_unit 156 = .ok (.invokevirtual 83, 3) := by decide +kernel
theorem dX6_unit_159 : decode cX6_unit 159 = .ok (.ifCond .eq 7, 3) := by decide +kernel
theorem dX6_unit_162 : decode cX6_unit 162 = .ok (.iconst 1, 1) := by decide +kernel
theorem dX6_unit_163 : decode cX6_unit 163 = .ok (.goto 4, 3) := by decide +kernel
theorem dX6_unit_166 : decode cX6_unit 166 = .ok (.iconst 0, 1) := by decide +kernel
theorem dX6_unit_167 : decode cX6_unit 167 = .ok (.ireturn, 1) := by decide +kernel
theorem dX7_addCoat_0 : decode cX7_addCoat 0 = .ok (.aload_n 0, 1) := by decide +kernel
theorem dX7_addCoat_1 : decode cX7_addCoat 1 = .ok (.getfield 32, 3) := by decide +kernel
theorem dX7_addCoat_4 : decode cX7_addCoat 4 = .ok (.bipush 6, 2) := by decide +kernel
theorem dX7_addCoat_6 : decode cX7_addCoat 6 = .ok (.if_icmp .ge 65, 3) := by decide +kernel
theorem dX7_addCoat_9 : decode cX7_addCoat 9 = .ok (.aload_n 0, 1) := by decide +kernel
theorem dX7_addCoat_10 : decode cX7_addCoat 10 = .ok (.getfield 15, 3) := by decide +kernel
theorem dX7_addCoat_13 : decode cX7_addCoat 13 = .ok (.iconst 0, 1) := by decide +kernel
theorem dX7_addCoat_14 : decode cX7_addCoat 14 = .ok (.aload_n 0, 1) := by decide +kernel
theorem dX7_addCoat_15 : decode cX7_addCoat 15 = .ok (.getfield 32, 3) := by decide +kernel
theorem dX7_addCoat_18 : decode cX7_addCoat 18 = .ok (.iadd, 1) := by decide +kernel
theorem dX7_addCoat_19 : decode cX7_addCoat 19 = .ok (.iload_n 1, 1) := by decide +kernel
theorem dX7_addCoat_20 : decode cX7_addCoat 20 = .ok (.iastore, 1) := by decide +kernel
theorem dX7_addCoat_21 : decode cX7_addCoat 21 = .ok (.aload_n 0, 1) := by decide +kernel
theorem dX7_addCoat_22 : decode cX7_addCoat 22 = .ok (.getfield 15, 3) := by decide +kernel
theorem dX7_addCoat_25 : decode cX7_addCoat 25 = .ok (.bipush 6, 2) := by decide +kernel
theorem dX7_addCoat_27 : decode cX7_addCoat 27 = .ok (.aload_n 0, 1) := by decide +kernel
theorem dX7_addCoat_28 : decode cX7_addCoat 28 = .ok (.getfield 32, 3) := by decide +kernel
theorem dX7_addCoat_31 : decode cX7_addCoat 31 = .ok (.iadd, 1) := by decide +kernel
theorem dX7_addCoat_32 : decode cX7_addCoat 32 = .ok (.iload_n 2, 1) := by decide +kernel
theorem dX7_addCoat_33 : decode cX7_addCoat 33 = .ok (.iastore, 1) := by decide +kernel
theorem dX7_addCoat_34 : decode cX7_addCoat 34 = .ok (.aload_n 0, 1) := by decide +kernel
theorem dX7_addCoat_35 : decode cX7_addCoat 35 = .ok (.getfield 15, 3) := by decide +kernel
theorem dX7_addCoat_38 : decode cX7_addCoat 38 = .ok (.bipush 12, 2) := by decide +kernel
theorem dX7_addCoat_40 : decode cX7_addCoat 40 = .ok (.aload_n 0, 1) := by decide +kernel
theorem dX7_addCoat_41 : decode cX7_addCoat 41 = .ok (.getfield 32, 3) := by decide +kernel
theorem dX7_addCoat_44 : decode cX7_addCoat 44 = .ok (.iadd, 1) := by decide +kernel
theorem dX7_addCoat_45 : decode cX7_addCoat 45 = .ok (.iload_n 3, 1) := by decide +kernel
theorem dX7_addCoat_46 : decode cX7_addCoat 46 = .ok (.iastore, 1) := by decide +kernel
theorem dX7_addCoat_47 : decode cX7_addCoat 47 = .ok (.aload_n 0, 1) := by decide +kernel
theorem dX7_addCoat_48 : decode cX7_addCoat 48 = .ok (.getfield 15, 3) := by decide +kernel
theorem dX7_addCoat_51 : decode cX7_addCoat 51 = .ok (.bipush 18, 2) := by decide +kernel
theorem dX7_addCoat_53 : decode cX7_addCoat 53 = .ok (.aload_n 0, 1) := by decide +kernel
theorem dX7_addCoat_54 : decode cX7_addCoat 54 = .ok (.getfield 32, 3) := by decide +kernel
theorem dX7_addCoat_57 : decode cX7_addCoat 57 = .ok (.iadd, 1) := by decide +kernel
theorem dX7_addCoat_58 : decode cX7_addCoat 58 = .ok (.iload 4, 2) := by decide +kernel
theorem dX7_addCoat_60 : decode cX7_addCoat 60 = .ok (.iastore, 1) := by decide +kernel
theorem dX7_addCoat_61 : decode cX7_addCoat 61 = .ok (.aload_n 0, 1) := by decide +kernel
theorem dX7_addCoat_62 : decode cX7_addCoat 62 = .ok (.dup, 1) := by decide +kernel
theorem dX7_addCoat_63 : decode cX7_addCoat 63 = .ok (.getfield 32, 3) := by decide +kernel
theorem dX7_addCoat_66 : decode cX7_addCoat 66 = .ok (.iconst 1, 1) := by decide +kernel
theorem dX7_addCoat_67 : decode cX7_addCoat 67 = .ok (.iadd, 1) := by decide +kernel
theorem dX7_addCoat_68 : decode cX7_addCoat 68 = .ok (.putfield 32, 3) := by decide +kernel
theorem dX7_addCoat_71 : decode cX7_addCoat 71 = .ok (.return_, 1) := by decide +kernel
theorem dX7_addMan_0 : decode cX7_addMan 0 = .ok (.aload_n 0, 1) := by decide +kernel
theorem dX7_addMan_1 : decode cX7_addMan 1 = .ok (.getfield 28, 3) := by decide +kernel
theorem dX7_addMan_4 : decode cX7_addMan 4 = .ok (.bipush 6, 2) := by decide +kernel
theorem dX7_addMan_6 : decode cX7_addMan 6 = .ok (.if_icmp .ge 51, 3) := by decide +kernel
theorem dX7_addMan_9 : decode cX7_addMan 9 = .ok (.aload_n 0, 1) := by decide +kernel
theorem dX7_addMan_10 : decode cX7_addMan 10 = .ok (.getfield 9, 3) := by decide +kernel
theorem dX7_addMan_13 : decode cX7_addMan 13 = .ok (.iconst 0, 1) := by decide +kernel
theorem dX7_addMan_14 : decode cX7_addMan 14 = .ok (.aload_n 0, 1) := by decide +kernel
theorem dX7_addMan_15 : decode cX7_addMan 15 = .ok (.getfield 28, 3) := by decide +kernel
theorem dX7_addMan_18 : decode cX7_addMan 18 = .ok (.iadd, 1) := by decide +kernel
theorem dX7_addMan_19 : decode cX7_addMan 19 = .ok (.iload_n 1, 1) := by decide +kernel
theorem dX7_addMan_20 : decode cX7_addMan 20 = .ok (.iastore, 1) := by decide +kernel
theorem dX7_addMan_21 : decode cX7_addMan 21 = .ok (.aload_n 0, 1) := by decide +kernel
theorem dX7_addMan_22 : decode cX7_addMan 22 = .ok (.getfield 9, 3) := by decide +kernel
theorem dX7_addMan_25 : decode cX7_addMan 25 = .ok (.bipush 6, 2) := by decide +kernel
theorem dX7_addMan_27 : decode cX7_addMan 27 = .ok (.aload_n 0, 1) := by decide +kernel
theorem dX7_addMan_28 : decode cX7_addMan 28 = .ok (.getfield 28, 3) := by decide +kernel
theorem dX7_addMan_31 : decode cX7_addMan 31 = .ok (.iadd, 1) := by decide +kernel
theorem dX7_addMan_32 : decode cX7_addMan 32 = .ok (.iload_n 2, 1) := by decide +kernel
theorem dX7_addMan_33 : decode cX7_addMan 33 = .ok (.iastore, 1) := by decide +kernel
theorem dX7_addMan_34 : decode cX7_addMan 34 = .ok (.aload_n 0, 1) := by decide +kernel
theorem dX7_addMan_35 : decode cX7_addMan 35 = .ok (.getfield 9, 3) := by decide +kernel
theorem dX7_addMan_38 : decode cX7_addMan 38 = .ok (.bipush 12, 2) := by decide +kernel
theorem dX7_addMan_40 : decode cX7_addMan 40 = .ok (.aload_n 0, 1) := by decide +kernel
theorem dX7_addMan_41 : decode cX7_addMan 41 = .ok (.getfield 28, 3) := by decide +kernel
theorem dX7_addMan_44 : decode cX7_addMan 44 = .ok (.iadd, 1) := by decide +kernel
theorem dX7_addMan_45 : decode cX7_addMan 45 = .ok (.iload_n 3, 1) := by decide +kernel
theorem dX7_addMan_46 : decode cX7_addMan 46 = .ok (.iastore, 1) := by decide +kernel
theorem dX7_addMan_47 : decode cX7_addMan 47 = .ok (.aload_n 0, 1) := by decide +kernel
theorem dX7_addMan_48 : decode cX7_addMan 48 = .ok (.dup, 1) := by decide +kernel
theorem dX7_addMan_49 : decode cX7_addMan 49 = .ok (.getfield 28, 3) := by decide +kernel
theorem dX7_addMan_52 : decode cX7_addMan 52 = .ok (.iconst 1, 1) := by decide +kernel
theorem dX7_addMan_53 : decode cX7_addMan 53 = .ok (.iadd, 1) := by decide +kernel
theorem dX7_addMan_54 : decode cX7_addMan 54 = .ok (.putfield 28, 3) := by decide +kernel
theorem dX7_addMan_57 : decode cX7_addMan 57 = .ok (.return_, 1) := by decide +kernel
theorem dX7_clear_0 : decode cX7_clear 0 = .ok (.aload_n 0, 1) := by decide +kernel
theorem dX7_clear_1 : decode cX7_clear 1 = .ok (.iconst 0, 1) := by decide +kernel
theorem dX7_clear_2 : decode cX7_clear 2 = .ok (.putfield 28, 3) := by decide +kernel
theorem dX7_clear_5 : decode cX7_clear 5 = .ok (.aload_n 0, 1) := by decide +kernel
theorem dX7_clear_6 : decode cX7_clear 6 = .ok (.iconst 0, 1) := by decide +kernel
theorem dX7_clear_7 : decode cX7_clear 7 = .ok (.putfield 32, 3) := by decide +kernel
theorem dX7_clear_10 : decode cX7_clear 10 = .ok (.aload_n 0, 1) := by decide +kernel
theorem dX7_clear_11 : decode cX7_clear 11 = .ok (.getfield 21, 3) := by decide +kernel
theorem dX7_clear_14 : decode cX7_clear 14 = .ok (.invokevirtual 35, 3) := by decide +kernel
theorem dX7_clear_17 : decode cX7_clear 17 = .ok (.aload_n 0, 1) := by decide +kernel
theorem dX7_clear_18 : decode cX7_clear 18 = .ok (.invokevirtual 25, 3) := by decide +kernel
theorem dX7_clear_21 : decode cX7_clear 21 = .ok (.return_, 1) := by decide +kernel
theorem dX7_coatPart_0 : decode cX7_coatPart 0 = .ok (.aload_n 0, 1) := by decide +kernel
theorem dX7_coatPart_1 : decode cX7_coatPart 1 = .ok (.iload_n 2, 1) := by decide +kernel
theorem dX7_coatPart_2 : decode cX7_coatPart 2 = .ok (.invokevirtual 67, 3) := by decide +kernel
theorem dX7_coatPart_5 : decode cX7_coatPart 5 = .ok (.ifCond .eq 26, 3) := by decide +kernel
theorem dX7_coatPart_8 : decode cX7_coatPart 8 = .ok (.iload_n 1, 1) := by decide +kernel
theorem dX7_coatPart_9 : decode cX7_coatPart 9 = .ok (.ifCond .lt 22, 3) := by decide +kernel
theorem dX7_coatPart_12 : decode cX7_coatPart 12 = .ok (.iload_n 1, 1) := by decide +kernel
theorem dX7_coatPart_13 : decode cX7_coatPart 13 = .ok (.iconst 4, 1) := by decide +kernel
theorem dX7_coatPart_14 : decode cX7_coatPart 14 = .ok (.if_icmp .ge 17, 3) := by decide +kernel
theorem dX7_coatPart_17 : decode cX7_coatPart 17 = .ok (.aload_n 0, 1) := by decide +kernel
theorem dX7_coatPart_18 : decode cX7_coatPart 18 = .ok (.getfield 15, 3) := by decide +kernel
theorem dX7_coatPart_21 : decode cX7_coatPart 21 = .ok (.iload_n 1, 1) := by decide +kernel
theorem dX7_coatPart_22 : decode cX7_coatPart 22 = .ok (.bipush 6, 2) := by decide +kernel
theorem dX7_coatPart_24 : decode cX7_coatPart 24 = .ok (.imul, 1) := by decide +kernel
theorem dX7_coatPart_25 : decode cX7_coatPart 25 = .ok (.iload_n 2, 1) := by decide +kernel
theorem dX7_coatPart_26 : decode cX7_coatPart 26 = .ok (.iadd, 1) := by decide +kernel
theorem dX7_coatPart_27 : decode cX7_coatPart 27 = .ok (.iaload, 1) := by decide +kernel
theorem dX7_coatPart_28 : decode cX7_coatPart 28 = .ok (.goto 4, 3) := by decide +kernel
theorem dX7_coatPart_31 : decode cX7_coatPart 31 = .ok (.iconst 0, 1) := by decide +kernel
theorem dX7_coatPart_32 : decode cX7_coatPart 32 = .ok (.ireturn, 1) := by decide +kernel
theorem dX7_copy_0 : decode cX7_copy 0 = .ok (.aload_n 1, 1) := by decide +kernel
theorem dX7_copy_1 : decode cX7_copy 1 = .ok (.getfield 9, 3) := by decide +kernel
theorem dX7_copy_4 : decode cX7_copy 4 = .ok (.iconst 0, 1) := by decide +kernel
theorem dX7_copy_5 : decode cX7_copy 5 = .ok (.aload_n 0, 1) := by decide +kernel
theorem dX7_copy_6 : decode cX7_copy 6 = .ok (.getfield 9, 3) := by decide +kernel
theorem dX7_copy_9 : decode cX7_copy 9 = .ok (.iconst 0, 1) := by decide +kernel
theorem dX7_copy_10 : decode cX7_copy 10 = .ok (.aload_n 0, 1) := by decide +kernel
theorem dX7_copy_11 : decode cX7_copy 11 = .ok (.getfield 9, 3) := by decide +kernel
theorem dX7_copy_14 : decode cX7_copy 14 = .ok (.arraylength, 1) := by decide +kernel
theorem dX7_copy_15 : decode cX7_copy 15 = .ok (.invokestatic 53, 3) := by decide +kernel
theorem dX7_copy_18 : decode cX7_copy 18 = .ok (.aload_n 1, 1) := by decide +kernel
theorem dX7_copy_19 : decode cX7_copy 19 = .ok (.getfield 15, 3) := by decide +kernel
theorem dX7_copy_22 : decode cX7_copy 22 = .ok (.iconst 0, 1) := by decide +kernel
theorem dX7_copy_23 : decode cX7_copy 23 = .ok (.aload_n 0, 1) := by decide +kernel
theorem dX7_copy_24 : decode cX7_copy 24 = .ok (.getfield 15, 3) := by decide +kernel
theorem dX7_copy_27 : decode cX7_copy 27 = .ok (.iconst 0, 1) := by decide +kernel
theorem dX7_copy_28 : decode cX7_copy 28 = .ok (.aload_n 0, 1) := by decide +kernel
theorem dX7_copy_29 : decode cX7_copy 29 = .ok (.getfield 15, 3) := by decide +kernel
theorem dX7_copy_32 : decode cX7_copy 32 = .ok (.arraylength, 1) := by decide +kernel
theorem dX7_copy_33 : decode cX7_copy 33 = .ok (.invokestatic 53, 3) := by decide +kernel
theorem dX7_copy_36 : decode cX7_copy 36 = .ok (.aload_n 0, 1) := by decide +kernel
theorem dX7_copy_37 : decode cX7_copy 37 = .ok (.getfield 21, 3) := by decide +kernel
theorem dX7_copy_40 : decode cX7_copy 40 = .ok (.aload_n 1, 1) := by decide +kernel
theorem dX7_copy_41 : decode cX7_copy 41 = .ok (.getfield 21, 3) := by decide +kernel
theorem dX7_copy_44 : decode cX7_copy 44 = .ok (.invokevirtual 59, 3) := by decide +kernel
theorem dX7_copy_47 : decode cX7_copy 47 = .ok (.aload_n 0, 1) := by decide +kernel
theorem dX7_copy_48 : decode cX7_copy 48 = .ok (.aload_n 1, 1) := by decide +kernel
theorem dX7_copy_49 : decode cX7_copy 49 = .ok (.getfield 28, 3) := by decide +kernel
theorem dX7_copy_52 : decode cX7_copy 52 = .ok (.putfield 28, 3) := by decide +kernel
theorem dX7_copy_55 : decode cX7_copy 55 = .ok (.aload_n 0, 1) := by decide +kernel
theorem dX7_copy_56 : decode cX7_copy 56 = .ok (.aload_n 1, 1) := by decide +kernel
theorem dX7_copy_57 : decode cX7_copy 57 = .ok (.getfield 32, 3) := by decide +kernel
theorem dX7_copy_60 : decode cX7_copy 60 = .ok (.putfield 32, 3) := by decide +kernel
theorem dX7_copy_63 : decode cX7_copy 63 = .ok (.aload_n 0, 1) := by decide +kernel
theorem dX7_copy_64 : decode cX7_copy 64 = .ok (.aload_n 1, 1) := by decide +kernel
theorem dX7_copy_65 : decode cX7_copy 65 = .ok (.getfield 38, 3) := by decide +kernel
theorem dX7_copy_68 : decode cX7_copy 68 = .ok (.putfield 38, 3) := by decide +kernel
theorem dX7_copy_71 : decode cX7_copy 71 = .ok (.aload_n 0, 1) := by decide +kernel
theorem dX7_copy_72 : decode cX7_copy 72 = .ok (.aload_n 1, 1) := by decide +kernel
theorem dX7_copy_73 : decode cX7_copy 73 = .ok (.getfield 41, 3) := by decide +kernel
theorem dX7_copy_76 : decode cX7_copy 76 = .ok (.putfield 41, 3) := by decide +kernel
theorem dX7_copy_79 : decode cX7_copy 79 = .ok (.aload_n 0, 1) := by decide +kernel
theorem dX7_copy_80 : decode cX7_copy 80 = .ok (.aload_n 1, 1) := by decide +kernel
theorem dX7_copy_81 : decode cX7_copy 81 = .ok (.getfield 44, 3) := by decide +kernel
theorem dX7_copy_84 : decode cX7_copy 84 = .ok (.putfield 44, 3) := by decide +kernel
theorem dX7_copy_87 : decode cX7_copy 87 = .ok (.aload_n 0, 1) := by decide +kernel
theorem dX7_copy_88 : decode cX7_copy 88 = .ok (.aload_n 1, 1) := by decide +kernel
theorem dX7_copy_89 : decode cX7_copy 89 = .ok (.getfield 47, 3) := by decide +kernel
theorem dX7_copy_92 : decode cX7_copy 92 = .ok (.putfield 47, 3) := by decide +kernel
theorem dX7_copy_95 : decode cX7_copy 95 = .ok (.aload_n 0, 1) := by decide +kernel
theorem dX7_copy_96 : decode cX7_copy 96 = .ok (.aload_n 1, 1) := by decide +kernel
theorem dX7_copy_97 : decode cX7_copy 97 = .ok (.getfield 50, 3) := by decide +kernel
theorem dX7_copy_100 : decode cX7_copy 100 = .ok (.putfield 50, 3) := by decide +kernel
theorem dX7_copy_103 : decode cX7_copy 103 = .ok (.return_, 1) := by decide +kernel
theorem dX7_hasCoat_0 : decode cX7_hasCoat 0 = .ok (.iload_n 1, 1) := by decide +kernel
theorem dX7_hasCoat_1 : decode cX7_hasCoat 1 = .ok (.ifCond .lt 15, 3) := by decide +kernel
theorem dX7_hasCoat_4 : decode cX7_hasCoat 4 = .ok (.iload_n 1, 1) := by decide +kernel
theorem dX7_hasCoat_5 : decode cX7_hasCoat 5 = .ok (.aload_n 0, 1) := by decide +kernel
theorem dX7_hasCoat_6 : decode cX7_hasCoat 6 = .ok (.getfield 32, 3) := by decide +kernel
theorem dX7_hasCoat_9 : decode cX7_hasCoat 9 = .ok (.if_icmp .ge 7, 3) := by decide +kernel
theorem dX7_hasCoat_12 : decode cX7_hasCoat 12 = .ok (.iconst 1, 1) := by decide +kernel
theorem dX7_hasCoat_13 : decode cX7_hasCoat 13 = .ok (.goto 4, 3) := by decide +kernel
theorem dX7_hasCoat_16 : decode cX7_hasCoat 16 = .ok (.iconst 0, 1) := by decide +kernel
theorem dX7_hasCoat_17 : decode cX7_hasCoat 17 = .ok (.ireturn, 1) := by decide +kernel
theorem dX7_hasMan_0 : decode cX7_hasMan 0 = .ok (.iload_n 1, 1) := by decide +kernel
theorem dX7_hasMan_1 : decode cX7_hasMan 1 = .ok (.ifCond .lt 15, 3) := by decide +kernel
theorem dX7_hasMan_4 : decode cX7_hasMan 4 = .ok (.iload_n 1, 1) := by decide +kernel
theorem dX7_hasMan_5 : decode cX7_hasMan 5 = .ok (.aload_n 0, 1) := by decide +kernel
theorem dX7_hasMan_6 : decode cX7_hasMan 6 = .ok (.getfield 28, 3) := by decide +kernel
theorem dX7_hasMan_9 : decode cX7_hasMan 9 = .ok (.if_icmp .ge 7, 3) := by decide +kernel
theorem dX7_hasMan_12 : decode cX7_hasMan 12 = .ok (.iconst 1, 1) := by decide +kernel
theorem dX7_hasMan_13 : decode cX7_hasMan 13 = .ok (.goto 4, 3) := by decide +kernel
theorem dX7_hasMan_16 : decode cX7_hasMan 16 = .ok (.iconst 0, 1) := by decide +kernel
theorem dX7_hasMan_17 : decode cX7_hasMan 17 = .ok (.ireturn, 1) := by decide +kernel
theorem dX7_init_0 : decode cX7_init 0 = .ok (.aload_n 0, 1) := by decide +kernel
theorem dX7_init_1 : decode cX7_init 1 = .ok (.invokespecial 3, 3) := by decide +kernel
theorem dX7_init_4 : decode cX7_init 4 = .ok (.aload_n 0, 1) := by decide +kernel
theorem dX7_init_5 : decode cX7_init 5 = .ok (.bipush 18, 2) := by decide +kernel
theorem dX7_init_7 : decode cX7_init 7 = .ok (.newarray .int, 2) := by decide +kernel
theorem dX7_init_9 : decode cX7_init 9 = .ok (.putfield 9, 3) := by decide +kernel
theorem dX7_init_12 : decode cX7_init 12 = .ok (.aload_n 0, 1) := by decide +kernel
theorem dX7_init_13 : decode cX7_init 13 = .ok (.bipush 24, 2) := by decide +kernel
theorem dX7_init_15 : decode cX7_init 15 = .ok (.newarray .int, 2) := by decide +kernel
theorem dX7_init_17 : decode cX7_init 17 = .ok (.putfield 15, 3) := by decide +kernel
theorem dX7_init_20 : decode cX7_init 20 = .ok (.aload_n 0, 1) := by decide +kernel
theorem dX7_init_21 : decode cX7_init 21 = .ok (.new 18, 3) := by decide +kernel
theorem dX7_init_24 : decode cX7_init 24 = .ok (.dup, 1) := by decide +kernel
theorem dX7_init_25 : decode cX7_init 25 = .ok (.invokespecial 20, 3) := by decide +kernel
theorem dX7_init_28 : decode cX7_init 28 = .ok (.putfield 21, 3) := by decide +kernel
theorem dX7_init_31 : decode cX7_init 31 = .ok (.aload_n 0, 1) := by decide +kernel
theorem dX7_init_32 : decode cX7_init 32 = .ok (.invokevirtual 25, 3) := by decide +kernel
theorem dX7_init_35 : decode cX7_init 35 = .ok (.return_, 1) := by decide +kernel
theorem dX7_manPart_0 : decode cX7_manPart 0 = .ok (.aload_n 0, 1) := by decide +kernel
theorem dX7_manPart_1 : decode cX7_manPart 1 = .ok (.iload_n 2, 1) := by decide +kernel
theorem dX7_manPart_2 : decode cX7_manPart 2 = .ok (.invokevirtual 63, 3) := by decide +kernel
theorem dX7_manPart_5 : decode cX7_manPart 5 = .ok (.ifCond .eq 26, 3) := by decide +kernel
theorem dX7_manPart_8 : decode cX7_manPart 8 = .ok (.iload_n 1, 1) := by decide +kernel
theorem dX7_manPart_9 : decode cX7_manPart 9 = .ok (.ifCond .lt 22, 3) := by decide +kernel
theorem dX7_manPart_12 : decode cX7_manPart 12 = .ok (.iload_n 1, 1) := by decide +kernel
theorem dX7_manPart_13 : decode cX7_manPart 13 = .ok (.iconst 3, 1) := by decide +kernel
theorem dX7_manPart_14 : decode cX7_manPart 14 = .ok (.if_icmp .ge 17, 3) := by decide +kernel
theorem dX7_manPart_17 : decode cX7_manPart 17 = .ok (.aload_n 0, 1) := by decide +kernel
theorem dX7_manPart_18 : decode cX7_manPart 18 = .ok (.getfield 9, 3) := by decide +kernel
theorem dX7_manPart_21 : decode cX7_manPart 21 = .ok (.iload_n 1, 1) := by decide +kernel
theorem dX7_manPart_22 : decode cX7_manPart 22 = .ok (.bipush 6, 2) := by decide +kernel
theorem dX7_manPart_24 : decode cX7_manPart 24 = .ok (.imul, 1) := by decide +kernel
theorem dX7_manPart_25 : decode cX7_manPart 25 = .ok (.iload_n 2, 1) := by decide +kernel
theorem dX7_manPart_26 : decode cX7_manPart 26 = .ok (.iadd, 1) := by decide +kernel
theorem dX7_manPart_27 : decode cX7_manPart 27 = .ok (.iaload, 1) := by decide +kernel
theorem dX7_manPart_28 : decode cX7_manPart 28 = .ok (.goto 4, 3) := by decide +kernel
theorem dX7_manPart_31 : decode cX7_manPart 31 = .ok (.iconst 0, 1) := by decide +kernel
theorem dX7_manPart_32 : decode cX7_manPart 32 = .ok (.ireturn, 1) := by decide +kernel
theorem dX7_set_0 : decode cX7_set 0 = .ok (.iload_n 1, 1) := by decide +kernel
theorem dX7_set_1 : decode cX7_set 1 = .ok (.tableswitch 63 104 107 #[31, 39, 47, 55], 31) := by decide +kernel
theorem dX7_set_32 : decode cX7_set 32 = .ok (.aload_n 0, 1) := by decide +kernel
theorem dX7_set_33 : decode cX7_set 33 = .ok (.iload_n 2, 1) := by decide +kernel
theorem dX7_set_34 : decode cX7_set 34 = .ok (.putfield 38, 3) := by decide +kernel
theorem dX7_set_37 : decode cX7_set 37 = .ok (.goto 32, 3) := by decide +kernel
theorem dX7_set_40 : decode cX7_set 40 = .ok (.aload_n 0, 1) := by decide +kernel
theorem dX7_set_41 : decode cX7_set 41 = .ok (.iload_n 2, 1) := by decide +kernel
theorem dX7_set_42 : decode cX7_set 42 = .ok (.putfield 41, 3) := by decide +kernel
theorem dX7_set_45 : decode cX7_set 45 = .ok (.goto 24, 3) := by decide +kernel
theorem dX7_set_48 : decode cX7_set 48 = .ok (.aload_n 0, 1) := by decide +kernel
theorem dX7_set_49 : decode cX7_set 49 = .ok (.iload_n 2, 1) := by decide +kernel
theorem dX7_set_50 : decode cX7_set 50 = .ok (.putfield 44, 3) := by decide +kernel
theorem dX7_set_53 : decode cX7_set 53 = .ok (.goto 16, 3) := by decide +kernel
theorem dX7_set_56 : decode cX7_set 56 = .ok (.aload_n 0, 1) := by decide +kernel
theorem dX7_set_57 : decode cX7_set 57 = .ok (.iload_n 2, 1) := by decide +kernel
theorem dX7_set_58 : decode cX7_set 58 = .ok (.putfield 47, 3) := by decide +kernel
theorem dX7_set_61 : decode cX7_set 61 = .ok (.goto 8, 3) := by decide +kernel
theorem dX7_set_64 : decode cX7_set 64 = .ok (.aload_n 0, 1) := by decide +kernel
theorem dX7_set_65 : decode cX7_set 65 = .ok (.iload_n 2, 1) := by decide +kernel
theorem dX7_set_66 : decode cX7_set 66 = .ok (.putfield 50, 3) := by decide +kernel
theorem dX7_set_69 : decode cX7_set 69 = .ok (.return_, 1) := by decide +kernel
theorem dX7_setDefaults_0 : decode cX7_setDefaults 0 = .ok (.aload_n 0, 1) := by decide +kernel
theorem dX7_setDefaults_1 : decode cX7_setDefaults 1 = .ok (.bipush 10, 2) := by decide +kernel
theorem dX7_setDefaults_3 : decode cX7_setDefaults 3 = .ok (.putfield 38, 3) := by decide +kernel
theorem dX7_setDefaults_6 : decode cX7_setDefaults 6 = .ok (.aload_n 0, 1) := by decide +kernel
theorem dX7_setDefaults_7 : decode cX7_setDefaults 7 = .ok (.sipush 150, 3) := by decide +kernel
theorem dX7_setDefaults_10 : decode cX7_setDefaults 10 = .ok (.putfield 41, 3) := by decide +kernel
theorem dX7_setDefaults_13 : decode cX7_setDefaults 13 = .ok (.aload_n 0, 1) := by decide +kernel
theorem dX7_setDefaults_14 : decode cX7_setDefaults 14 = .ok (.iconst 2, 1) := by decide +kernel
theorem dX7_setDefaults_15 : decode cX7_setDefaults 15 = .ok (.putfield 44, 3) := by decide +kernel
theorem dX7_setDefaults_18 : decode cX7_setDefaults 18 = .ok (.aload_n 0, 1) := by decide +kernel
theorem dX7_setDefaults_19 : decode cX7_setDefaults 19 = .ok (.iconst 0, 1) := by decide +kernel
theorem dX7_setDefaults_20 : decode cX7_setDefaults 20 = .ok (.putfield 47, 3) := by decide +kernel
theorem dX7_setDefaults_23 : decode cX7_setDefaults 23 = .ok (.aload_n 0, 1) := by decide +kernel
theorem dX7_setDefaults_24 : decode cX7_setDefaults 24 = .ok (.iconst 0, 1) := by decide +kernel
theorem dX7_setDefaults_25 : decode cX7_setDefaults 25 = .ok (.putfield 50, 3) := by decide +kernel
theorem dX7_setDefaults_28 : decode cX7_setDefaults 28 = .ok (.return_, 1) := by decide +kernel
theorem dX8_bestQuestion_0 : decode cX8_bestQuestion 0 = .ok (.iconst 0, 1) := by decide +kernel
theorem dX8_bestQuestion_1 : decode cX8_bestQuestion 1 = .ok (.istore_n 2, 1) := by decide +kernel
theorem dX8_bestQuestion_2 : decode cX8_bestQuestion 2 = .ok (.iconst 1, 1) := by decide +kernel
theorem dX8_bestQuestion_3 : decode cX8_bestQuestion 3 = .ok (.istore_n 3, 1) := by decide +kernel
theorem dX8_bestQuestion_4 : decode cX8_bestQuestion 4 = .ok (.iload_n 3, 1) := by decide +kernel
theorem dX8_bestQuestion_5 : decode cX8_bestQuestion 5 = .ok (.bipush 20, 2) := by decide +kernel
theorem dX8_bestQuestion_7 : decode cX8_bestQuestion 7 = .ok (.if_icmp .gt 26, 3) := by decide +kernel
theorem dX8_bestQuestion_10 : decode cX8_bestQuestion 10 = .ok (.aload_n 0, 1) := by decide +kernel
theorem dX8_bestQuestion_11 : decode cX8_bestQuestion 11 = .ok (.iload_n 1, 1) := by decide +kernel
theorem dX8_bestQuestion_12 : decode cX8_bestQuestion 12 = .ok (.iload_n 3, 1) := by decide +kernel
theorem dX8_bestQuestion_13 : decode cX8_bestQuestion 13 = .ok (.invokevirtual 84, 3) := by decide +kernel
theorem dX8_bestQuestion_16 : decode cX8_bestQuestion 16 = .ok (.aload_n 0, 1) := by decide +kernel
theorem dX8_bestQuestion_17 : decode cX8_bestQuestion 17 = .ok (.iload_n 1, 1) := by decide +kernel
theorem dX8_bestQuestion_18 : decode cX8_bestQuestion 18 = .ok (.iload_n 2, 1) := by decide +kernel
theorem dX8_bestQuestion_19 : decode cX8_bestQuestion 19 = .ok (.invokevirtual 84, 3) := by decide +kernel
theorem dX8_bestQuestion_22 : decode cX8_bestQuestion 22 = .ok (.if_icmp .ge 5, 3) := by decide +kernel
theorem dX8_bestQuestion_25 : decode cX8_bestQuestion 25 = .ok (.iload_n 3, 1) := by decide +kernel
theorem dX8_bestQuestion_26 : decode cX8_bestQuestion 26 = .ok (.istore_n 2, 1) := by decide +kernel
theorem dX8_bestQuestion_27 : decode cX8_bestQuestion 27 = .ok (.iinc 3 1, 3) := by decide +kernel
theorem dX8_bestQuestion_30 : decode cX8_bestQuestion 30 = .ok (.goto (-26), 3) := by decide +kernel
theorem dX8_bestQuestion_33 : decode cX8_bestQuestion 33 = .ok (.iload_n 2, 1) := by decide +kernel
theorem dX8_bestQuestion_34 : decode cX8_bestQuestion 34 = .ok (.ireturn, 1) := by decide +kernel
theorem dX8_clear_0 : decode cX8_clear 0 = .ok (.aload_n 0, 1) := by decide +kernel
theorem dX8_clear_1 : decode cX8_clear 1 = .ok (.iconst 0, 1) := by decide +kernel
theorem dX8_clear_2 : decode cX8_clear 2 = .ok (.putfield 38, 3) := by decide +kernel
theorem dX8_clear_5 : decode cX8_clear 5 = .ok (.aload_n 0, 1) := by decide +kernel
theorem dX8_clear_6 : decode cX8_clear 6 = .ok (.getfield 25, 3) := by decide +kernel
theorem dX8_clear_9 : decode cX8_clear 9 = .ok (.iconst (-1), 1) := by decide +kernel
theorem dX8_clear_10 : decode cX8_clear 10 = .ok (.invokestatic 32, 3) := by decide +kernel
theorem dX8_clear_13 : decode cX8_clear 13 = .ok (.return_, 1) := by decide +kernel
theorem dX8_fitsGrown_0 : decode cX8_fitsGrown 0 = .ok (.bipush 99, 2) := by decide +kernel
theorem dX8_fitsGrown_2 : decode cX8_fitsGrown 2 = .ok (.aload_n 0, 1) := by decide +kernel
theorem dX8_fitsGrown_3 : decode cX8_fitsGrown 3 = .ok (.getfield 28, 3) := by decide +kernel
theorem dX8_fitsGrown_6 : decode cX8_fitsGrown 6 = .ok (.iconst 1, 1) := by decide +kernel
theorem dX8_fitsGrown_7 : decode cX8_fitsGrown 7 = .ok (.iconst 0, 1) := by decide +kernel
theorem dX8_fitsGrown_8 : decode cX8_fitsGrown 8 = .ok (.invokevirtual 59, 3) := by decide +kernel
theorem dX8_fitsGrown_11 : decode cX8_fitsGrown 11 = .ok (.iload_n 1, 1) := by decide +kernel
theorem dX8_fitsGrown_12 : decode cX8_fitsGrown 12 = .ok (.iload_n 2, 1) := by decide +kernel
theorem dX8_fitsGrown_13 : decode cX8_fitsGrown 13 = .ok (.imul, 1) := by decide +kernel
theorem dX8_fitsGrown_14 : decode cX8_fitsGrown 14 = .ok (.iadd, 1) := by decide +kernel
theorem dX8_fitsGrown_15 : decode cX8_fitsGrown 15 = .ok (.invokestatic 63, 3) := by decide +kernel
theorem dX8_fitsGrown_18 : decode cX8_fitsGrown 18 = .ok (.istore_n 3, 1) := by decide +kernel
theorem dX8_fitsGrown_19 : decode cX8_fitsGrown 19 = .ok (.bipush 99, 2) := by decide +kernel
theorem dX8_fitsGrown_21 : decode cX8_fitsGrown 21 = .ok (.aload_n 0, 1) := by decide +kernel
theorem dX8_fitsGrown_22 : decode cX8_fitsGrown 22 = .ok (.getfield 28, 3) := by decide +kernel
theorem dX8_fitsGrown_25 : decode cX8_fitsGrown 25 = .ok (.iconst 3, 1) := by decide +kernel
theorem dX8_fitsGrown_26 : decode cX8_fitsGrown 26 = .ok (.iconst 0, 1) := by decide +kernel
theorem dX8_fitsGrown_27 : decode cX8_fitsGrown 27 = .ok (.invokevirtual 68, 3) := by decide +kernel
theorem dX8_fitsGrown_30 : decode cX8_fitsGrown 30 = .ok (.iload_n 2, 1) := by decide +kernel
theorem dX8_fitsGrown_31 : decode cX8_fitsGrown 31 = .ok (.iadd, 1) := by decide +kernel
theorem dX8_fitsGrown_32 : decode cX8_fitsGrown 32 = .ok (.invokestatic 63, 3) := by decide +kernel
theorem dX8_fitsGrown_35 : decode cX8_fitsGrown 35 = .ok (.istore 4, 2) := by decide +kernel
theorem dX8_fitsGrown_37 : decode cX8_fitsGrown 37 = .ok (.aload_n 0, 1) := by decide +kernel
theorem dX8_fitsGrown_38 : decode cX8_fitsGrown 38 = .ok (.getfield 28, 3) := by decide +kernel
theorem dX8_fitsGrown_41 : decode cX8_fitsGrown 41 = .ok (.getfield 71, 3) := by decide +kernel
theorem dX8_fitsGrown_44 : decode cX8_fitsGrown 44 = .ok (.aload_n 0, 1) := by decide +kernel
theorem dX8_fitsGrown_45 : decode cX8_fitsGrown 45 = .ok (.getfield 28, 3) := by decide +kernel
theorem dX8_fitsGrown_48 : decode cX8_fitsGrown 48 = .ok (.iconst 0, 1) := by decide +kernel
theorem dX8_fitsGrown_49 : decode cX8_fitsGrown 49 = .ok (.iconst 0, 1) := by decide +kernel
theorem dX8_fitsGrown_50 : decode cX8_fitsGrown 50 = .ok (.invokevirtual 59, 3) := by decide +kernel
theorem dX8_fitsGrown_53 : decode cX8_fitsGrown 53 = .ok (.iload_n 3, 1) := by decide +kernel
theorem dX8_fitsGrown_54 : decode cX8_fitsGrown 54 = .ok (.aload_n 0, 1) := by decide +kernel
theorem dX8_fitsGrown_55 : decode cX8_fitsGrown 55 = .ok (.getfield 28, 3) := by decide +kernel
theorem dX8_fitsGrown_58 : decode cX8_fitsGrown 58 = .ok (.iconst 0, 1) := by decide +kernel
theorem dX8_fitsGrown_59 : decode cX8_fitsGrown 59 = .ok (.iconst 0, 1) := by decide +kernel
theorem dX8_fitsGrown_60 : decode cX8_fitsGrown 60 = .ok (.invokevirtual 68, 3) := by decide +kernel
theorem dX8_fitsGrown_63 : decode cX8_fitsGrown 63 = .ok (.aload_n 0, 1) := by decide +kernel
theorem dX8_fitsGrown_64 : decode cX8_fitsGrown 64 = .ok (.getfield 28, 3) := by decide +kernel
theorem dX8_fitsGrown_67 : decode cX8_fitsGrown 67 = .ok (.iconst 1, 1) := by decide +kernel
theorem dX8_fitsGrown_68 : decode cX8_fitsGrown 68 = .ok (.iconst 0, 1) := by decide +kernel
theorem dX8_fitsGrown_69 : decode cX8_fitsGrown 69 = .ok (.invokevirtual 68, 3) := by decide +kernel
theorem dX8_fitsGrown_72 : decode cX8_fitsGrown 72 = .ok (.iload 4, 2) := by decide +kernel
theorem dX8_fitsGrown_74 : decode cX8_fitsGrown 74 = .ok (.iload_n 2, 1) := by decide +kernel
theorem dX8_fitsGrown_75 : decode cX8_fitsGrown 75 = .ok (.invokevirtual 75, 3) := by decide +kernel
theorem dX8_fitsGrown_78 : decode cX8_fitsGrown 78 = .ok (.aload_n 0, 1) := by decide +kernel
theorem dX8_fitsGrown_79 : decode cX8_fitsGrown 79 = .ok (.getfield 28, 3) := by decide +kernel
theorem dX8_fitsGrown_82 : decode cX8_fitsGrown 82 = .ok (.getfield 81, 3) := by decide +kernel
theorem dX8_fitsGrown_85 : decode cX8_fitsGrown 85 = .ok (.if_icmp .gt 7, 3) := by decide +kernel
theorem dX8_fitsGrown_88 : decode cX8_fitsGrown 88 = .ok (.iconst 1, 1) := by decide +kernel
theorem dX8_fitsGrown_89 : decode cX8_fitsGrown 89 = .ok (.goto 4, 3) := by decide +kernel
theorem dX8_fitsGrown_92 : decode cX8_fitsGrown 92 = .ok (.iconst 0, 1) := by decide +kernel
theorem dX8_fitsGrown_93 : decode cX8_fitsGrown 93 = .ok (.ireturn, 1) := by decide +kernel
theorem dX8_fittingBehind_0 : decode cX8_fittingBehind 0 = .ok (.iload_n 1, 1) := by decide +kernel
theorem dX8_fittingBehind_1 : decode cX8_fittingBehind 1 = .ok (.ifCond .lt 9, 3) := by decide +kernel
theorem dX8_fittingBehind_4 : decode cX8_fittingBehind 4 = .ok (.iload_n 1, 1) := by decide +kernel
theorem dX8_fittingBehind_5 : decode cX8_fittingBehind 5 = .ok (.bipush 20, 2) := by decide +kernel
theorem dX8_fittingBehind_7 : decode cX8_fittingBehind 7 = .ok (.if_icmp .le 5, 3) := by decide +kernel
theorem dX8_fittingBehind_10 : decode cX8_fittingBehind 10 = .ok (.iconst 0, 1) := by decide +kernel
theorem dX8_fittingBehind_11 : decode cX8_fittingBehind 11 = .ok (.ireturn, 1) := by decide +kernel
theorem dX8_fittingBehind_12 : decode cX8_fittingBehind 12 = .ok (.aload_n 0, 1) := by decide +kernel
theorem dX8_fittingBehind_13 : decode cX8_fittingBehind 13 = .ok (.getfield 25, 3) := by decide +kernel
theorem dX8_fittingBehind_16 : decode cX8_fittingBehind 16 = .ok (.iload_n 1, 1) := by decide +kernel
theorem dX8_fittingBehind_17 : decode cX8_fittingBehind 17 = .ok (.iaload, 1) := by decide +kernel
theorem dX8_fittingBehind_18 : decode cX8_fittingBehind 18 = .ok (.iconst (-1), 1) := by decide +kernel
theorem dX8_fittingBehind_19 : decode cX8_fittingBehind 19 = .ok (.if_icmp .ne 41, 3) := by decide +kernel
theorem dX8_fittingBehind_22 : decode cX8_fittingBehind 22 = .ok (.iconst 0, 1) := by decide +kernel
theorem dX8_fittingBehind_23 : decode cX8_fittingBehind 23 = .ok (.istore_n 2, 1) := by decide +kernel
theorem dX8_fittingBehind_24 : decode cX8_fittingBehind 24 = .ok (.iconst 0, 1) := by decide +kernel
theorem dX8_fittingBehind_25 : decode cX8_fittingBehind 25 = .ok (.istore_n 3, 1) := by decide +kernel
theorem dX8_fittingBehind_26 : decode cX8_fittingBehind 26 = .ok (.iload_n 3, 1) := by decide +kernel
theorem dX8_fittingBehind_27 : decode cX8_fittingBehind 27 = .ok (.bipush 30, 2) := by decide +kernel
theorem dX8_fittingBehind_29 : decode cX8_fittingBehind 29 = .ok (.if_icmp .gt 24, 3) := by decide +kernel
theorem dX8_fittingBehind_32 : decode cX8_fittingBehind 32 = .ok (.aload_n 0, 1) := by decide +kernel
theorem dX8_fittingBehind_33 : decode cX8_fittingBehind 33 = .ok (.iload_n 3, 1) := by decide +kernel
theorem dX8_fittingBehind_34 : decode cX8_fittingBehind 34 = .ok (.iload_n 1, 1) := by decide +kernel
theorem dX8_fittingBehind_35 : decode cX8_fittingBehind 35 = .ok (.invokevirtual 55, 3) := by decide +kernel
theorem dX8_fittingBehind_38 : decode cX8_fittingBehind 38 = .ok (.ifCond .eq 9, 3) := by decide +kernel
theorem dX8_fittingBehind_41 : decode cX8_fittingBehind 41 = .ok (.iload_n 2, 1) := by decide +kernel
theorem dX8_fittingBehind_42 : decode cX8_fittingBehind 42 = .ok (.iconst 1, 1) := by decide +kernel
theorem dX8_fittingBehind_43 : decode cX8_fittingBehind 43 = .ok (.iload_n 3, 1) := by decide +kernel
theorem dX8_fittingBehind_44 : decode cX8_fittingBehind 44 = .ok (.ishl, 1) := by decide +kernel
theorem dX8_fittingBehind_45 : decode cX8_fittingBehind 45 = .ok (.ior, 1) := by decide +kernel
theorem dX8_fittingBehind_46 : decode cX8_fittingBehind 46 = .ok (.istore_n 2, 1) := by decide +kernel
theorem dX8_fittingBehind_47 : decode cX8_fittingBehind 47 = .ok (.iinc 3 1, 3) := by decide +kernel
theorem dX8_fittingBehind_50 : decode cX8_fittingBehind 50 = .ok (.goto (-24), 3) := by decide +kernel
theorem dX8_fittingBehind_53 : decode cX8_fittingBehind 53 = .ok (.aload_n 0, 1) := by decide +kernel
theorem dX8_fittingBehind_54 : decode cX8_fittingBehind 54 = .ok (.getfield 25, 3) := by decide +kernel
theorem dX8_fittingBehind_57 : decode cX8_fittingBehind 57 = .ok (.iload_n 1, 1) := by decide +kernel
theorem dX8_fittingBehind_58 : decode cX8_fittingBehind 58 = .ok (.iload_n 2, 1) := by decide +kernel
theorem dX8_fittingBehind_59 : decode cX8_fittingBehind 59 = .ok (.iastore, 1) := by decide +kernel
theorem dX8_fittingBehind_60 : decode cX8_fittingBehind 60 = .ok (.aload_n 0, 1) := by decide +kernel
theorem dX8_fittingBehind_61 : decode cX8_fittingBehind 61 = .ok (.getfield 25, 3) := by decide +kernel
theorem dX8_fittingBehind_64 : decode cX8_fittingBehind 64 = .ok (.iload_n 1, 1) := by decide +kernel
theorem dX8_fittingBehind_65 : decode cX8_fittingBehind 65 = .ok (.iaload, 1) := by decide +kernel
theorem dX8_fittingBehind_66 : decode cX8_fittingBehind 66 = .ok (.ireturn, 1) := by decide +kernel
theorem dX8_growthsAt_0 : decode cX8_growthsAt 0 = .ok (.aload_n 0, 1) := by decide +kernel
theorem dX8_growthsAt_1 : decode cX8_growthsAt 1 = .ok (.getfield 28, 3) := by decide +kernel
theorem dX8_growthsAt_4 : decode cX8_growthsAt 4 = .ok (.getfield 42, 3) := by decide +kernel
theorem dX8_growthsAt_7 : decode cX8_growthsAt 7 = .ok (.ifCond .eq 13, 3) := by decide +kernel
theorem dX8_growthsAt_10 : decode cX8_growthsAt 10 = .ok (.aload_n 0, 1) := by decide +kernel
theorem dX8_growthsAt_11 : decode cX8_growthsAt 11 = .ok (.getfield 28, 3) := by decide +kernel
theorem dX8_growthsAt_14 : decode cX8_growthsAt 14 = .ok (.getfield 47, 3) := by decide +kernel
theorem dX8_growthsAt_17 : decode cX8_growthsAt 17 = .ok (.ifCond .ne 5, 3) := by decide +kernel
theorem dX8_growthsAt_20 : decode cX8_growthsAt 20 = .ok (.iconst 0, 1) := by decide +kernel
theorem dX8_growthsAt_21 : decode cX8_growthsAt 21 = .ok (.ireturn, 1) := by decide +kernel
theorem dX8_growthsAt_22 : decode cX8_growthsAt 22 = .ok (.ldc 50, 2) := by decide +kernel
theorem dX8_growthsAt_24 : decode cX8_growthsAt 24 = .ok (.istore_n 2, 1) := by decide +kernel
theorem dX8_growthsAt_25 : decode cX8_growthsAt 25 = .ok (.iconst 0, 1) := by decide +kernel
theorem dX8_growthsAt_26 : decode cX8_growthsAt 26 = .ok (.istore_n 3, 1) := by decide +kernel
theorem dX8_growthsAt_27 : decode cX8_growthsAt 27 = .ok (.iload_n 3, 1) := by decide +kernel
theorem dX8_growthsAt_28 : decode cX8_growthsAt 28 = .ok (.aload_n 0, 1) := by decide +kernel
theorem dX8_growthsAt_29 : decode cX8_growthsAt 29 = .ok (.getfield 38, 3) := by decide +kernel
theorem dX8_growthsAt_32 : decode cX8_growthsAt 32 = .ok (.if_icmp .ge 90, 3) := by decide +kernel
theorem dX8_growthsAt_35 : decode cX8_growthsAt 35 = .ok (.iload_n 3, 1) := by decide +kernel
theorem dX8_growthsAt_36 : decode cX8_growthsAt 36 = .ok (.bipush 30, 2) := by decide +kernel
theorem dX8_growthsAt_38 : decode cX8_growthsAt 38 = .ok (.if_icmp .ge 84, 3) := by decide +kernel
theorem dX8_growthsAt_41 : decode cX8_growthsAt 41 = .ok (.aload_n 0, 1) := by decide +kernel
theorem dX8_growthsAt_42 : decode cX8_growthsAt 42 = .ok (.getfield 22, 3) := by decide +kernel
theorem dX8_growthsAt_45 : decode cX8_growthsAt 45 = .ok (.iload_n 3, 1) := by decide +kernel
theorem dX8_growthsAt_46 : decode cX8_growthsAt 46 = .ok (.iaload, 1) := by decide +kernel
theorem dX8_growthsAt_47 : decode cX8_growthsAt 47 = .ok (.iconst (-1), 1) := by decide +kernel
theorem dX8_growthsAt_48 : decode cX8_growthsAt 48 = .ok (.if_icmp .eq 17, 3) := by decide +kernel
theorem dX8_growthsAt_51 : decode cX8_growthsAt 51 = .ok (.aload_n 0, 1) := by decide +kernel
theorem dX8_growthsAt_52 : decode cX8_growthsAt 52 = .ok (.getfield 22, 3) := by decide +kernel
theorem dX8_growthsAt_55 : decode cX8_growthsAt 55 = .ok (.iload_n 3, 1) := by decide +kernel
theorem dX8_growthsAt_56 : decode cX8_growthsAt 56 = .ok (.iaload, 1) := by decide +kernel
theorem dX8_growthsAt_57 : decode cX8_growthsAt 57 = .ok (.iload_n 1, 1) := by decide +kernel
theorem dX8_growthsAt_58 : decode cX8_growthsAt 58 = .ok (.if_icmp .gt 7, 3) := by decide +kernel
theorem dX8_growthsAt_61 : decode cX8_growthsAt 61 = .ok (.iconst 1, 1) := by decide +kernel
theorem dX8_growthsAt_62 : decode cX8_growthsAt 62 = .ok (.goto 4, 3) := by decide +kernel
theorem dX8_growthsAt_65 : decode cX8_growthsAt 65 = .ok (.iconst 0, 1) := by decide +kernel
theorem dX8_growthsAt_66 : decode cX8_growthsAt 66 = .ok (.istore 4, 2) := by decide +kernel
theorem dX8_growthsAt_68 : decode cX8_growthsAt 68 = .ok (.aload_n 0, 1) := by decide +kernel
theorem dX8_growthsAt_69 : decode cX8_growthsAt 69 = .ok (.getfield 19, 3) := by decide +kernel
theorem dX8_growthsAt_72 : decode cX8_growthsAt 72 = .ok (.iload_n 3, 1) := by decide +kernel
theorem dX8_growthsAt_73 : decode cX8_growthsAt 73 = .ok (.iaload, 1) := by decide +kernel
theorem dX8_growthsAt_74 : decode cX8_growthsAt 74 = .ok (.iload_n 1, 1) := by decide +kernel
theorem dX8_growthsAt_75 : decode cX8_growthsAt 75 = .ok (.if_icmp .gt 41, 3) := by decide +kernel
theorem dX8_growthsAt_78 : decode cX8_growthsAt 78 = .ok (.iload 4, 2) := by decide +kernel
theorem dX8_growthsAt_80 : decode cX8_growthsAt 80 = .ok (.ifCond .ne 36, 3) := by decide +kernel
theorem dX8_growthsAt_83 : decode cX8_growthsAt 83 = .ok (.aload_n 0, 1) := by decide +kernel
theorem dX8_growthsAt_84 : decode cX8_growthsAt 84 = .ok (.aload_n 0, 1) := by decide +kernel
theorem dX8_growthsAt_85 : decode cX8_growthsAt 85 = .ok (.getfield 11, 3) := by decide +kernel
theorem dX8_growthsAt_88 : decode cX8_growthsAt 88 = .ok (.iload_n 3, 1) := by decide +kernel
theorem dX8_growthsAt_89 : decode cX8_growthsAt 89 = .ok (.iaload, 1) := by decide +kernel
theorem dX8_growthsAt_90 : decode cX8_growthsAt 90 = .ok (.invokevirtual 51, 3) := by decide +kernel
theorem dX8_growthsAt_93 : decode cX8_growthsAt 93 = .ok (.istore 5, 2) := by decide +kernel
theorem dX8_growthsAt_95 : decode cX8_growthsAt 95 = .ok (.iload_n 2, 1) := by decide +kernel
theorem dX8_growthsAt_96 : decode cX8_growthsAt 96 = .ok (.aload_n 0, 1) := by decide +kernel
theorem dX8_growthsAt_97 : decode cX8_growthsAt 97 = .ok (.getfield 15, 3) := by decide +kernel
theorem dX8_growthsAt_100 : decode cX8_growthsAt 100 = .ok (.iload_n 3, 1) := by decide +kernel
theorem dX8_growthsAt_101 : decode cX8_growthsAt 101 = .ok (.baload, 1) := by decide +kernel
theorem dX8_growthsAt_102 : decode cX8_growthsAt 102 = .ok (.ifCond .eq 8, 3) := by decide +kernel
theorem dX8_growthsAt_105 : decode cX8_growthsAt 105 = .ok (.iload 5, 2) := by decide +kernel
theorem dX8_growthsAt_107 : decode cX8_growthsAt 107 = .ok (.goto 7, 3) := by decide +kernel
theorem dX8_growthsAt_110 : decode cX8_growthsAt 110 = .ok (.iload 5, 2) := by decide +kernel
theorem dX8_growthsAt_112 : decode cX8_growthsAt 112 = .ok (.iconst (-1), 1) := by decide +kernel
theorem dX8_growthsAt_113 : decode cX8_growthsAt 113 = .ok (.ixor, 1) := by decide +kernel
theorem dX8_growthsAt_114 : decode cX8_growthsAt 114 = .ok (.iand, 1) := by decide +kernel
theorem dX8_growthsAt_115 : decode cX8_growthsAt 115 = .ok (.istore_n 2, 1) := by decide +kernel
theorem dX8_growthsAt_116 : decode cX8_growthsAt 116 = .ok (.iinc 3 1, 3) := by decide +kernel
theorem dX8_growthsAt_119 : decode cX8_growthsAt 119 = .ok (.goto (-92), 3) := by decide +kernel
theorem dX8_growthsAt_122 : decode cX8_growthsAt 122 = .ok (.iload_n 2, 1) := by decide +kernel
theorem dX8_growthsAt_123 : decode cX8_growthsAt 123 = .ok (.ireturn, 1) := by decide +kernel
theorem dX8_init_0 : decode cX8_init 0 = .ok (.aload_n 0, 1) := by decide +kernel
theorem dX8_init_1 : decode cX8_init 1 = .ok (.invokespecial 3, 3) := by decide +kernel
theorem dX8_init_4 : decode cX8_init 4 = .ok (.aload_n 0, 1) := by decide +kernel
theorem dX8_init_5 : decode cX8_init 5 = .ok (.bipush 30, 2) := by decide +kernel
theorem dX8_init_7 : decode cX8_init 7 = .ok (.newarray .int, 2) := by decide +kernel
theorem dX8_init_9 : decode cX8_init 9 = .ok (.putfield 11, 3) := by decide +kernel
theorem dX8_init_12 : decode cX8_init 12 = .ok (.aload_n 0, 1) := by decide +kernel
theorem dX8_init_13 : decode cX8_init 13 = .ok (.bipush 30, 2) := by decide +kernel
theorem dX8_init_15 : decode cX8_init 15 = .ok (.newarray .boolean, 2) := by decide +kernel
theorem dX8_init_17 : decode cX8_init 17 = .ok (.putfield 15, 3) := by decide +kernel
theorem dX8_init_20 : decode cX8_init 20 = .ok (.aload_n 0, 1) := by decide +kernel
theorem dX8_init_21 : decode cX8_init 21 = .ok (.bipush 30, 2) := by decide +kernel
theorem dX8_init_23 : decode cX8_init 23 = .ok (.newarray .int, 2) := by decide +kernel
theorem dX8_init_25 : decode cX8_init 25 = .ok (.putfield 19, 3) := by decide +kernel
theorem dX8_init_28 : decode cX8_init 28 = .ok (.aload_n 0, 1) := by decide +kernel
theorem dX8_init_29 : decode cX8_init 29 = .ok (.bipush 30, 2) := by decide +kernel
theorem dX8_init_31 : decode cX8_init 31 = .ok (.newarray .int, 2) := by decide +kernel
theorem dX8_init_33 : decode cX8_init 33 = .ok (.putfield 22, 3) := by decide +kernel
theorem dX8_init_36 : decode cX8_init 36 = .ok (.aload_n 0, 1) := by decide +kernel
theorem dX8_init_37 : decode cX8_init 37 = .ok (.bipush 21, 2) := by decide +kernel
theorem dX8_init_39 : decode cX8_init 39 = .ok (.newarray .int, 2) := by decide +kernel
theorem dX8_init_41 : decode cX8_init 41 = .ok (.putfield 25, 3) := by decide +kernel
theorem dX8_init_44 : decode cX8_init 44 = .ok (.aload_n 0, 1) := by decide +kernel
theorem dX8_init_45 : decode cX8_init 45 = .ok (.aload_n 1, 1) := by decide +kernel
theorem dX8_init_46 : decode cX8_init 46 = .ok (.putfield 28, 3) := by decide +kernel
theorem dX8_init_49 : decode cX8_init 49 = .ok (.aload_n 0, 1) := by decide +kernel
theorem dX8_init_50 : decode cX8_init 50 = .ok (.getfield 25, 3) := by decide +kernel
theorem dX8_init_53 : decode cX8_init 53 = .ok (.iconst (-1), 1) := by decide +kernel
theorem dX8_init_54 : decode cX8_init 54 = .ok (.invokestatic 32, 3) := by decide +kernel
theorem dX8_init_57 : decode cX8_init 57 = .ok (.return_, 1) := by decide +kernel
theorem dX8_leftAtMost_0 : decode cX8_leftAtMost 0 = .ok (.aload_n 0, 1) := by decide +kernel
theorem dX8_leftAtMost_1 : decode cX8_leftAtMost 1 = .ok (.iload_n 2, 1) := by decide +kernel
theorem dX8_leftAtMost_2 : decode cX8_leftAtMost 2 = .ok (.invokevirtual 51, 3) := by decide +kernel
theorem dX8_leftAtMost_5 : decode cX8_leftAtMost 5 = .ok (.istore_n 3, 1) := by decide +kernel
theorem dX8_leftAtMost_6 : decode cX8_leftAtMost 6 = .ok (.iload_n 1, 1) := by decide +kernel
theorem dX8_leftAtMost_7 : decode cX8_leftAtMost 7 = .ok (.iload_n 3, 1) := by decide +kernel
theorem dX8_leftAtMost_8 : decode cX8_leftAtMost 8 = .ok (.iand, 1) := by decide +kernel
theorem dX8_leftAtMost_9 : decode cX8_leftAtMost 9 = .ok (.invokestatic 87, 3) := by decide +kernel
theorem dX8_leftAtMost_12 : decode cX8_leftAtMost 12 = .ok (.iload_n 1, 1) := by decide +kernel
theorem dX8_leftAtMost_13 : decode cX8_leftAtMost 13 = .ok (.iload_n 3, 1) := by decide +kernel
theorem dX8_leftAtMost_14 : decode cX8_leftAtMost 14 = .ok (.iconst (-1), 1) := by decide +kernel
theorem dX8_leftAtMost_15 : decode cX8_leftAtMost 15 = .ok (.ixor, 1) := by decide +kernel
theorem dX8_leftAtMost_16 : decode cX8_leftAtMost 16 = .ok (.iand, 1) := by decide +kernel
theorem dX8_leftAtMost_17 : decode cX8_leftAtMost 17 = .ok (.invokestatic 87, 3) := by decide +kernel
theorem dX8_leftAtMost_20 : decode cX8_leftAtMost 20 = .ok (.invokestatic 92, 3) := by decide +kernel
theorem dX8_leftAtMost_23 : decode cX8_leftAtMost 23 = .ok (.ireturn, 1) := by decide +kernel
theorem dX8_takeBack_0 : decode cX8_takeBack 0 = .ok (.iload_n 1, 1) := by decide +kernel
theorem dX8_takeBack_1 : decode cX8_takeBack 1 = .ok (.ifCond .lt 27, 3) := by decide +kernel
theorem dX8_takeBack_4 : decode cX8_takeBack 4 = .ok (.iload_n 1, 1) := by decide +kernel
theorem dX8_takeBack_5 : decode cX8_takeBack 5 = .ok (.aload_n 0, 1) := by decide +kernel
theorem dX8_takeBack_6 : decode cX8_takeBack 6 = .ok (.getfield 38, 3) := by decide +kernel
theorem dX8_takeBack_9 : decode cX8_takeBack 9 = .ok (.if_icmp .ge 19, 3) := by decide +kernel
theorem dX8_takeBack_12 : decode cX8_takeBack 12 = .ok (.iload_n 1, 1) := by decide +kernel
theorem dX8_takeBack_13 : decode cX8_takeBack 13 = .ok (.bipush 30, 2) := by decide +kernel
theorem dX8_takeBack_15 : decode cX8_takeBack 15 = .ok (.if_icmp .ge 13, 3) := by decide +kernel
theorem dX8_takeBack_18 : decode cX8_takeBack 18 = .ok (.aload_n 0, 1) := by decide +kernel
theorem dX8_takeBack_19 : decode cX8_takeBack 19 = .ok (.getfield 22, 3) := by decide +kernel
theorem dX8_takeBack_22 : decode cX8_takeBack 22 = .ok (.iload_n 1, 1) := by decide +kernel
theorem dX8_takeBack_23 : decode cX8_takeBack 23 = .ok (.iaload, 1) := by decide +kernel
theorem dX8_takeBack_24 : decode cX8_takeBack 24 = .ok (.iconst (-1), 1) := by decide +kernel
theorem dX8_takeBack_25 : decode cX8_takeBack 25 = .ok (.if_icmp .eq 5, 3) := by decide +kernel
theorem dX8_takeBack_28 : decode cX8_takeBack 28 = .ok (.iconst 0, 1) := by decide +kernel
theorem dX8_takeBack_29 : decode cX8_takeBack 29 = .ok (.ireturn, 1) := by decide +kernel
theorem dX8_takeBack_30 : decode cX8_takeBack 30 = .ok (.aload_n 0, 1) := by decide +kernel
theorem dX8_takeBack_31 : decode cX8_takeBack 31 = .ok (.getfield 22, 3) := by decide +kernel
theorem dX8_takeBack_34 : decode cX8_takeBack 34 = .ok (.iload_n 1, 1) := by decide +kernel
theorem dX8_takeBack_35 : decode cX8_takeBack 35 = .ok (.iload_n 2, 1) := by decide +kernel
theorem dX8_takeBack_36 : decode cX8_takeBack 36 = .ok (.iastore, 1) := by decide +kernel
theorem dX8_takeBack_37 : decode cX8_takeBack 37 = .ok (.iconst 1, 1) := by decide +kernel
theorem dX8_takeBack_38 : decode cX8_takeBack 38 = .ok (.ireturn, 1) := by decide +kernel
theorem dX8_tell_0 : decode cX8_tell 0 = .ok (.iload_n 1, 1) := by decide +kernel
theorem dX8_tell_1 : decode cX8_tell 1 = .ok (.ifCond .lt 18, 3) := by decide +kernel
theorem dX8_tell_4 : decode cX8_tell 4 = .ok (.iload_n 1, 1) := by decide +kernel
theorem dX8_tell_5 : decode cX8_tell 5 = .ok (.bipush 20, 2) := by decide +kernel
theorem dX8_tell_7 : decode cX8_tell 7 = .ok (.if_icmp .gt 12, 3) := by decide +kernel
theorem dX8_tell_10 : decode cX8_tell 10 = .ok (.aload_n 0, 1) := by decide +kernel
theorem dX8_tell_11 : decode cX8_tell 11 = .ok (.getfield 38, 3) := by decide +kernel
theorem dX8_tell_14 : decode cX8_tell 14 = .ok (.bipush 30, 2) := by decide +kernel
theorem dX8_tell_16 : decode cX8_tell 16 = .ok (.if_icmp .lt 5, 3) := by decide +kernel
theorem dX8_tell_19 : decode cX8_tell 19 = .ok (.iconst (-1), 1) := by decide +kernel
theorem dX8_tell_20 : decode cX8_tell 20 = .ok (.ireturn, 1) := by decide +kernel
theorem dX8_tell_21 : decode cX8_tell 21 = .ok (.aload_n 0, 1) := by decide +kernel
theorem dX8_tell_22 : decode cX8_tell 22 = .ok (.getfield 11, 3) := by decide +kernel
theorem dX8_tell_25 : decode cX8_tell 25 = .ok (.aload_n 0, 1) := by decide +kernel
theorem dX8_tell_26 : decode cX8_tell 26 = .ok (.getfield 38, 3) := by decide +kernel
theorem dX8_tell_29 : decode cX8_tell 29 = .ok (.iload_n 1, 1) := by decide +kernel
theorem dX8_tell_30 : decode cX8_tell 30 = .ok (.iastore, 1) := by decide +kernel
theorem dX8_tell_31 : decode cX8_tell 31 = .ok (.aload_n 0, 1) := by decide +kernel
theorem dX8_tell_32 : decode cX8_tell 32 = .ok (.getfield 15, 3) := by decide +kernel
theorem dX8_tell_35 : decode cX8_tell 35 = .ok (.aload_n 0, 1) := by decide +kernel
theorem dX8_tell_36 : decode cX8_tell 36 = .ok (.getfield 38, 3) := by decide +kernel
theorem dX8_tell_39 : decode cX8_tell 39 = .ok (.iload_n 2, 1) := by decide +kernel
theorem dX8_tell_40 : decode cX8_tell 40 = .ok (.bastore, 1) := by decide +kernel
theorem dX8_tell_41 : decode cX8_tell 41 = .ok (.aload_n 0, 1) := by decide +kernel
theorem dX8_tell_42 : decode cX8_tell 42 = .ok (.getfield 19, 3) := by decide +kernel
theorem dX8_tell_45 : decode cX8_tell 45 = .ok (.aload_n 0, 1) := by decide +kernel
theorem dX8_tell_46 : decode cX8_tell 46 = .ok (.getfield 38, 3) := by decide +kernel
theorem dX8_tell_49 : decode cX8_tell 49 = .ok (.iload_n 3, 1) := by decide +kernel
theorem dX8_tell_50 : decode cX8_tell 50 = .ok (.iastore, 1) := by decide +kernel
theorem dX8_tell_51 : decode cX8_tell 51 = .ok (.aload_n 0, 1) := by decide +kernel
theorem dX8_tell_52 : decode cX8_tell 52 = .ok (.getfield 22, 3) := by decide +kernel
theorem dX8_tell_55 : decode cX8_tell 55 = .ok (.aload_n 0, 1) := by decide +kernel
theorem dX8_tell_56 : decode cX8_tell 56 = .ok (.getfield 38, 3) := by decide +kernel
theorem dX8_tell_59 : decode cX8_tell 59 = .ok (.iconst (-1), 1) := by decide +kernel
theorem dX8_tell_60 : decode cX8_tell 60 = .ok (.iastore, 1) := by decide +kernel
theorem dX8_tell_61 : decode cX8_tell 61 = .ok (.aload_n 0, 1) := by decide +kernel
theorem dX8_tell_62 : decode cX8_tell 62 = .ok (.dup, 1) := by decide +kernel
theorem dX8_tell_63 : decode cX8_tell 63 = .ok (.getfield 38, 3) := by decide +kernel
theorem dX8_tell_66 : decode cX8_tell 66 = .ok (.iconst 1, 1) := by decide +kernel
theorem dX8_tell_67 : decode cX8_tell 67 = .ok (.iadd, 1) := by decide +kernel
theorem dX8_tell_68 : decode cX8_tell 68 = .ok (.putfield 38, 3) := by decide +kernel
theorem dX8_tell_71 : decode cX8_tell 71 = .ok (.aload_n 0, 1) := by decide +kernel
theorem dX8_tell_72 : decode cX8_tell 72 = .ok (.getfield 38, 3) := by decide +kernel
theorem dX8_tell_75 : decode cX8_tell 75 = .ok (.iconst 1, 1) := by decide +kernel
theorem dX8_tell_76 : decode cX8_tell 76 = .ok (.isub, 1) := by decide +kernel
theorem dX8_tell_77 : decode cX8_tell 77 = .ok (.ireturn, 1) := by decide +kernel
theorem dX9_advance_0 : decode cX9_advance 0 = .ok (.aload_n 0, 1) := by decide +kernel
theorem dX9_advance_1 : decode cX9_advance 1 = .ok (.aload_n 0, 1) := by decide +kernel
theorem dX9_advance_2 : decode cX9_advance 2 = .ok (.getfield 19, 3) := by decide +kernel
theorem dX9_advance_5 : decode cX9_advance 5 = .ok (.putfield 25, 3) := by decide +kernel
theorem dX9_advance_8 : decode cX9_advance 8 = .ok (.aload_n 0, 1) := by decide +kernel
theorem dX9_advance_9 : decode cX9_advance 9 = .ok (.getfield 25, 3) := by decide +kernel
theorem dX9_advance_12 : decode cX9_advance 12 = .ok (.aload_n 0, 1) := by decide +kernel
theorem dX9_advance_13 : decode cX9_advance 13 = .ok (.getfield 15, 3) := by decide +kernel
theorem dX9_advance_16 : decode cX9_advance 16 = .ok (.if_icmp .ge 44, 3) := by decide +kernel
theorem dX9_advance_19 : decode cX9_advance 19 = .ok (.aload_n 0, 1) := by decide +kernel
theorem dX9_advance_20 : decode cX9_advance 20 = .ok (.getfield 9, 3) := by decide +kernel
theorem dX9_advance_23 : decode cX9_advance 23 = .ok (.aload_n 0, 1) := by decide +kernel
theorem dX9_advance_24 : decode cX9_advance 24 = .ok (.getfield 25, 3) := by decide +kernel
theorem dX9_advance_27 : decode cX9_advance 27 = .ok (.baload, 1) := by decide +kernel
theorem dX9_advance_28 : decode cX9_advance 28 = .ok (.bipush 32, 2) := by decide +kernel
theorem dX9_advance_30 : decode cX9_advance 30 = .ok (.if_icmp .eq 17, 3) := by decide +kernel
theorem dX9_advance_33 : decode cX9_advance 33 = .ok (.aload_n 0, 1) := by decide +kernel
theorem dX9_advance_34 : decode cX9_advance 34 = .ok (.getfield 9, 3) := by decide +kernel
theorem dX9_advance_37 : decode cX9_advance 37 = .ok (.aload_n 0, 1) := by decide +kernel
theorem dX9_advance_38 : decode cX9_advance 38 = .ok (.getfield 25, 3) := by decide +kernel
theorem dX9_advance_41 : decode cX9_advance 41 = .ok (.baload, 1) := by decide +kernel
theorem dX9_advance_42 : decode cX9_advance 42 = .ok (.bipush 10, 2) := by decide +kernel
theorem dX9_advance_44 : decode cX9_advance 44 = .ok (.if_icmp .ne 16, 3) := by decide +kernel
theorem dX9_advance_47 : decode cX9_advance 47 = .ok (.aload_n 0, 1) := by decide +kernel
theorem dX9_advance_48 : decode cX9_advance 48 = .ok (.dup, 1) := by decide +kernel
theorem dX9_advance_49 : decode cX9_advance 49 = .ok (.getfield 25, 3) := by decide +kernel
theorem dX9_advance_52 : decode cX9_advance 52 = .ok (.iconst 1, 1) := by decide +kernel
theorem dX9_advance_53 : decode cX9_advance 53 = .ok (.iadd, 1) := by decide +kernel
theorem dX9_advance_54 : decode cX9_advance 54 = .ok (.putfield 25, 3) := by decide +kernel
theorem dX9_advance_57 : decode cX9_advance 57 = .ok (.goto (-49), 3) := by decide +kernel
theorem dX9_advance_60 : decode cX9_advance 60 = .ok (.aload_n 0, 1) := by decide +kernel
theorem dX9_advance_61 : decode cX9_advance 61 = .ok (.aload_n 0, 1) := by decide +kernel
theorem dX9_advance_62 : decode cX9_advance 62 = .ok (.getfield 25, 3) := by decide +kernel
theorem dX9_advance_65 : decode cX9_advance 65 = .ok (.putfield 19, 3) := by decide +kernel
theorem dX9_advance_68 : decode cX9_advance 68 = .ok (.aload_n 0, 1) := by decide +kernel
theorem dX9_advance_69 : decode cX9_advance 69 = .ok (.getfield 25, 3) := by decide +kernel
theorem dX9_advance_72 : decode cX9_advance 72 = .ok (.aload_n 0, 1) := by decide +kernel
theorem dX9_advance_73 : decode cX9_advance 73 = .ok (.getfield 15, 3) := by decide +kernel
theorem dX9_advance_76 : decode cX9_advance 76 = .ok (.if_icmp .lt 11, 3) := by decide +kernel
theorem dX9_advance_79 : decode cX9_advance 79 = .ok (.aload_n 0, 1) := by decide +kernel
theorem dX9_advance_80 : decode cX9_advance 80 = .ok (.iconst 0, 1) := by decide +kernel
theorem dX9_advance_81 : decode cX9_advance 81 = .ok (.putfield 28, 3) := by decide +kernel
theorem dX9_advance_84 : decode cX9_advance 84 = .ok (.goto 238, 3) := by decide +kernel
theorem dX9_advance_87 : decode cX9_advance 87 = .ok (.aload_n 0, 1) := by decide +kernel
theorem dX9_advance_88 : decode cX9_advance 88 = .ok (.aload_n 0, 1) := by decide +kernel
theorem dX9_advance_89 : decode cX9_advance 89 = .ok (.getfield 25, 3) := by decide +kernel
theorem dX9_advance_92 : decode cX9_advance 92 = .ok (.invokevirtual 31, 3) := by decide +kernel
theorem dX9_advance_95 : decode cX9_advance 95 = .ok (.ifCond .eq 67, 3) := by decide +kernel
theorem dX9_advance_98 : decode cX9_advance 98 = .ok (.aload_n 0, 1) := by decide +kernel
theorem dX9_advance_99 : decode cX9_advance 99 = .ok (.getfield 19, 3) := by decide +kernel
theorem dX9_advance_102 : decode cX9_advance 102 = .ok (.aload_n 0, 1) := by decide +kernel
theorem dX9_advance_103 : decode cX9_advance 103 = .ok (.getfield 15, 3) := by decide +kernel
theorem dX9_advance_106 : decode cX9_advance 106 = .ok (.if_icmp .ge 27, 3) := by decide +kernel
theorem dX9_advance_109 : decode cX9_advance 109 = .ok (.aload_n 0, 1) := by decide +kernel
theorem dX9_advance_110 : decode cX9_advance 110 = .ok (.aload_n 0, 1) := by decide +kernel
theorem dX9_advance_111 : decode cX9_advance 111 = .ok (.getfield 19, 3) := by decide +kernel
theorem dX9_advance_114 : decode cX9_advance 114 = .ok (.invokevirtual 31, 3) := by decide +kernel
theorem dX9_advance_117 : decode cX9_advance 117 = .ok (.ifCond .eq 16, 3) := by decide +kernel
theorem dX9_advance_120 : decode cX9_advance 120 = .ok (.aload_n 0, 1) := by decide +kernel
theorem dX9_advance_121 : decode cX9_advance 121 = .ok (.dup, 1) := by decide +kernel
theorem dX9_advance_122 : decode cX9_advance 122 = .ok (.getfield 19, 3) := by decide +kernel
theorem dX9_advance_125 : decode cX9_advance 125 = .ok (.iconst 1, 1) := by decide +kernel
theorem dX9_advance_126 : decode cX9_advance 126 = .ok (.iadd, 1) := by decide +kernel
theorem dX9_advance_127 : decode cX9_advance 127 = .ok (.putfield 19, 3) := by decide +kernel
theorem dX9_advance_130 : decode cX9_advance 130 = .ok (.goto (-32), 3) := by decide +kernel
theorem dX9_advance_133 : decode cX9_advance 133 = .ok (.aload_n 0, 1) := by decide +kernel
theorem dX9_advance_134 : decode cX9_advance 134 = .ok (.aload_n 0, 1) := by decide +kernel
theorem dX9_advance_135 : decode cX9_advance 135 = .ok (.getfield 19, 3) := by decide +kernel
theorem dX9_advance_138 : decode cX9_advance 138 = .ok (.aload_n 0, 1) := by decide +kernel
theorem dX9_advance_139 : decode cX9_advance 139 = .ok (.getfield 25, 3) := by decide +kernel
theorem dX9_advance_142 : decode cX9_advance 142 = .ok (.isub, 1) := by decide +kernel
theorem dX9_advance_143 : decode cX9_advance 143 = .ok (.bipush 8, 2) := by decide +kernel
theorem dX9_advance_145 : decode cX9_advance 145 = .ok (.if_icmp .le 7, 3) := by decide +kernel
theorem dX9_advance_148 : decode cX9_advance 148 = .ok (.iconst 1, 1) := by decide +kernel
theorem dX9_advance_149 : decode cX9_advance 149 = .ok (.goto 7, 3) := by decide +kernel
theorem dX9_advance_152 : decode cX9_advance 152 = .ok (.aload_n 0, 1) := by decide +kernel
theorem dX9_advance_153 : decode cX9_advance 153 = .ok (.invokevirtual 35, 3) := by decide +kernel
theorem dX9_advance_156 : decode cX9_advance 156 = .ok (.putfield 28, 3) := by decide +kernel
theorem dX9_advance_159 : decode cX9_advance 159 = .ok (.goto 163, 3) := by decide +kernel
theorem dX9_advance_162 : decode cX9_advance 162 = .ok (.aload_n 0, 1) := by decide +kernel
theorem dX9_advance_163 : decode cX9_advance 163 = .ok (.aload_n 0, 1) := by decide +kernel
theorem dX9_advance_164 : decode cX9_advance 164 = .ok (.getfield 25, 3) := by decide +kernel
theorem dX9_advance_167 : decode cX9_advance 167 = .ok (.invokevirtual 39, 3) := by decide +kernel
theorem dX9_advance_170 : decode cX9_advance 170 = .ok (.ifCond .eq 103, 3) := by decide +kernel
theorem dX9_advance_173 : decode cX9_advance 173 = .ok (.aload_n 0, 1) := by decide +kernel
theorem dX9_advance_174 : decode cX9_advance 174 = .ok (.iconst 0, 1) := by decide +kernel
theorem dX9_advance_175 : decode cX9_advance 175 = .ok (.putfield 42, 3) := by decide +kernel
theorem dX9_advance_178 : decode cX9_advance 178 = .ok (.aload_n 0, 1) := by decide +kernel
theorem dX9_advance_179 : decode cX9_advance 179 = .ok (.getfield 19, 3) := by decide +kernel
theorem dX9_advance_182 : decode cX9_advance 182 = .ok (.aload_n 0, 1) := by decide +kernel
theorem dX9_advance_183 : decode cX9_advance 183 = .ok (.getfield 15, 3) := by decide +kernel
theorem dX9_advance_186 : decode cX9_advance 186 = .ok (.if_icmp .ge 51, 3) := by decide +kernel
theorem dX9_advance_189 : decode cX9_advance 189 = .ok (.aload_n 0, 1) := by decide +kernel
theorem dX9_advance_190 : decode cX9_advance 190 = .ok (.aload_n 0, 1) := by decide +kernel
theorem dX9_advance_191 : decode cX9_advance 191 = .ok (.getfield 19, 3) := by decide +kernel
theorem dX9_advance_194 : decode cX9_advance 194 = .ok (.invokevirtual 39, 3) := by decide +kernel
theorem dX9_advance_197 : decode cX9_advance 197 = .ok (.ifCond .eq 40, 3) := by decide +kernel
theorem dX9_advance_200 : decode cX9_advance 200 = .ok (.aload_n 0, 1) := by decide +kernel
theorem dX9_advance_201 : decode cX9_advance 201 = .ok (.aload_n 0, 1) := by decide +kernel
theorem dX9_advance_202 : decode cX9_advance 202 = .ok (.getfield 42, 3) := by decide +kernel
theorem dX9_advance_205 : decode cX9_advance 205 = .ok (.bipush 10, 2) := by decide +kernel
theorem dX9_advance_207 : decode cX9_advance 207 = .ok (.imul, 1) := by decide +kernel
theorem dX9_advance_208 : decode cX9_advance 208 = .ok (.aload_n 0, 1) := by decide +kernel
theorem dX9_advance_209 : decode cX9_advance 209 = .ok (.getfield 9, 3) := by decide +kernel
theorem dX9_advance_212 : decode cX9_advance 212 = .ok (.aload_n 0, 1) := by decide +kernel
theorem dX9_advance_213 : decode cX9_advance 213 = .ok (.getfield 19, 3) := by decide +kernel
theorem dX9_advance_216 : decode cX9_advance 216 = .ok (.baload, 1) := by decide +kernel
theorem dX9_advance_217 : decode cX9_advance 217 = .ok (.iadd, 1) := by decide +kernel
theorem dX9_advance_218 : decode cX9_advance 218 = .ok (.bipush 48, 2) := by decide +kernel
theorem dX9_advance_220 : decode cX9_advance 220 = .ok (.isub, 1) := by decide +kernel
theorem dX9_advance_221 : decode cX9_advance 221 = .ok (.putfield 42, 3) := by decide +kernel
theorem dX9_advance_224 : decode cX9_advance 224 = .ok (.aload_n 0, 1) := by decide +kernel
theorem dX9_advance_225 : decode cX9_advance 225 = .ok (.dup, 1) := by decide +kernel
theorem dX9_advance_226 : decode cX9_advance 226 = .ok (.getfield 19, 3) := by decide +kernel
theorem dX9_advance_229 : decode cX9_advance 229 = .ok (.iconst 1, 1) := by decide +kernel
theorem dX9_advance_230 : decode cX9_advance 230 = .ok (.iadd, 1) := by decide +kernel
theorem dX9_advance_231 : decode cX9_advance 231 = .ok (.putfield 19, 3) := by decide +kernel
theorem dX9_advance_234 : decode cX9_advance 234 = .ok (.goto (-56), 3) := by decide +kernel
theorem dX9_advance_237 : decode cX9_advance 237 = .ok (.aload_n 0, 1) := by decide +kernel
theorem dX9_advance_238 : decode cX9_advance 238 = .ok (.aload_n 0, 1) := by decide +kernel
theorem dX9_advance_239 : decode cX9_advance 239 = .ok (.getfield 19, 3) := by decide +kernel
theorem dX9_advance_242 : decode cX9_advance 242 = .ok (.aload_n 0, 1) := by decide +kernel
theorem dX9_advance_243 : decode cX9_advance 243 = .ok (.getfield 25, 3) := by decide +kernel
theorem dX9_advance_246 : decode cX9_advance 246 = .ok (.isub, 1) := by decide +kernel
theorem dX9_advance_247 : decode cX9_advance 247 = .ok (.iconst 4, 1) := by decide +kernel
theorem dX9_advance_248 : decode cX9_advance 248 = .ok (.if_icmp .gt 14, 3) := by decide +kernel
theorem dX9_advance_251 : decode cX9_advance 251 = .ok (.aload_n 0, 1) := by decide +kernel
theorem dX9_advance_252 : decode cX9_advance 252 = .ok (.aload_n 0, 1) := by decide +kernel
theorem dX9_advance_253 : decode cX9_advance 253 = .ok (.getfield 19, 3) := by decide +kernel
theorem dX9_advance_256 : decode cX9_advance 256 = .ok (.invokevirtual 31, 3) := by decide +kernel
theorem dX9_advance_259 : decode cX9_advance 259 = .ok (.ifCond .eq 7, 3) := by decide +kernel
theorem dX9_advance_262 : decode cX9_advance 262 = .ok (.iconst 1, 1) := by decide +kernel
theorem dX9_advance_263 : decode cX9_advance 263 = .ok (.goto 4, 3) := by decide +kernel
theorem dX9_advance_266 : decode cX9_advance 266 = .ok (.iconst 2, 1) := by decide +kernel
theorem dX9_advance_267 : decode cX9_advance 267 = .ok (.putfield 28, 3) := by decide +kernel
theorem dX9_advance_270 : decode cX9_advance 270 = .ok (.goto 52, 3) := by decide +kernel
theorem dX9_advance_273 : decode cX9_advance 273 = .ok (.aload_n 0, 1) := by decide +kernel
theorem dX9_advance_274 : decode cX9_advance 274 = .ok (.dup, 1) := by decide +kernel
theorem dX9_advance_275 : decode cX9_advance 275 = .ok (.getfield 19, 3) := by decide +kernel
theorem dX9_advance_278 : decode cX9_advance 278 = .ok (.iconst 1, 1) := by decide +kernel
theorem dX9_advance_279 : decode cX9_advance 279 = .ok (.iadd, 1) := by decide +kernel
theorem dX9_advance_280 : decode cX9_advance 280 = .ok (.putfield 19, 3) := by decide +kernel
theorem dX9_advance_283 : decode cX9_advance 283 = .ok (.aload_n 0, 1) := by decide +kernel
theorem dX9_advance_284 : decode cX9_advance 284 = .ok (.ldc 45, 2) := by decide +kernel
theorem dX9_advance_286 : decode cX9_advance 286 = .ok (.aload_n 0, 1) := by decide +kernel
theorem dX9_advance_287 : decode cX9_advance 287 = .ok (.getfield 9, 3) := by decide +kernel
theorem dX9_advance_290 : decode cX9_advance 290 = .ok (.aload_n 0, 1) := by decide +kernel
theorem dX9_advance_291 : decode cX9_advance 291 = .ok (.getfield 25, 3) := by decide +kernel
theorem dX9_advance_294 : decode cX9_advance 294 = .ok (.baload, 1) := by decide +kernel
theorem dX9_advance_295 : decode cX9_advance 295 = .ok (.sipush 255, 3) := by decide +kernel
theorem dX9_advance_298 : decode cX9_advance 298 = .ok (.iand, 1) := by decide +kernel
theorem dX9_advance_299 : decode cX9_advance 299 = .ok (.i2c, 1) := by decide +kernel
theorem dX9_advance_300 : decode cX9_advance 300 = .ok (.invokevirtual 47, 3) := by decide +kernel
theorem dX9_advance_303 : decode cX9_advance 303 = .ok (.ifCond .lt 15, 3) := by decide +kernel
theorem dX9_advance_306 : decode cX9_advance 306 = .ok (.aload_n 0, 1) := by decide +kernel
theorem dX9_advance_307 : decode cX9_advance 307 = .ok (.getfield 9, 3) := by decide +kernel
theorem dX9_advance_310 : decode cX9_advance 310 = .ok (.aload_n 0, 1) := by decide +kernel
theorem dX9_advance_311 : decode cX9_advance 311 = .ok (.getfield 25, 3) := by decide +kernel
theorem dX9_advance_314 : decode cX9_advance 314 = .ok (.baload, 1) := by decide +kernel
theorem dX9_advance_315 : decode cX9_advance 315 = .ok (.goto 4, 3) := by decide +kernel
theorem dX9_advance_318 : decode cX9_advance 318 = .ok (.iconst 1, 1) := by decide +kernel
theorem dX9_advance_319 : decode cX9_advance 319 = .ok (.putfield 28, 3) := by decide +kernel
theorem dX9_advance_322 : decode cX9_advance 322 = .ok (.return_, 1) := by decide +kernel
theorem dX9_append_0 : decode cX9_append 0 = .ok (.bipush 24, 2) := by decide +kernel
theorem dX9_append_2 : decode cX9_append 2 = .ok (.istore_n 2, 1) := by decide +kernel
theorem dX9_append_3 : decode cX9_append 3 = .ok (.iload_n 2, 1) := by decide +kernel
theorem dX9_append_4 : decode cX9_append 4 = .ok (.ifCond .lt 42, 3) := by decide +kernel
theorem dX9_append_7 : decode cX9_append 7 = .ok (.aload_n 0, 1) := by decide +kernel
theorem dX9_append_8 : decode cX9_append 8 = .ok (.getfield 15, 3) := by decide +kernel
theorem dX9_append_11 : decode cX9_append 11 = .ok (.sipush 1600, 3) := by decide +kernel
theorem dX9_append_14 : decode cX9_append 14 = .ok (.if_icmp .ge 32, 3) := by decide +kernel
theorem dX9_append_17 : decode cX9_append 17 = .ok (.aload_n 0, 1) := by decide +kernel
theorem dX9_append_18 : decode cX9_append 18 = .ok (.getfield 9, 3) := by decide +kernel
theorem dX9_append_21 : decode cX9_append 21 = .ok (.aload_n 0, 1) := by decide +kernel
theorem dX9_append_22 : decode cX9_append 22 = .ok (.getfield 15, 3) := by decide +kernel
theorem dX9_append_25 : decode cX9_append 25 = .ok (.iload_n 1, 1) := by decide +kernel
theorem dX9_append_26 : decode cX9_append 26 = .ok (.iload_n 2, 1) := by decide +kernel
theorem dX9_append_27 : decode cX9_append 27 = .ok (.ishr, 1) := by decide +kernel
theorem dX9_append_28 : decode cX9_append 28 = .ok (.i2b, 1) := by decide +kernel
theorem dX9_append_29 : decode cX9_append 29 = .ok (.bastore, 1) := by decide +kernel
theorem dX9_append_30 : decode cX9_append 30 = .ok (.aload_n 0, 1) := by decide +kernel
theorem dX9_append_31 : decode cX9_append 31 = .ok (.dup, 1) := by decide +kernel
theorem dX9_append_32 : decode cX9_append 32 = .ok (.getfield 15, 3) := by decide +kernel
theorem dX9_append_35 : decode cX9_append 35 = .ok (.iconst 1, 1) := by decide +kernel
theorem dX9_append_36 : decode cX9_append 36 = .ok (.iadd, 1) := by decide +kernel
theorem dX9_append_37 : decode cX9_append 37 = .ok (.putfield 15, 3) := by decide +kernel
theorem dX9_append_40 : decode cX9_append 40 = .ok (.iinc 2 (-8), 3) := by decide +kernel
theorem dX9_append_43 : decode cX9_append 43 = .ok (.goto (-40), 3) := by decide +kernel
theorem dX9_append_46 : decode cX9_append 46 = .ok (.return_, 1) := by decide +kernel
theorem dX9_hasRoom_0 : decode cX9_hasRoom 0 = .ok (.aload_n 0, 1) := by decide +kernel
theorem dX9_hasRoom_1 : decode cX9_hasRoom 1 = .ok (.getfield 15, 3) := by decide +kernel
theorem dX9_hasRoom_4 : decode cX9_hasRoom 4 = .ok (.bipush 20, 2) := by decide +kernel
theorem dX9_hasRoom_6 : decode cX9_hasRoom 6 = .ok (.iadd, 1) := by decide +kernel
theorem dX9_hasRoom_7 : decode cX9_hasRoom 7 = .ok (.sipush 1600, 3) := by decide +kernel
theorem dX9_hasRoom_10 : decode cX9_hasRoom 10 = .ok (.if_icmp .gt 7, 3) := by decide +kernel
theorem dX9_hasRoom_13 : decode cX9_hasRoom 13 = .ok (.iconst 1, 1) := by decide +kernel
theorem dX9_hasRoom_14 : decode cX9_hasRoom 14 = .ok (.goto 4, 3) := by decide +kernel
theorem dX9_hasRoom_17 : decode cX9_hasRoom 17 = .ok (.iconst 0, 1) := by decide +kernel
theorem dX9_hasRoom_18 : decode cX9_hasRoom 18 = .ok (.ireturn, 1) := by decide +kernel
theorem dX9_init_0 : decode cX9_init 0 = .ok (.aload_n 0, 1) := by decide +kernel
theorem dX9_init_1 : decode cX9_init 1 = .ok (.invokespecial 3, 3) := by decide +kernel
theorem dX9_init_4 : decode cX9_init 4 = .ok (.aload_n 0, 1) := by decide +kernel
theorem dX9_init_5 : decode cX9_init 5 = .ok (.sipush 1600, 3) := by decide +kernel
theorem dX9_init_8 : decode cX9_init 8 = .ok (.newarray .byte, 2) := by decide +kernel
theorem dX9_init_10 : decode cX9_init 10 = .ok (.putfield 9, 3) := by decide +kernel
theorem dX9_init_13 : decode cX9_init 13 = .ok (.return_, 1) := by decide +kernel
theorem dX9_isDigit_0 : decode cX9_isDigit 0 = .ok (.iload_n 1, 1) := by decide +kernel
theorem dX9_isDigit_1 : decode cX9_isDigit 1 = .ok (.ifCond .lt 37, 3) := by decide +kernel
theorem dX9_isDigit_4 : decode cX9_isDigit 4 = .ok (.iload_n 1, 1) := by decide +kernel
theorem dX9_isDigit_5 : decode cX9_isDigit 5 = .ok (.aload_n 0, 1) := by decide +kernel
theorem dX9_isDigit_6 : decode cX9_isDigit 6 = .ok (.getfield 15, 3) := by decide +kernel
theorem dX9_isDigit_9 : decode cX9_isDigit 9 = .ok (.if_icmp .ge 29, 3) := by decide +kernel
theorem dX9_isDigit_12 : decode cX9_isDigit 12 = .ok (.aload_n 0, 1) := by decide +kernel
theorem dX9_isDigit_13 : decode cX9_isDigit 13 = .ok (.getfield 9, 3) := by decide +kernel
theorem dX9_isDigit_16 : decode cX9_isDigit 16 = .ok (.iload_n 1, 1) := by decide +kernel
theorem dX9_isDigit_17 : decode cX9_isDigit 17 = .ok (.baload, 1) := by decide +kernel
theorem dX9_isDigit_18 : decode cX9_isDigit 18 = .ok (.bipush 48, 2) := by decide +kernel
theorem dX9_isDigit_20 : decode cX9_isDigit 20 = .ok (.if_icmp .lt 18, 3) := by decide +kernel
theorem dX9_isDigit_23 : decode cX9_isDigit 23 = .ok (.aload_n 0, 1) := by decide +kernel
theorem dX9_isDigit_24 : decode cX9_isDigit 24 = .ok (.getfield 9, 3) := by decide +kernel
theorem dX9_isDigit_27 : decode cX9_isDigit 27 = .ok (.iload_n 1, 1) := by decide +kernel
theorem dX9_isDigit_28 : decode cX9_isDigit 28 = .ok (.baload, 1) := by decide +kernel
theorem dX9_isDigit_29 : decode cX9_isDigit 29 = .ok (.bipush 57, 2) := by decide +kernel
theorem dX9_isDigit_31 : decode cX9_isDigit 31 = .ok (.if_icmp .gt 7, 3) := by decide +kernel
theorem dX9_isDigit_34 : decode cX9_isDigit 34 = .ok (.iconst 1, 1) := by decide +kernel
theorem dX9_isDigit_35 : decode cX9_isDigit 35 = .ok (.goto 4, 3) := by decide +kernel
theorem dX9_isDigit_38 : decode cX9_isDigit 38 = .ok (.iconst 0, 1) := by decide +kernel
theorem dX9_isDigit_39 : decode cX9_isDigit 39 = .ok (.ireturn, 1) := by decide +kernel
theorem dX9_isLetter_0 : decode cX9_isLetter 0 = .ok (.iload_n 1, 1) := by decide +kernel
theorem dX9_isLetter_1 : decode cX9_isLetter 1 = .ok (.ifCond .lt 37, 3) := by decide +kernel
theorem dX9_isLetter_4 : decode cX9_isLetter 4 = .ok (.iload_n 1, 1) := by decide +kernel
theorem dX9_isLetter_5 : decode cX9_isLetter 5 = .ok (.aload_n 0, 1) := by decide +kernel
theorem dX9_isLetter_6 : decode cX9_isLetter 6 = .ok (.getfield 15, 3) := by decide +kernel
theorem dX9_isLetter_9 : decode cX9_isLetter 9 = .ok (.if_icmp .ge 29, 3) := by decide +kernel
theorem dX9_isLetter_12 : decode cX9_isLetter 12 = .ok (.aload_n 0, 1) := by decide +kernel
theorem dX9_isLetter_13 : decode cX9_isLetter 13 = .ok (.getfield 9, 3) := by decide +kernel
theorem dX9_isLetter_16 : decode cX9_isLetter 16 = .ok (.iload_n 1, 1) := by decide +kernel
theorem dX9_isLetter_17 : decode cX9_isLetter 17 = .ok (.baload, 1) := by decide +kernel
theorem dX9_isLetter_18 : decode cX9_isLetter 18 = .ok (.bipush 97, 2) := by decide +kernel
theorem dX9_isLetter_20 : decode cX9_isLetter 20 = .ok (.if_icmp .lt 18, 3) := by decide +kernel
theorem dX9_isLetter_23 : decode cX9_isLetter 23 = .ok (.aload_n 0, 1) := by decide +kernel
theorem dX9_isLetter_24 : decode cX9_isLetter 24 = .ok (.getfield 9, 3) := by decide +kernel
theorem dX9_isLetter_27 : decode cX9_isLetter 27 = .ok (.iload_n 1, 1) := by decide +kernel
theorem dX9_isLetter_28 : decode cX9_isLetter 28 = .ok (.baload, 1) := by decide +kernel
theorem dX9_isLetter_29 : decode cX9_isLetter 29 = .ok (.bipush 122, 2) := by decide +kernel
theorem dX9_isLetter_31 : decode cX9_isLetter 31 = .ok (.if_icmp .gt 7, 3) := by decide +kernel
theorem dX9_isLetter_34 : decode cX9_isLetter 34 = .ok (.iconst 1, 1) := by decide +kernel
theorem dX9_isLetter_35 : decode cX9_isLetter 35 = .ok (.goto 4, 3) := by decide +kernel
theorem dX9_isLetter_38 : decode cX9_isLetter 38 = .ok (.iconst 0, 1) := by decide +kernel
theorem dX9_isLetter_39 : decode cX9_isLetter 39 = .ok (.ireturn, 1) := by decide +kernel
theorem dX9_rewind_0 : decode cX9_rewind 0 = .ok (.aload_n 0, 1) := by decide +kernel
theorem dX9_rewind_1 : decode cX9_rewind 1 = .ok (.iconst 0, 1) := by decide +kernel
theorem dX9_rewind_2 : decode cX9_rewind 2 = .ok (.putfield 19, 3) := by decide +kernel
theorem dX9_rewind_5 : decode cX9_rewind 5 = .ok (.aload_n 0, 1) := by decide +kernel
theorem dX9_rewind_6 : decode cX9_rewind 6 = .ok (.invokevirtual 22, 3) := by decide +kernel
theorem dX9_rewind_9 : decode cX9_rewind 9 = .ok (.return_, 1) := by decide +kernel
theorem dX9_sameWord_0 : decode cX9_sameWord 0 = .ok (.iconst 0, 1) := by decide +kernel
theorem dX9_sameWord_1 : decode cX9_sameWord 1 = .ok (.istore_n 3, 1) := by decide +kernel
theorem dX9_sameWord_2 : decode cX9_sameWord 2 = .ok (.iload_n 3, 1) := by decide +kernel
theorem dX9_sameWord_3 : decode cX9_sameWord 3 = .ok (.bipush 8, 2) := by decide +kernel
theorem dX9_sameWord_5 : decode cX9_sameWord 5 = .ok (.if_icmp .gt 73, 3) := by decide +kernel
theorem dX9_sameWord_8 : decode cX9_sameWord 8 = .ok (.aload_n 0, 1) := by decide +kernel
theorem dX9_sameWord_9 : decode cX9_sameWord 9 = .ok (.iload_n 1, 1) := by decide +kernel
theorem dX9_sameWord_10 : decode cX9_sameWord 10 = .ok (.iload_n 3, 1) := by decide +kernel
theorem dX9_sameWord_11 : decode cX9_sameWord 11 = .ok (.iadd, 1) := by decide +kernel
theorem dX9_sameWord_12 : decode cX9_sameWord 12 = .ok (.invokevirtual 31, 3) := by decide +kernel
theorem dX9_sameWord_15 : decode cX9_sameWord 15 = .ok (.ifCond .eq 13, 3) := by decide +kernel
