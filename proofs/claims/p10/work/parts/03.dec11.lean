theorem dX9_sameWord_18 : decode cX9_sameWord 18 = .ok (.aload_n 0, 1) := by decide +kernel
theorem dX9_sameWord_19 : decode cX9_sameWord 19 = .ok (.iload_n 2, 1) := by decide +kernel
theorem dX9_sameWord_20 : decode cX9_sameWord 20 = .ok (.iload_n 3, 1) := by decide +kernel
theorem dX9_sameWord_21 : decode cX9_sameWord 21 = .ok (.iadd, 1) := by decide +kernel
theorem dX9_sameWord_22 : decode cX9_sameWord 22 = .ok (.invokevirtual 31, 3) := by decide +kernel
theorem dX9_sameWord_25 : decode cX9_sameWord 25 = .ok (.ifCond .ne 26, 3) := by decide +kernel
theorem dX9_sameWord_28 : decode cX9_sameWord 28 = .ok (.aload_n 0, 1) := by decide +kernel
theorem dX9_sameWord_29 : decode cX9_sameWord 29 = .ok (.iload_n 1, 1) := by decide +kernel
theorem dX9_sameWord_30 : decode cX9_sameWord 30 = .ok (.iload_n 3, 1) := by decide +kernel
theorem dX9_sameWord_31 : decode cX9_sameWord 31 = .ok (.iadd, 1) := by decide +kernel
theorem dX9_sameWord_32 : decode cX9_sameWord 32 = .ok (.invokevirtual 31, 3) := by decide +kernel
theorem dX9_sameWord_35 : decode cX9_sameWord 35 = .ok (.aload_n 0, 1) := by decide +kernel
theorem dX9_sameWord_36 : decode cX9_sameWord 36 = .ok (.iload_n 2, 1) := by decide +kernel
theorem dX9_sameWord_37 : decode cX9_sameWord 37 = .ok (.iload_n 3, 1) := by decide +kernel
theorem dX9_sameWord_38 : decode cX9_sameWord 38 = .ok (.iadd, 1) := by decide +kernel
theorem dX9_sameWord_39 : decode cX9_sameWord 39 = .ok (.invokevirtual 31, 3) := by decide +kernel
theorem dX9_sameWord_42 : decode cX9_sameWord 42 = .ok (.if_icmp .ne 7, 3) := by decide +kernel
theorem dX9_sameWord_45 : decode cX9_sameWord 45 = .ok (.iconst 1, 1) := by decide +kernel
theorem dX9_sameWord_46 : decode cX9_sameWord 46 = .ok (.goto 4, 3) := by decide +kernel
theorem dX9_sameWord_49 : decode cX9_sameWord 49 = .ok (.iconst 0, 1) := by decide +kernel
theorem dX9_sameWord_50 : decode cX9_sameWord 50 = .ok (.ireturn, 1) := by decide +kernel
theorem dX9_sameWord_51 : decode cX9_sameWord 51 = .ok (.aload_n 0, 1) := by decide +kernel
theorem dX9_sameWord_52 : decode cX9_sameWord 52 = .ok (.getfield 9, 3) := by decide +kernel
theorem dX9_sameWord_55 : decode cX9_sameWord 55 = .ok (.iload_n 1, 1) := by decide +kernel
theorem dX9_sameWord_56 : decode cX9_sameWord 56 = .ok (.iload_n 3, 1) := by decide +kernel
theorem dX9_sameWord_57 : decode cX9_sameWord 57 = .ok (.iadd, 1) := by decide +kernel
theorem dX9_sameWord_58 : decode cX9_sameWord 58 = .ok (.baload, 1) := by decide +kernel
theorem dX9_sameWord_59 : decode cX9_sameWord 59 = .ok (.aload_n 0, 1) := by decide +kernel
theorem dX9_sameWord_60 : decode cX9_sameWord 60 = .ok (.getfield 9, 3) := by decide +kernel
theorem dX9_sameWord_63 : decode cX9_sameWord 63 = .ok (.iload_n 2, 1) := by decide +kernel
theorem dX9_sameWord_64 : decode cX9_sameWord 64 = .ok (.iload_n 3, 1) := by decide +kernel
theorem dX9_sameWord_65 : decode cX9_sameWord 65 = .ok (.iadd, 1) := by decide +kernel
theorem dX9_sameWord_66 : decode cX9_sameWord 66 = .ok (.baload, 1) := by decide +kernel
theorem dX9_sameWord_67 : decode cX9_sameWord 67 = .ok (.if_icmp .eq 5, 3) := by decide +kernel
theorem dX9_sameWord_70 : decode cX9_sameWord 70 = .ok (.iconst 0, 1) := by decide +kernel
theorem dX9_sameWord_71 : decode cX9_sameWord 71 = .ok (.ireturn, 1) := by decide +kernel
theorem dX9_sameWord_72 : decode cX9_sameWord 72 = .ok (.iinc 3 1, 3) := by decide +kernel
theorem dX9_sameWord_75 : decode cX9_sameWord 75 = .ok (.goto (-73), 3) := by decide +kernel
theorem dX9_sameWord_78 : decode cX9_sameWord 78 = .ok (.iconst 1, 1) := by decide +kernel
theorem dX9_sameWord_79 : decode cX9_sameWord 79 = .ok (.ireturn, 1) := by decide +kernel
theorem dX9_wordKind_0 : decode cX9_wordKind 0 = .ok (.bipush 101, 2) := by decide +kernel
theorem dX9_wordKind_2 : decode cX9_wordKind 2 = .ok (.istore_n 1, 1) := by decide +kernel
theorem dX9_wordKind_3 : decode cX9_wordKind 3 = .ok (.iconst 0, 1) := by decide +kernel
theorem dX9_wordKind_4 : decode cX9_wordKind 4 = .ok (.istore_n 2, 1) := by decide +kernel
theorem dX9_wordKind_5 : decode cX9_wordKind 5 = .ok (.iconst 1, 1) := by decide +kernel
theorem dX9_wordKind_6 : decode cX9_wordKind 6 = .ok (.istore_n 3, 1) := by decide +kernel
theorem dX9_wordKind_7 : decode cX9_wordKind 7 = .ok (.iconst 0, 1) := by decide +kernel
theorem dX9_wordKind_8 : decode cX9_wordKind 8 = .ok (.istore 4, 2) := by decide +kernel
theorem dX9_wordKind_10 : decode cX9_wordKind 10 = .ok (.iload 4, 2) := by decide +kernel
theorem dX9_wordKind_12 : decode cX9_wordKind 12 = .ok (.ldc 53, 2) := by decide +kernel
theorem dX9_wordKind_14 : decode cX9_wordKind 14 = .ok (.invokevirtual 55, 3) := by decide +kernel
theorem dX9_wordKind_17 : decode cX9_wordKind 17 = .ok (.if_icmp .ge 95, 3) := by decide +kernel
theorem dX9_wordKind_20 : decode cX9_wordKind 20 = .ok (.ldc 53, 2) := by decide +kernel
theorem dX9_wordKind_22 : decode cX9_wordKind 22 = .ok (.iload 4, 2) := by decide +kernel
theorem dX9_wordKind_24 : decode cX9_wordKind 24 = .ok (.invokevirtual 58, 3) := by decide +kernel
theorem dX9_wordKind_27 : decode cX9_wordKind 27 = .ok (.istore 5, 2) := by decide +kernel
theorem dX9_wordKind_29 : decode cX9_wordKind 29 = .ok (.aload_n 0, 1) := by decide +kernel
theorem dX9_wordKind_30 : decode cX9_wordKind 30 = .ok (.getfield 25, 3) := by decide +kernel
theorem dX9_wordKind_33 : decode cX9_wordKind 33 = .ok (.iload 4, 2) := by decide +kernel
theorem dX9_wordKind_35 : decode cX9_wordKind 35 = .ok (.iadd, 1) := by decide +kernel
theorem dX9_wordKind_36 : decode cX9_wordKind 36 = .ok (.iload_n 2, 1) := by decide +kernel
theorem dX9_wordKind_37 : decode cX9_wordKind 37 = .ok (.isub, 1) := by decide +kernel
theorem dX9_wordKind_38 : decode cX9_wordKind 38 = .ok (.istore 6, 2) := by decide +kernel
theorem dX9_wordKind_40 : decode cX9_wordKind 40 = .ok (.iload 5, 2) := by decide +kernel
theorem dX9_wordKind_42 : decode cX9_wordKind 42 = .ok (.bipush 32, 2) := by decide +kernel
theorem dX9_wordKind_44 : decode cX9_wordKind 44 = .ok (.if_icmp .eq 37, 3) := by decide +kernel
theorem dX9_wordKind_47 : decode cX9_wordKind 47 = .ok (.iload_n 3, 1) := by decide +kernel
theorem dX9_wordKind_48 : decode cX9_wordKind 48 = .ok (.ifCond .eq 28, 3) := by decide +kernel
theorem dX9_wordKind_51 : decode cX9_wordKind 51 = .ok (.iload 6, 2) := by decide +kernel
theorem dX9_wordKind_53 : decode cX9_wordKind 53 = .ok (.aload_n 0, 1) := by decide +kernel
theorem dX9_wordKind_54 : decode cX9_wordKind 54 = .ok (.getfield 19, 3) := by decide +kernel
theorem dX9_wordKind_57 : decode cX9_wordKind 57 = .ok (.if_icmp .ge 19, 3) := by decide +kernel
theorem dX9_wordKind_60 : decode cX9_wordKind 60 = .ok (.aload_n 0, 1) := by decide +kernel
theorem dX9_wordKind_61 : decode cX9_wordKind 61 = .ok (.getfield 9, 3) := by decide +kernel
theorem dX9_wordKind_64 : decode cX9_wordKind 64 = .ok (.iload 6, 2) := by decide +kernel
theorem dX9_wordKind_66 : decode cX9_wordKind 66 = .ok (.baload, 1) := by decide +kernel
theorem dX9_wordKind_67 : decode cX9_wordKind 67 = .ok (.iload 5, 2) := by decide +kernel
theorem dX9_wordKind_69 : decode cX9_wordKind 69 = .ok (.if_icmp .ne 7, 3) := by decide +kernel
theorem dX9_wordKind_72 : decode cX9_wordKind 72 = .ok (.iconst 1, 1) := by decide +kernel
theorem dX9_wordKind_73 : decode cX9_wordKind 73 = .ok (.goto 4, 3) := by decide +kernel
theorem dX9_wordKind_76 : decode cX9_wordKind 76 = .ok (.iconst 0, 1) := by decide +kernel
theorem dX9_wordKind_77 : decode cX9_wordKind 77 = .ok (.istore_n 3, 1) := by decide +kernel
theorem dX9_wordKind_78 : decode cX9_wordKind 78 = .ok (.goto 28, 3) := by decide +kernel
theorem dX9_wordKind_81 : decode cX9_wordKind 81 = .ok (.iload_n 3, 1) := by decide +kernel
theorem dX9_wordKind_82 : decode cX9_wordKind 82 = .ok (.ifCond .eq 14, 3) := by decide +kernel
theorem dX9_wordKind_85 : decode cX9_wordKind 85 = .ok (.iload 6, 2) := by decide +kernel
theorem dX9_wordKind_87 : decode cX9_wordKind 87 = .ok (.aload_n 0, 1) := by decide +kernel
theorem dX9_wordKind_88 : decode cX9_wordKind 88 = .ok (.getfield 19, 3) := by decide +kernel
theorem dX9_wordKind_91 : decode cX9_wordKind 91 = .ok (.if_icmp .ne 5, 3) := by decide +kernel
theorem dX9_wordKind_94 : decode cX9_wordKind 94 = .ok (.iload_n 1, 1) := by decide +kernel
theorem dX9_wordKind_95 : decode cX9_wordKind 95 = .ok (.ireturn, 1) := by decide +kernel
theorem dX9_wordKind_96 : decode cX9_wordKind 96 = .ok (.iinc 1 1, 3) := by decide +kernel
theorem dX9_wordKind_99 : decode cX9_wordKind 99 = .ok (.iload 4, 2) := by decide +kernel
theorem dX9_wordKind_101 : decode cX9_wordKind 101 = .ok (.iconst 1, 1) := by decide +kernel
theorem dX9_wordKind_102 : decode cX9_wordKind 102 = .ok (.iadd, 1) := by decide +kernel
theorem dX9_wordKind_103 : decode cX9_wordKind 103 = .ok (.istore_n 2, 1) := by decide +kernel
theorem dX9_wordKind_104 : decode cX9_wordKind 104 = .ok (.iconst 1, 1) := by decide +kernel
theorem dX9_wordKind_105 : decode cX9_wordKind 105 = .ok (.istore_n 3, 1) := by decide +kernel
theorem dX9_wordKind_106 : decode cX9_wordKind 106 = .ok (.iinc 4 1, 3) := by decide +kernel
theorem dX9_wordKind_109 : decode cX9_wordKind 109 = .ok (.goto (-99), 3) := by decide +kernel
theorem dX9_wordKind_112 : decode cX9_wordKind 112 = .ok (.iconst 3, 1) := by decide +kernel
theorem dX9_wordKind_113 : decode cX9_wordKind 113 = .ok (.ireturn, 1) := by decide +kernel
