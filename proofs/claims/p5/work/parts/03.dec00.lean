theorem dJ7_fill_53178_0 : decode cJ7_fill_53178 0 = .ok (.iconst 0, 1) := by decide +kernel
theorem dJ7_fill_53178_1 : decode cJ7_fill_53178 1 = .ok (.istore_n 2, 1) := by decide +kernel
theorem dJ7_fill_53178_2 : decode cJ7_fill_53178 2 = .ok (.aload_n 0, 1) := by decide +kernel
theorem dJ7_fill_53178_3 : decode cJ7_fill_53178 3 = .ok (.arraylength, 1) := by decide +kernel
theorem dJ7_fill_53178_4 : decode cJ7_fill_53178 4 = .ok (.istore_n 3, 1) := by decide +kernel
theorem dJ7_fill_53178_5 : decode cJ7_fill_53178 5 = .ok (.iload_n 2, 1) := by decide +kernel
theorem dJ7_fill_53178_6 : decode cJ7_fill_53178 6 = .ok (.iload_n 3, 1) := by decide +kernel
theorem dJ7_fill_53178_7 : decode cJ7_fill_53178 7 = .ok (.if_icmp .ge 13, 3) := by decide +kernel
theorem dJ7_fill_53178_10 : decode cJ7_fill_53178 10 = .ok (.aload_n 0, 1) := by decide +kernel
theorem dJ7_fill_53178_11 : decode cJ7_fill_53178 11 = .ok (.iload_n 2, 1) := by decide +kernel
theorem dJ7_fill_53178_12 : decode cJ7_fill_53178 12 = .ok (.iload_n 1, 1) := by decide +kernel
theorem dJ7_fill_53178_13 : decode cJ7_fill_53178 13 = .ok (.iastore, 1) := by decide +kernel
theorem dJ7_fill_53178_14 : decode cJ7_fill_53178 14 = .ok (.iinc 2 1, 3) := by decide +kernel
theorem dJ7_fill_53178_17 : decode cJ7_fill_53178 17 = .ok (.goto (-12), 3) := by decide +kernel
theorem dJ7_fill_53178_20 : decode cJ7_fill_53178 20 = .ok (.return_, 1) := by decide +kernel
theorem dX0_clear_0 : decode cX0_clear 0 = .ok (.aload_n 0, 1) := by decide +kernel
theorem dX0_clear_1 : decode cX0_clear 1 = .ok (.iconst 0, 1) := by decide +kernel
theorem dX0_clear_2 : decode cX0_clear 2 = .ok (.putfield 29, 3) := by decide +kernel
theorem dX0_clear_5 : decode cX0_clear 5 = .ok (.return_, 1) := by decide +kernel
theorem dX10_end_0 : decode cX10_end 0 = .ok (.iload_n 1, 1) := by decide +kernel
theorem dX10_end_1 : decode cX10_end 1 = .ok (.ifCond .lt 14, 3) := by decide +kernel
theorem dX10_end_4 : decode cX10_end 4 = .ok (.iload_n 1, 1) := by decide +kernel
theorem dX10_end_5 : decode cX10_end 5 = .ok (.aload_n 0, 1) := by decide +kernel
theorem dX10_end_6 : decode cX10_end 6 = .ok (.getfield 10, 3) := by decide +kernel
theorem dX10_end_9 : decode cX10_end 9 = .ok (.getfield 88, 3) := by decide +kernel
theorem dX10_end_12 : decode cX10_end 12 = .ok (.if_icmp .le 5, 3) := by decide +kernel
theorem dX10_end_15 : decode cX10_end 15 = .ok (.iconst (-1), 1) := by decide +kernel
theorem dX10_end_16 : decode cX10_end 16 = .ok (.ireturn, 1) := by decide +kernel
theorem dX10_end_17 : decode cX10_end 17 = .ok (.aload_n 0, 1) := by decide +kernel
theorem dX10_end_18 : decode cX10_end 18 = .ok (.getfield 10, 3) := by decide +kernel
theorem dX10_end_21 : decode cX10_end 21 = .ok (.iload_n 1, 1) := by decide +kernel
theorem dX10_end_22 : decode cX10_end 22 = .ok (.putfield 88, 3) := by decide +kernel
theorem dX10_end_25 : decode cX10_end 25 = .ok (.iload_n 1, 1) := by decide +kernel
theorem dX10_end_26 : decode cX10_end 26 = .ok (.ireturn, 1) := by decide +kernel
theorem dX10_fault_0 : decode cX10_fault 0 = .ok (.iload_n 1, 1) := by decide +kernel
theorem dX10_fault_1 : decode cX10_fault 1 = .ok (.ifCond .ne 13, 3) := by decide +kernel
theorem dX10_fault_4 : decode cX10_fault 4 = .ok (.aload_n 0, 1) := by decide +kernel
theorem dX10_fault_5 : decode cX10_fault 5 = .ok (.getfield 21, 3) := by decide +kernel
theorem dX10_fault_8 : decode cX10_fault 8 = .ok (.getfield 114, 3) := by decide +kernel
theorem dX10_fault_11 : decode cX10_fault 11 = .ok (.goto 19, 3) := by decide +kernel
theorem dX10_fault_14 : decode cX10_fault 14 = .ok (.iload_n 1, 1) := by decide +kernel
theorem dX10_fault_15 : decode cX10_fault 15 = .ok (.iconst 1, 1) := by decide +kernel
theorem dX10_fault_16 : decode cX10_fault 16 = .ok (.if_icmp .ne 13, 3) := by decide +kernel
theorem dX10_fault_19 : decode cX10_fault 19 = .ok (.aload_n 0, 1) := by decide +kernel
theorem dX10_fault_20 : decode cX10_fault 20 = .ok (.getfield 21, 3) := by decide +kernel
theorem dX10_fault_23 : decode cX10_fault 23 = .ok (.getfield 117, 3) := by decide +kernel
theorem dX10_fault_26 : decode cX10_fault 26 = .ok (.goto 4, 3) := by decide +kernel
theorem dX10_fault_29 : decode cX10_fault 29 = .ok (.iconst (-1), 1) := by decide +kernel
theorem dX10_fault_30 : decode cX10_fault 30 = .ok (.ireturn, 1) := by decide +kernel
theorem dX10_feed_0 : decode cX10_feed 0 = .ok (.aload_n 0, 1) := by decide +kernel
theorem dX10_feed_1 : decode cX10_feed 1 = .ok (.getfield 10, 3) := by decide +kernel
theorem dX10_feed_4 : decode cX10_feed 4 = .ok (.invokevirtual 80, 3) := by decide +kernel
theorem dX10_feed_7 : decode cX10_feed 7 = .ok (.ifCond .ne 5, 3) := by decide +kernel
theorem dX10_feed_10 : decode cX10_feed 10 = .ok (.iconst (-1), 1) := by decide +kernel
theorem dX10_feed_11 : decode cX10_feed 11 = .ok (.ireturn, 1) := by decide +kernel
theorem dX10_feed_12 : decode cX10_feed 12 = .ok (.aload_n 0, 1) := by decide +kernel
theorem dX10_feed_13 : decode cX10_feed 13 = .ok (.getfield 10, 3) := by decide +kernel
theorem dX10_feed_16 : decode cX10_feed 16 = .ok (.iload_n 1, 1) := by decide +kernel
theorem dX10_feed_17 : decode cX10_feed 17 = .ok (.invokevirtual 84, 3) := by decide +kernel
theorem dX10_feed_20 : decode cX10_feed 20 = .ok (.aload_n 0, 1) := by decide +kernel
theorem dX10_feed_21 : decode cX10_feed 21 = .ok (.getfield 10, 3) := by decide +kernel
theorem dX10_feed_24 : decode cX10_feed 24 = .ok (.iload_n 2, 1) := by decide +kernel
theorem dX10_feed_25 : decode cX10_feed 25 = .ok (.invokevirtual 84, 3) := by decide +kernel
theorem dX10_feed_28 : decode cX10_feed 28 = .ok (.aload_n 0, 1) := by decide +kernel
theorem dX10_feed_29 : decode cX10_feed 29 = .ok (.getfield 10, 3) := by decide +kernel
theorem dX10_feed_32 : decode cX10_feed 32 = .ok (.iload_n 3, 1) := by decide +kernel
theorem dX10_feed_33 : decode cX10_feed 33 = .ok (.invokevirtual 84, 3) := by decide +kernel
theorem dX10_feed_36 : decode cX10_feed 36 = .ok (.aload_n 0, 1) := by decide +kernel
theorem dX10_feed_37 : decode cX10_feed 37 = .ok (.getfield 10, 3) := by decide +kernel
theorem dX10_feed_40 : decode cX10_feed 40 = .ok (.iload 4, 2) := by decide +kernel
theorem dX10_feed_42 : decode cX10_feed 42 = .ok (.invokevirtual 84, 3) := by decide +kernel
theorem dX10_feed_45 : decode cX10_feed 45 = .ok (.aload_n 0, 1) := by decide +kernel
theorem dX10_feed_46 : decode cX10_feed 46 = .ok (.getfield 10, 3) := by decide +kernel
theorem dX10_feed_49 : decode cX10_feed 49 = .ok (.iload 5, 2) := by decide +kernel
theorem dX10_feed_51 : decode cX10_feed 51 = .ok (.invokevirtual 84, 3) := by decide +kernel
theorem dX10_feed_54 : decode cX10_feed 54 = .ok (.aload_n 0, 1) := by decide +kernel
theorem dX10_feed_55 : decode cX10_feed 55 = .ok (.getfield 10, 3) := by decide +kernel
theorem dX10_feed_58 : decode cX10_feed 58 = .ok (.getfield 88, 3) := by decide +kernel
theorem dX10_feed_61 : decode cX10_feed 61 = .ok (.ireturn, 1) := by decide +kernel
theorem dX10_regiment_0 : decode cX10_regiment 0 = .ok (.aload_n 0, 1) := by decide +kernel
theorem dX10_regiment_1 : decode cX10_regiment 1 = .ok (.getfield 21, 3) := by decide +kernel
theorem dX10_regiment_4 : decode cX10_regiment 4 = .ok (.invokevirtual 92, 3) := by decide +kernel
theorem dX10_regiment_7 : decode cX10_regiment 7 = .ok (.istore_n 1, 1) := by decide +kernel
theorem dX10_regiment_8 : decode cX10_regiment 8 = .ok (.aload_n 0, 1) := by decide +kernel
theorem dX10_regiment_9 : decode cX10_regiment 9 = .ok (.getfield 10, 3) := by decide +kernel
theorem dX10_regiment_12 : decode cX10_regiment 12 = .ok (.iconst 0, 1) := by decide +kernel
theorem dX10_regiment_13 : decode cX10_regiment 13 = .ok (.putfield 88, 3) := by decide +kernel
theorem dX10_regiment_16 : decode cX10_regiment 16 = .ok (.iload_n 1, 1) := by decide +kernel
theorem dX10_regiment_17 : decode cX10_regiment 17 = .ok (.ifCond .ne 5, 3) := by decide +kernel
theorem dX10_regiment_20 : decode cX10_regiment 20 = .ok (.iconst (-1), 1) := by decide +kernel
theorem dX10_regiment_21 : decode cX10_regiment 21 = .ok (.ireturn, 1) := by decide +kernel
theorem dX10_regiment_22 : decode cX10_regiment 22 = .ok (.aload_n 0, 1) := by decide +kernel
theorem dX10_regiment_23 : decode cX10_regiment 23 = .ok (.getfield 28, 3) := by decide +kernel
theorem dX10_regiment_26 : decode cX10_regiment 26 = .ok (.aload_n 0, 1) := by decide +kernel
theorem dX10_regiment_27 : decode cX10_regiment 27 = .ok (.getfield 21, 3) := by decide +kernel
theorem dX10_regiment_30 : decode cX10_regiment 30 = .ok (.getfield 95, 3) := by decide +kernel
theorem dX10_regiment_33 : decode cX10_regiment 33 = .ok (.invokevirtual 98, 3) := by decide +kernel
theorem dX10_regiment_36 : decode cX10_regiment 36 = .ok (.aload_n 0, 1) := by decide +kernel
theorem dX10_regiment_37 : decode cX10_regiment 37 = .ok (.getfield 37, 3) := by decide +kernel
theorem dX10_regiment_40 : decode cX10_regiment 40 = .ok (.invokevirtual 101, 3) := by decide +kernel
theorem dX10_regiment_43 : decode cX10_regiment 43 = .ok (.aload_n 0, 1) := by decide +kernel
theorem dX10_regiment_44 : decode cX10_regiment 44 = .ok (.getfield 46, 3) := by decide +kernel
theorem dX10_regiment_47 : decode cX10_regiment 47 = .ok (.invokevirtual 104, 3) := by decide +kernel
theorem dX10_regiment_50 : decode cX10_regiment 50 = .ok (.aload_n 0, 1) := by decide +kernel
theorem dX10_regiment_51 : decode cX10_regiment 51 = .ok (.getfield 69, 3) := by decide +kernel
theorem dX10_regiment_54 : decode cX10_regiment 54 = .ok (.invokevirtual 107, 3) := by decide +kernel
theorem dX10_regiment_57 : decode cX10_regiment 57 = .ok (.aload_n 0, 1) := by decide +kernel
theorem dX10_regiment_58 : decode cX10_regiment 58 = .ok (.getfield 76, 3) := by decide +kernel
theorem dX10_regiment_61 : decode cX10_regiment 61 = .ok (.invokevirtual 110, 3) := by decide +kernel
theorem dX10_regiment_64 : decode cX10_regiment 64 = .ok (.aload_n 0, 1) := by decide +kernel
theorem dX10_regiment_65 : decode cX10_regiment 65 = .ok (.getfield 28, 3) := by decide +kernel
theorem dX10_regiment_68 : decode cX10_regiment 68 = .ok (.getfield 111, 3) := by decide +kernel
theorem dX10_regiment_71 : decode cX10_regiment 71 = .ok (.ireturn, 1) := by decide +kernel
theorem dX11_add_0 : decode cX11_add 0 = .ok (.aload_n 0, 1) := by decide +kernel
theorem dX11_add_1 : decode cX11_add 1 = .ok (.getfield 21, 3) := by decide +kernel
theorem dX11_add_4 : decode cX11_add 4 = .ok (.aload_n 0, 1) := by decide +kernel
theorem dX11_add_5 : decode cX11_add 5 = .ok (.getfield 253, 3) := by decide +kernel
theorem dX11_add_8 : decode cX11_add 8 = .ok (.iload_n 1, 1) := by decide +kernel
theorem dX11_add_9 : decode cX11_add 9 = .ok (.iastore, 1) := by decide +kernel
theorem dX11_add_10 : decode cX11_add 10 = .ok (.aload_n 0, 1) := by decide +kernel
theorem dX11_add_11 : decode cX11_add 11 = .ok (.getfield 24, 3) := by decide +kernel
theorem dX11_add_14 : decode cX11_add 14 = .ok (.aload_n 0, 1) := by decide +kernel
theorem dX11_add_15 : decode cX11_add 15 = .ok (.getfield 253, 3) := by decide +kernel
theorem dX11_add_18 : decode cX11_add 18 = .ok (.iload_n 2, 1) := by decide +kernel
theorem dX11_add_19 : decode cX11_add 19 = .ok (.iastore, 1) := by decide +kernel
theorem dX11_add_20 : decode cX11_add 20 = .ok (.aload_n 0, 1) := by decide +kernel
theorem dX11_add_21 : decode cX11_add 21 = .ok (.dup, 1) := by decide +kernel
theorem dX11_add_22 : decode cX11_add 22 = .ok (.getfield 253, 3) := by decide +kernel
theorem dX11_add_25 : decode cX11_add 25 = .ok (.iconst 1, 1) := by decide +kernel
theorem dX11_add_26 : decode cX11_add 26 = .ok (.iadd, 1) := by decide +kernel
theorem dX11_add_27 : decode cX11_add 27 = .ok (.putfield 253, 3) := by decide +kernel
theorem dX11_add_30 : decode cX11_add 30 = .ok (.return_, 1) := by decide +kernel
theorem dX11_asked_0 : decode cX11_asked 0 = .ok (.aload_n 0, 1) := by decide +kernel
theorem dX11_asked_1 : decode cX11_asked 1 = .ok (.getfield 166, 3) := by decide +kernel
theorem dX11_asked_4 : decode cX11_asked 4 = .ok (.iconst 1, 1) := by decide +kernel
theorem dX11_asked_5 : decode cX11_asked 5 = .ok (.if_icmp .eq 5, 3) := by decide +kernel
theorem dX11_asked_8 : decode cX11_asked 8 = .ok (.iconst (-1), 1) := by decide +kernel
theorem dX11_asked_9 : decode cX11_asked 9 = .ok (.ireturn, 1) := by decide +kernel
theorem dX11_asked_10 : decode cX11_asked 10 = .ok (.aload_n 0, 1) := by decide +kernel
theorem dX11_asked_11 : decode cX11_asked 11 = .ok (.getfield 159, 3) := by decide +kernel
theorem dX11_asked_14 : decode cX11_asked 14 = .ok (.ldc2_w 208, 3) := by decide +kernel
theorem dX11_asked_17 : decode cX11_asked 17 = .ok (.lcmp, 1) := by decide +kernel
theorem dX11_asked_18 : decode cX11_asked 18 = .ok (.ifCond .ne 5, 3) := by decide +kernel
theorem dX11_asked_21 : decode cX11_asked 21 = .ok (.iconst 0, 1) := by decide +kernel
theorem dX11_asked_22 : decode cX11_asked 22 = .ok (.ireturn, 1) := by decide +kernel
theorem dX11_asked_23 : decode cX11_asked 23 = .ok (.aload_n 0, 1) := by decide +kernel
theorem dX11_asked_24 : decode cX11_asked 24 = .ok (.getfield 159, 3) := by decide +kernel
theorem dX11_asked_27 : decode cX11_asked 27 = .ok (.ldc2_w 210, 3) := by decide +kernel
theorem dX11_asked_30 : decode cX11_asked 30 = .ok (.lcmp, 1) := by decide +kernel
theorem dX11_asked_31 : decode cX11_asked 31 = .ok (.ifCond .ne 5, 3) := by decide +kernel
theorem dX11_asked_34 : decode cX11_asked 34 = .ok (.iconst 1, 1) := by decide +kernel
theorem dX11_asked_35 : decode cX11_asked 35 = .ok (.ireturn, 1) := by decide +kernel
theorem dX11_asked_36 : decode cX11_asked 36 = .ok (.aload_n 0, 1) := by decide +kernel
theorem dX11_asked_37 : decode cX11_asked 37 = .ok (.getfield 159, 3) := by decide +kernel
theorem dX11_asked_40 : decode cX11_asked 40 = .ok (.ldc2_w 212, 3) := by decide +kernel
theorem dX11_asked_43 : decode cX11_asked 43 = .ok (.lcmp, 1) := by decide +kernel
theorem dX11_asked_44 : decode cX11_asked 44 = .ok (.ifCond .ne 5, 3) := by decide +kernel
theorem dX11_asked_47 : decode cX11_asked 47 = .ok (.iconst 2, 1) := by decide +kernel
theorem dX11_asked_48 : decode cX11_asked 48 = .ok (.ireturn, 1) := by decide +kernel
theorem dX11_asked_49 : decode cX11_asked 49 = .ok (.aload_n 0, 1) := by decide +kernel
theorem dX11_asked_50 : decode cX11_asked 50 = .ok (.getfield 159, 3) := by decide +kernel
theorem dX11_asked_53 : decode cX11_asked 53 = .ok (.ldc2_w 214, 3) := by decide +kernel
theorem dX11_asked_56 : decode cX11_asked 56 = .ok (.lcmp, 1) := by decide +kernel
theorem dX11_asked_57 : decode cX11_asked 57 = .ok (.ifCond .ne 5, 3) := by decide +kernel
theorem dX11_asked_60 : decode cX11_asked 60 = .ok (.iconst 3, 1) := by decide +kernel
theorem dX11_asked_61 : decode cX11_asked 61 = .ok (.ireturn, 1) := by decide +kernel
theorem dX11_asked_62 : decode cX11_asked 62 = .ok (.aload_n 0, 1) := by decide +kernel
theorem dX11_asked_63 : decode cX11_asked 63 = .ok (.getfield 159, 3) := by decide +kernel
theorem dX11_asked_66 : decode cX11_asked 66 = .ok (.ldc2_w 194, 3) := by decide +kernel
theorem dX11_asked_69 : decode cX11_asked 69 = .ok (.lcmp, 1) := by decide +kernel
theorem dX11_asked_70 : decode cX11_asked 70 = .ok (.ifCond .ne 5, 3) := by decide +kernel
theorem dX11_asked_73 : decode cX11_asked 73 = .ok (.iconst 4, 1) := by decide +kernel
theorem dX11_asked_74 : decode cX11_asked 74 = .ok (.ireturn, 1) := by decide +kernel
theorem dX11_asked_75 : decode cX11_asked 75 = .ok (.aload_n 0, 1) := by decide +kernel
theorem dX11_asked_76 : decode cX11_asked 76 = .ok (.getfield 159, 3) := by decide +kernel
theorem dX11_asked_79 : decode cX11_asked 79 = .ok (.ldc2_w 216, 3) := by decide +kernel
theorem dX11_asked_82 : decode cX11_asked 82 = .ok (.lcmp, 1) := by decide +kernel
theorem dX11_asked_83 : decode cX11_asked 83 = .ok (.ifCond .ne 7, 3) := by decide +kernel
theorem dX11_asked_86 : decode cX11_asked 86 = .ok (.iconst 5, 1) := by decide +kernel
theorem dX11_asked_87 : decode cX11_asked 87 = .ok (.goto 4, 3) := by decide +kernel
theorem dX11_asked_90 : decode cX11_asked 90 = .ok (.iconst (-1), 1) := by decide +kernel
theorem dX11_asked_91 : decode cX11_asked 91 = .ok (.ireturn, 1) := by decide +kernel
theorem dX11_begin_0 : decode cX11_begin 0 = .ok (.iconst 0, 1) := by decide +kernel
theorem dX11_begin_1 : decode cX11_begin 1 = .ok (.istore_n 1, 1) := by decide +kernel
theorem dX11_begin_2 : decode cX11_begin 2 = .ok (.iload_n 1, 1) := by decide +kernel
theorem dX11_begin_3 : decode cX11_begin 3 = .ok (.bipush 39, 2) := by decide +kernel
theorem dX11_begin_5 : decode cX11_begin 5 = .ok (.if_icmp .ge 16, 3) := by decide +kernel
theorem dX11_begin_8 : decode cX11_begin 8 = .ok (.aload_n 0, 1) := by decide +kernel
theorem dX11_begin_9 : decode cX11_begin 9 = .ok (.getfield 96, 3) := by decide +kernel
theorem dX11_begin_12 : decode cX11_begin 12 = .ok (.iload_n 1, 1) := by decide +kernel
theorem dX11_begin_13 : decode cX11_begin 13 = .ok (.iconst 0, 1) := by decide +kernel
theorem dX11_begin_14 : decode cX11_begin 14 = .ok (.iastore, 1) := by decide +kernel
theorem dX11_begin_15 : decode cX11_begin 15 = .ok (.iinc 1 1, 3) := by decide +kernel
theorem dX11_begin_18 : decode cX11_begin 18 = .ok (.goto (-16), 3) := by decide +kernel
theorem dX11_begin_21 : decode cX11_begin 21 = .ok (.iconst 0, 1) := by decide +kernel
theorem dX11_begin_22 : decode cX11_begin 22 = .ok (.istore_n 1, 1) := by decide +kernel
theorem dX11_begin_23 : decode cX11_begin 23 = .ok (.iload_n 1, 1) := by decide +kernel
theorem dX11_begin_24 : decode cX11_begin 24 = .ok (.aload_n 0, 1) := by decide +kernel
theorem dX11_begin_25 : decode cX11_begin 25 = .ok (.getfield 387, 3) := by decide +kernel
theorem dX11_begin_28 : decode cX11_begin 28 = .ok (.if_icmp .ge 31, 3) := by decide +kernel
theorem dX11_begin_31 : decode cX11_begin 31 = .ok (.aload_n 0, 1) := by decide +kernel
theorem dX11_begin_32 : decode cX11_begin 32 = .ok (.getfield 96, 3) := by decide +kernel
theorem dX11_begin_35 : decode cX11_begin 35 = .ok (.iload_n 1, 1) := by decide +kernel
theorem dX11_begin_36 : decode cX11_begin 36 = .ok (.aload_n 0, 1) := by decide +kernel
theorem dX11_begin_37 : decode cX11_begin 37 = .ok (.getfield 66, 3) := by decide +kernel
theorem dX11_begin_40 : decode cX11_begin 40 = .ok (.iload_n 1, 1) := by decide +kernel
theorem dX11_begin_41 : decode cX11_begin 41 = .ok (.iaload, 1) := by decide +kernel
theorem dX11_begin_42 : decode cX11_begin 42 = .ok (.iastore, 1) := by decide +kernel
theorem dX11_begin_43 : decode cX11_begin 43 = .ok (.aload_n 0, 1) := by decide +kernel
theorem dX11_begin_44 : decode cX11_begin 44 = .ok (.getfield 96, 3) := by decide +kernel
theorem dX11_begin_47 : decode cX11_begin 47 = .ok (.bipush 6, 2) := by decide +kernel
theorem dX11_begin_49 : decode cX11_begin 49 = .ok (.iload_n 1, 1) := by decide +kernel
theorem dX11_begin_50 : decode cX11_begin 50 = .ok (.iadd, 1) := by decide +kernel
theorem dX11_begin_51 : decode cX11_begin 51 = .ok (.iconst (-1), 1) := by decide +kernel
theorem dX11_begin_52 : decode cX11_begin 52 = .ok (.iastore, 1) := by decide +kernel
theorem dX11_begin_53 : decode cX11_begin 53 = .ok (.iinc 1 1, 3) := by decide +kernel
theorem dX11_begin_56 : decode cX11_begin 56 = .ok (.goto (-33), 3) := by decide +kernel
theorem dX11_begin_59 : decode cX11_begin 59 = .ok (.iconst 0, 1) := by decide +kernel
theorem dX11_begin_60 : decode cX11_begin 60 = .ok (.istore_n 1, 1) := by decide +kernel
theorem dX11_begin_61 : decode cX11_begin 61 = .ok (.iload_n 1, 1) := by decide +kernel
theorem dX11_begin_62 : decode cX11_begin 62 = .ok (.aload_n 0, 1) := by decide +kernel
theorem dX11_begin_63 : decode cX11_begin 63 = .ok (.getfield 390, 3) := by decide +kernel
theorem dX11_begin_66 : decode cX11_begin 66 = .ok (.if_icmp .ge 69, 3) := by decide +kernel
theorem dX11_begin_69 : decode cX11_begin 69 = .ok (.aload_n 0, 1) := by decide +kernel
theorem dX11_begin_70 : decode cX11_begin 70 = .ok (.getfield 96, 3) := by decide +kernel
theorem dX11_begin_73 : decode cX11_begin 73 = .ok (.bipush 12, 2) := by decide +kernel
theorem dX11_begin_75 : decode cX11_begin 75 = .ok (.iload_n 1, 1) := by decide +kernel
theorem dX11_begin_76 : decode cX11_begin 76 = .ok (.iadd, 1) := by decide +kernel
theorem dX11_begin_77 : decode cX11_begin 77 = .ok (.aload_n 0, 1) := by decide +kernel
theorem dX11_begin_78 : decode cX11_begin 78 = .ok (.getfield 72, 3) := by decide +kernel
theorem dX11_begin_81 : decode cX11_begin 81 = .ok (.iload_n 1, 1) := by decide +kernel
theorem dX11_begin_82 : decode cX11_begin 82 = .ok (.iaload, 1) := by decide +kernel
theorem dX11_begin_83 : decode cX11_begin 83 = .ok (.iastore, 1) := by decide +kernel
theorem dX11_begin_84 : decode cX11_begin 84 = .ok (.aload_n 0, 1) := by decide +kernel
theorem dX11_begin_85 : decode cX11_begin 85 = .ok (.getfield 96, 3) := by decide +kernel
theorem dX11_begin_88 : decode cX11_begin 88 = .ok (.bipush 18, 2) := by decide +kernel
theorem dX11_begin_90 : decode cX11_begin 90 = .ok (.iload_n 1, 1) := by decide +kernel
theorem dX11_begin_91 : decode cX11_begin 91 = .ok (.iadd, 1) := by decide +kernel
theorem dX11_begin_92 : decode cX11_begin 92 = .ok (.aload_n 0, 1) := by decide +kernel
theorem dX11_begin_93 : decode cX11_begin 93 = .ok (.getfield 75, 3) := by decide +kernel
theorem dX11_begin_96 : decode cX11_begin 96 = .ok (.iload_n 1, 1) := by decide +kernel
theorem dX11_begin_97 : decode cX11_begin 97 = .ok (.iaload, 1) := by decide +kernel
theorem dX11_begin_98 : decode cX11_begin 98 = .ok (.iastore, 1) := by decide +kernel
theorem dX11_begin_99 : decode cX11_begin 99 = .ok (.aload_n 0, 1) := by decide +kernel
theorem dX11_begin_100 : decode cX11_begin 100 = .ok (.getfield 96, 3) := by decide +kernel
theorem dX11_begin_103 : decode cX11_begin 103 = .ok (.bipush 24, 2) := by decide +kernel
theorem dX11_begin_105 : decode cX11_begin 105 = .ok (.iload_n 1, 1) := by decide +kernel
theorem dX11_begin_106 : decode cX11_begin 106 = .ok (.iadd, 1) := by decide +kernel
theorem dX11_begin_107 : decode cX11_begin 107 = .ok (.aload_n 0, 1) := by decide +kernel
theorem dX11_begin_108 : decode cX11_begin 108 = .ok (.getfield 78, 3) := by decide +kernel
theorem dX11_begin_111 : decode cX11_begin 111 = .ok (.iload_n 1, 1) := by decide +kernel
theorem dX11_begin_112 : decode cX11_begin 112 = .ok (.iaload, 1) := by decide +kernel
theorem dX11_begin_113 : decode cX11_begin 113 = .ok (.iastore, 1) := by decide +kernel
theorem dX11_begin_114 : decode cX11_begin 114 = .ok (.aload_n 0, 1) := by decide +kernel
theorem dX11_begin_115 : decode cX11_begin 115 = .ok (.getfield 96, 3) := by decide +kernel
theorem dX11_begin_118 : decode cX11_begin 118 = .ok (.bipush 30, 2) := by decide +kernel
theorem dX11_begin_120 : decode cX11_begin 120 = .ok (.iload_n 1, 1) := by decide +kernel
theorem dX11_begin_121 : decode cX11_begin 121 = .ok (.iadd, 1) := by decide +kernel
theorem dX11_begin_122 : decode cX11_begin 122 = .ok (.aload_n 0, 1) := by decide +kernel
theorem dX11_begin_123 : decode cX11_begin 123 = .ok (.getfield 81, 3) := by decide +kernel
theorem dX11_begin_126 : decode cX11_begin 126 = .ok (.iload_n 1, 1) := by decide +kernel
theorem dX11_begin_127 : decode cX11_begin 127 = .ok (.iaload, 1) := by decide +kernel
theorem dX11_begin_128 : decode cX11_begin 128 = .ok (.iastore, 1) := by decide +kernel
theorem dX11_begin_129 : decode cX11_begin 129 = .ok (.iinc 1 1, 3) := by decide +kernel
theorem dX11_begin_132 : decode cX11_begin 132 = .ok (.goto (-71), 3) := by decide +kernel
theorem dX11_begin_135 : decode cX11_begin 135 = .ok (.return_, 1) := by decide +kernel
theorem dX11_close_0 : decode cX11_close 0 = .ok (.aload_n 0, 1) := by decide +kernel
theorem dX11_close_1 : decode cX11_close 1 = .ok (.getfield 256, 3) := by decide +kernel
theorem dX11_close_4 : decode cX11_close 4 = .ok (.ifCond .le 97, 3) := by decide +kernel
theorem dX11_close_7 : decode cX11_close 7 = .ok (.aload_n 0, 1) := by decide +kernel
theorem dX11_close_8 : decode cX11_close 8 = .ok (.getfield 33, 3) := by decide +kernel
theorem dX11_close_11 : decode cX11_close 11 = .ok (.aload_n 0, 1) := by decide +kernel
theorem dX11_close_12 : decode cX11_close 12 = .ok (.getfield 256, 3) := by decide +kernel
theorem dX11_close_15 : decode cX11_close 15 = .ok (.iconst 1, 1) := by decide +kernel
theorem dX11_close_16 : decode cX11_close 16 = .ok (.isub, 1) := by decide +kernel
theorem dX11_close_17 : decode cX11_close 17 = .ok (.iaload, 1) := by decide +kernel
theorem dX11_close_18 : decode cX11_close 18 = .ok (.bipush 20, 2) := by decide +kernel
theorem dX11_close_20 : decode cX11_close 20 = .ok (.if_icmp .eq 81, 3) := by decide +kernel
theorem dX11_close_23 : decode cX11_close 23 = .ok (.aload_n 0, 1) := by decide +kernel
theorem dX11_close_24 : decode cX11_close 24 = .ok (.getfield 33, 3) := by decide +kernel
theorem dX11_close_27 : decode cX11_close 27 = .ok (.aload_n 0, 1) := by decide +kernel
theorem dX11_close_28 : decode cX11_close 28 = .ok (.getfield 256, 3) := by decide +kernel
theorem dX11_close_31 : decode cX11_close 31 = .ok (.iconst 1, 1) := by decide +kernel
theorem dX11_close_32 : decode cX11_close 32 = .ok (.isub, 1) := by decide +kernel
theorem dX11_close_33 : decode cX11_close 33 = .ok (.iaload, 1) := by decide +kernel
theorem dX11_close_34 : decode cX11_close 34 = .ok (.invokestatic 259, 3) := by decide +kernel
theorem dX11_close_37 : decode cX11_close 37 = .ok (.iload_n 1, 1) := by decide +kernel
theorem dX11_close_38 : decode cX11_close 38 = .ok (.if_icmp .lt 63, 3) := by decide +kernel
theorem dX11_close_41 : decode cX11_close 41 = .ok (.aload_n 0, 1) := by decide +kernel
theorem dX11_close_42 : decode cX11_close 42 = .ok (.dup, 1) := by decide +kernel
theorem dX11_close_43 : decode cX11_close 43 = .ok (.getfield 256, 3) := by decide +kernel
theorem dX11_close_46 : decode cX11_close 46 = .ok (.iconst 1, 1) := by decide +kernel
theorem dX11_close_47 : decode cX11_close 47 = .ok (.isub, 1) := by decide +kernel
theorem dX11_close_48 : decode cX11_close 48 = .ok (.putfield 256, 3) := by decide +kernel
theorem dX11_close_51 : decode cX11_close 51 = .ok (.aload_n 0, 1) := by decide +kernel
theorem dX11_close_52 : decode cX11_close 52 = .ok (.getfield 33, 3) := by decide +kernel
theorem dX11_close_55 : decode cX11_close 55 = .ok (.aload_n 0, 1) := by decide +kernel
theorem dX11_close_56 : decode cX11_close 56 = .ok (.getfield 256, 3) := by decide +kernel
theorem dX11_close_59 : decode cX11_close 59 = .ok (.iaload, 1) := by decide +kernel
theorem dX11_close_60 : decode cX11_close 60 = .ok (.bipush 21, 2) := by decide +kernel
theorem dX11_close_62 : decode cX11_close 62 = .ok (.if_icmp .ne 22, 3) := by decide +kernel
theorem dX11_close_65 : decode cX11_close 65 = .ok (.aload_n 0, 1) := by decide +kernel
theorem dX11_close_66 : decode cX11_close 66 = .ok (.iconst 2, 1) := by decide +kernel
theorem dX11_close_67 : decode cX11_close 67 = .ok (.iconst 0, 1) := by decide +kernel
theorem dX11_close_68 : decode cX11_close 68 = .ok (.invokevirtual 262, 3) := by decide +kernel
theorem dX11_close_71 : decode cX11_close 71 = .ok (.aload_n 0, 1) := by decide +kernel
theorem dX11_close_72 : decode cX11_close 72 = .ok (.dup, 1) := by decide +kernel
theorem dX11_close_73 : decode cX11_close 73 = .ok (.getfield 266, 3) := by decide +kernel
theorem dX11_close_76 : decode cX11_close 76 = .ok (.iconst 1, 1) := by decide +kernel
theorem dX11_close_77 : decode cX11_close 77 = .ok (.isub, 1) := by decide +kernel
theorem dX11_close_78 : decode cX11_close 78 = .ok (.putfield 266, 3) := by decide +kernel
theorem dX11_close_81 : decode cX11_close 81 = .ok (.goto (-81), 3) := by decide +kernel
theorem dX11_close_84 : decode cX11_close 84 = .ok (.aload_n 0, 1) := by decide +kernel
theorem dX11_close_85 : decode cX11_close 85 = .ok (.iconst 3, 1) := by decide +kernel
theorem dX11_close_86 : decode cX11_close 86 = .ok (.aload_n 0, 1) := by decide +kernel
theorem dX11_close_87 : decode cX11_close 87 = .ok (.getfield 33, 3) := by decide +kernel
theorem dX11_close_90 : decode cX11_close 90 = .ok (.aload_n 0, 1) := by decide +kernel
theorem dX11_close_91 : decode cX11_close 91 = .ok (.getfield 256, 3) := by decide +kernel
theorem dX11_close_94 : decode cX11_close 94 = .ok (.iaload, 1) := by decide +kernel
theorem dX11_close_95 : decode cX11_close 95 = .ok (.invokevirtual 262, 3) := by decide +kernel
theorem dX11_close_98 : decode cX11_close 98 = .ok (.goto (-98), 3) := by decide +kernel
theorem dX11_close_101 : decode cX11_close 101 = .ok (.return_, 1) := by decide +kernel
theorem dX11_countUnit_0 : decode cX11_countUnit 0 = .ok (.aload_n 0, 1) := by decide +kernel
theorem dX11_countUnit_1 : decode cX11_countUnit 1 = .ok (.dup, 1) := by decide +kernel
theorem dX11_countUnit_2 : decode cX11_countUnit 2 = .ok (.getfield 269, 3) := by decide +kernel
theorem dX11_countUnit_5 : decode cX11_countUnit 5 = .ok (.iconst 1, 1) := by decide +kernel
theorem dX11_countUnit_6 : decode cX11_countUnit 6 = .ok (.iadd, 1) := by decide +kernel
theorem dX11_countUnit_7 : decode cX11_countUnit 7 = .ok (.putfield 269, 3) := by decide +kernel
theorem dX11_countUnit_10 : decode cX11_countUnit 10 = .ok (.aload_n 0, 1) := by decide +kernel
theorem dX11_countUnit_11 : decode cX11_countUnit 11 = .ok (.dup, 1) := by decide +kernel
theorem dX11_countUnit_12 : decode cX11_countUnit 12 = .ok (.getfield 272, 3) := by decide +kernel
theorem dX11_countUnit_15 : decode cX11_countUnit 15 = .ok (.iconst 1, 1) := by decide +kernel
theorem dX11_countUnit_16 : decode cX11_countUnit 16 = .ok (.iadd, 1) := by decide +kernel
theorem dX11_countUnit_17 : decode cX11_countUnit 17 = .ok (.putfield 272, 3) := by decide +kernel
theorem dX11_countUnit_20 : decode cX11_countUnit 20 = .ok (.return_, 1) := by decide +kernel
theorem dX11_end_0 : decode cX11_end 0 = .ok (.iload_n 1, 1) := by decide +kernel
theorem dX11_end_1 : decode cX11_end 1 = .ok (.ifCond .lt 11, 3) := by decide +kernel
theorem dX11_end_4 : decode cX11_end 4 = .ok (.iload_n 1, 1) := by decide +kernel
theorem dX11_end_5 : decode cX11_end 5 = .ok (.aload_n 0, 1) := by decide +kernel
theorem dX11_end_6 : decode cX11_end 6 = .ok (.getfield 139, 3) := by decide +kernel
theorem dX11_end_9 : decode cX11_end 9 = .ok (.if_icmp .le 5, 3) := by decide +kernel
theorem dX11_end_12 : decode cX11_end 12 = .ok (.iconst (-1), 1) := by decide +kernel
theorem dX11_end_13 : decode cX11_end 13 = .ok (.ireturn, 1) := by decide +kernel
theorem dX11_end_14 : decode cX11_end 14 = .ok (.aload_n 0, 1) := by decide +kernel
theorem dX11_end_15 : decode cX11_end 15 = .ok (.iload_n 1, 1) := by decide +kernel
theorem dX11_end_16 : decode cX11_end 16 = .ok (.putfield 139, 3) := by decide +kernel
theorem dX11_end_19 : decode cX11_end 19 = .ok (.iload_n 1, 1) := by decide +kernel
theorem dX11_end_20 : decode cX11_end 20 = .ok (.ireturn, 1) := by decide +kernel
theorem dX11_fault_0 : decode cX11_fault 0 = .ok (.iload_n 1, 1) := by decide +kernel
theorem dX11_fault_1 : decode cX11_fault 1 = .ok (.ifCond .ne 10, 3) := by decide +kernel
theorem dX11_fault_4 : decode cX11_fault 4 = .ok (.aload_n 0, 1) := by decide +kernel
theorem dX11_fault_5 : decode cX11_fault 5 = .ok (.getfield 179, 3) := by decide +kernel
theorem dX11_fault_8 : decode cX11_fault 8 = .ok (.goto 16, 3) := by decide +kernel
theorem dX11_fault_11 : decode cX11_fault 11 = .ok (.iload_n 1, 1) := by decide +kernel
theorem dX11_fault_12 : decode cX11_fault 12 = .ok (.iconst 1, 1) := by decide +kernel
theorem dX11_fault_13 : decode cX11_fault 13 = .ok (.if_icmp .ne 10, 3) := by decide +kernel
theorem dX11_fault_16 : decode cX11_fault 16 = .ok (.aload_n 0, 1) := by decide +kernel
theorem dX11_fault_17 : decode cX11_fault 17 = .ok (.getfield 13, 3) := by decide +kernel
theorem dX11_fault_20 : decode cX11_fault 20 = .ok (.goto 4, 3) := by decide +kernel
theorem dX11_fault_23 : decode cX11_fault 23 = .ok (.iconst (-1), 1) := by decide +kernel
theorem dX11_fault_24 : decode cX11_fault 24 = .ok (.ireturn, 1) := by decide +kernel
theorem dX11_feed_0 : decode cX11_feed 0 = .ok (.aload_n 0, 1) := by decide +kernel
theorem dX11_feed_1 : decode cX11_feed 1 = .ok (.getfield 139, 3) := by decide +kernel
theorem dX11_feed_4 : decode cX11_feed 4 = .ok (.bipush 20, 2) := by decide +kernel
theorem dX11_feed_6 : decode cX11_feed 6 = .ok (.iadd, 1) := by decide +kernel
theorem dX11_feed_7 : decode cX11_feed 7 = .ok (.sipush 1600, 3) := by decide +kernel
theorem dX11_feed_10 : decode cX11_feed 10 = .ok (.if_icmp .le 5, 3) := by decide +kernel
theorem dX11_feed_13 : decode cX11_feed 13 = .ok (.iconst (-1), 1) := by decide +kernel
theorem dX11_feed_14 : decode cX11_feed 14 = .ok (.ireturn, 1) := by decide +kernel
theorem dX11_feed_15 : decode cX11_feed 15 = .ok (.aload_n 0, 1) := by decide +kernel
theorem dX11_feed_16 : decode cX11_feed 16 = .ok (.iload_n 1, 1) := by decide +kernel
theorem dX11_feed_17 : decode cX11_feed 17 = .ok (.invokevirtual 142, 3) := by decide +kernel
theorem dX11_feed_20 : decode cX11_feed 20 = .ok (.aload_n 0, 1) := by decide +kernel
theorem dX11_feed_21 : decode cX11_feed 21 = .ok (.iload_n 2, 1) := by decide +kernel
theorem dX11_feed_22 : decode cX11_feed 22 = .ok (.invokevirtual 142, 3) := by decide +kernel
theorem dX11_feed_25 : decode cX11_feed 25 = .ok (.aload_n 0, 1) := by decide +kernel
theorem dX11_feed_26 : decode cX11_feed 26 = .ok (.iload_n 3, 1) := by decide +kernel
theorem dX11_feed_27 : decode cX11_feed 27 = .ok (.invokevirtual 142, 3) := by decide +kernel
theorem dX11_feed_30 : decode cX11_feed 30 = .ok (.aload_n 0, 1) := by decide +kernel
theorem dX11_feed_31 : decode cX11_feed 31 = .ok (.iload 4, 2) := by decide +kernel
theorem dX11_feed_33 : decode cX11_feed 33 = .ok (.invokevirtual 142, 3) := by decide +kernel
theorem dX11_feed_36 : decode cX11_feed 36 = .ok (.aload_n 0, 1) := by decide +kernel
theorem dX11_feed_37 : decode cX11_feed 37 = .ok (.iload 5, 2) := by decide +kernel
theorem dX11_feed_39 : decode cX11_feed 39 = .ok (.invokevirtual 142, 3) := by decide +kernel
theorem dX11_feed_42 : decode cX11_feed 42 = .ok (.aload_n 0, 1) := by decide +kernel
theorem dX11_feed_43 : decode cX11_feed 43 = .ok (.getfield 139, 3) := by decide +kernel
theorem dX11_feed_46 : decode cX11_feed 46 = .ok (.ireturn, 1) := by decide +kernel
theorem dX11_formula_0 : decode cX11_formula 0 = .ok (.aload_n 0, 1) := by decide +kernel
theorem dX11_formula_1 : decode cX11_formula 1 = .ok (.invokevirtual 235, 3) := by decide +kernel
theorem dX11_formula_4 : decode cX11_formula 4 = .ok (.aload_n 0, 1) := by decide +kernel
theorem dX11_formula_5 : decode cX11_formula 5 = .ok (.iconst 1, 1) := by decide +kernel
theorem dX11_formula_6 : decode cX11_formula 6 = .ok (.putfield 291, 3) := by decide +kernel
theorem dX11_formula_9 : decode cX11_formula 9 = .ok (.aload_n 0, 1) := by decide +kernel
theorem dX11_formula_10 : decode cX11_formula 10 = .ok (.iconst 0, 1) := by decide +kernel
theorem dX11_formula_11 : decode cX11_formula 11 = .ok (.putfield 253, 3) := by decide +kernel
theorem dX11_formula_14 : decode cX11_formula 14 = .ok (.aload_n 0, 1) := by decide +kernel
theorem dX11_formula_15 : decode cX11_formula 15 = .ok (.iconst 0, 1) := by decide +kernel
theorem dX11_formula_16 : decode cX11_formula 16 = .ok (.putfield 256, 3) := by decide +kernel
theorem dX11_formula_19 : decode cX11_formula 19 = .ok (.aload_n 0, 1) := by decide +kernel
theorem dX11_formula_20 : decode cX11_formula 20 = .ok (.iconst 0, 1) := by decide +kernel
theorem dX11_formula_21 : decode cX11_formula 21 = .ok (.putfield 266, 3) := by decide +kernel
theorem dX11_formula_24 : decode cX11_formula 24 = .ok (.aload_n 0, 1) := by decide +kernel
theorem dX11_formula_25 : decode cX11_formula 25 = .ok (.iconst 0, 1) := by decide +kernel
theorem dX11_formula_26 : decode cX11_formula 26 = .ok (.putfield 272, 3) := by decide +kernel
theorem dX11_formula_29 : decode cX11_formula 29 = .ok (.aload_n 0, 1) := by decide +kernel
theorem dX11_formula_30 : decode cX11_formula 30 = .ok (.invokevirtual 295, 3) := by decide +kernel
theorem dX11_formula_33 : decode cX11_formula 33 = .ok (.iconst 1, 1) := by decide +kernel
theorem dX11_formula_34 : decode cX11_formula 34 = .ok (.istore_n 1, 1) := by decide +kernel
theorem dX11_formula_35 : decode cX11_formula 35 = .ok (.iload_n 1, 1) := by decide +kernel
theorem dX11_formula_36 : decode cX11_formula 36 = .ok (.ifCond .eq 126, 3) := by decide +kernel
theorem dX11_formula_39 : decode cX11_formula 39 = .ok (.aload_n 0, 1) := by decide +kernel
theorem dX11_formula_40 : decode cX11_formula 40 = .ok (.getfield 179, 3) := by decide +kernel
theorem dX11_formula_43 : decode cX11_formula 43 = .ok (.ifCond .ne 119, 3) := by decide +kernel
theorem dX11_formula_46 : decode cX11_formula 46 = .ok (.aload_n 0, 1) := by decide +kernel
theorem dX11_formula_47 : decode cX11_formula 47 = .ok (.invokevirtual 298, 3) := by decide +kernel
theorem dX11_formula_50 : decode cX11_formula 50 = .ok (.istore_n 2, 1) := by decide +kernel
theorem dX11_formula_51 : decode cX11_formula 51 = .ok (.aload_n 0, 1) := by decide +kernel
theorem dX11_formula_52 : decode cX11_formula 52 = .ok (.getfield 166, 3) := by decide +kernel
theorem dX11_formula_55 : decode cX11_formula 55 = .ok (.bipush 41, 2) := by decide +kernel
theorem dX11_formula_57 : decode cX11_formula 57 = .ok (.if_icmp .ne 42, 3) := by decide +kernel
theorem dX11_formula_60 : decode cX11_formula 60 = .ok (.aload_n 0, 1) := by decide +kernel
theorem dX11_formula_61 : decode cX11_formula 61 = .ok (.invokevirtual 301, 3) := by decide +kernel
theorem dX11_formula_64 : decode cX11_formula 64 = .ok (.ifCond .eq 35, 3) := by decide +kernel
theorem dX11_formula_67 : decode cX11_formula 67 = .ok (.aload_n 0, 1) := by decide +kernel
theorem dX11_formula_68 : decode cX11_formula 68 = .ok (.iconst 0, 1) := by decide +kernel
theorem dX11_formula_69 : decode cX11_formula 69 = .ok (.invokevirtual 304, 3) := by decide +kernel
theorem dX11_formula_72 : decode cX11_formula 72 = .ok (.aload_n 0, 1) := by decide +kernel
theorem dX11_formula_73 : decode cX11_formula 73 = .ok (.dup, 1) := by decide +kernel
theorem dX11_formula_74 : decode cX11_formula 74 = .ok (.getfield 256, 3) := by decide +kernel
theorem dX11_formula_77 : decode cX11_formula 77 = .ok (.iconst 1, 1) := by decide +kernel
theorem dX11_formula_78 : decode cX11_formula 78 = .ok (.isub, 1) := by decide +kernel
theorem dX11_formula_79 : decode cX11_formula 79 = .ok (.putfield 256, 3) := by decide +kernel
theorem dX11_formula_82 : decode cX11_formula 82 = .ok (.aload_n 0, 1) := by decide +kernel
theorem dX11_formula_83 : decode cX11_formula 83 = .ok (.dup, 1) := by decide +kernel
theorem dX11_formula_84 : decode cX11_formula 84 = .ok (.getfield 266, 3) := by decide +kernel
theorem dX11_formula_87 : decode cX11_formula 87 = .ok (.iconst 1, 1) := by decide +kernel
theorem dX11_formula_88 : decode cX11_formula 88 = .ok (.isub, 1) := by decide +kernel
theorem dX11_formula_89 : decode cX11_formula 89 = .ok (.putfield 266, 3) := by decide +kernel
theorem dX11_formula_92 : decode cX11_formula 92 = .ok (.aload_n 0, 1) := by decide +kernel
theorem dX11_formula_93 : decode cX11_formula 93 = .ok (.invokevirtual 235, 3) := by decide +kernel
theorem dX11_formula_96 : decode cX11_formula 96 = .ok (.goto 63, 3) := by decide +kernel
theorem dX11_formula_99 : decode cX11_formula 99 = .ok (.iload_n 2, 1) := by decide +kernel
theorem dX11_formula_100 : decode cX11_formula 100 = .ok (.ifCond .eq 57, 3) := by decide +kernel
theorem dX11_formula_103 : decode cX11_formula 103 = .ok (.iload_n 2, 1) := by decide +kernel
theorem dX11_formula_104 : decode cX11_formula 104 = .ok (.invokestatic 259, 3) := by decide +kernel
theorem dX11_formula_107 : decode cX11_formula 107 = .ok (.iconst 4, 1) := by decide +kernel
theorem dX11_formula_108 : decode cX11_formula 108 = .ok (.if_icmp .ne 10, 3) := by decide +kernel
theorem dX11_formula_111 : decode cX11_formula 111 = .ok (.aload_n 0, 1) := by decide +kernel
theorem dX11_formula_112 : decode cX11_formula 112 = .ok (.invokevirtual 307, 3) := by decide +kernel
theorem dX11_formula_115 : decode cX11_formula 115 = .ok (.ifCond .ne 42, 3) := by decide +kernel
theorem dX11_formula_118 : decode cX11_formula 118 = .ok (.aload_n 0, 1) := by decide +kernel
theorem dX11_formula_119 : decode cX11_formula 119 = .ok (.iload_n 2, 1) := by decide +kernel
theorem dX11_formula_120 : decode cX11_formula 120 = .ok (.invokestatic 259, 3) := by decide +kernel
theorem dX11_formula_123 : decode cX11_formula 123 = .ok (.invokevirtual 304, 3) := by decide +kernel
theorem dX11_formula_126 : decode cX11_formula 126 = .ok (.aload_n 0, 1) := by decide +kernel
theorem dX11_formula_127 : decode cX11_formula 127 = .ok (.getfield 33, 3) := by decide +kernel
theorem dX11_formula_130 : decode cX11_formula 130 = .ok (.aload_n 0, 1) := by decide +kernel
theorem dX11_formula_131 : decode cX11_formula 131 = .ok (.getfield 256, 3) := by decide +kernel
theorem dX11_formula_134 : decode cX11_formula 134 = .ok (.iload_n 2, 1) := by decide +kernel
theorem dX11_formula_135 : decode cX11_formula 135 = .ok (.iastore, 1) := by decide +kernel
theorem dX11_formula_136 : decode cX11_formula 136 = .ok (.aload_n 0, 1) := by decide +kernel
theorem dX11_formula_137 : decode cX11_formula 137 = .ok (.dup, 1) := by decide +kernel
theorem dX11_formula_138 : decode cX11_formula 138 = .ok (.getfield 256, 3) := by decide +kernel
theorem dX11_formula_141 : decode cX11_formula 141 = .ok (.iconst 1, 1) := by decide +kernel
theorem dX11_formula_142 : decode cX11_formula 142 = .ok (.iadd, 1) := by decide +kernel
theorem dX11_formula_143 : decode cX11_formula 143 = .ok (.putfield 256, 3) := by decide +kernel
theorem dX11_formula_146 : decode cX11_formula 146 = .ok (.aload_n 0, 1) := by decide +kernel
theorem dX11_formula_147 : decode cX11_formula 147 = .ok (.invokevirtual 235, 3) := by decide +kernel
theorem dX11_formula_150 : decode cX11_formula 150 = .ok (.aload_n 0, 1) := by decide +kernel
theorem dX11_formula_151 : decode cX11_formula 151 = .ok (.invokevirtual 295, 3) := by decide +kernel
theorem dX11_formula_154 : decode cX11_formula 154 = .ok (.goto 5, 3) := by decide +kernel
theorem dX11_formula_157 : decode cX11_formula 157 = .ok (.iconst 0, 1) := by decide +kernel
theorem dX11_formula_158 : decode cX11_formula 158 = .ok (.istore_n 1, 1) := by decide +kernel
theorem dX11_formula_159 : decode cX11_formula 159 = .ok (.goto (-124), 3) := by decide +kernel
theorem dX11_formula_162 : decode cX11_formula 162 = .ok (.aload_n 0, 1) := by decide +kernel
theorem dX11_formula_163 : decode cX11_formula 163 = .ok (.getfield 179, 3) := by decide +kernel
theorem dX11_formula_166 : decode cX11_formula 166 = .ok (.ifCond .ne 15, 3) := by decide +kernel
theorem dX11_formula_169 : decode cX11_formula 169 = .ok (.aload_n 0, 1) := by decide +kernel
theorem dX11_formula_170 : decode cX11_formula 170 = .ok (.invokevirtual 301, 3) := by decide +kernel
theorem dX11_formula_173 : decode cX11_formula 173 = .ok (.ifCond .eq 8, 3) := by decide +kernel
theorem dX11_formula_176 : decode cX11_formula 176 = .ok (.aload_n 0, 1) := by decide +kernel
theorem dX11_formula_177 : decode cX11_formula 177 = .ok (.iconst 2, 1) := by decide +kernel
theorem dX11_formula_178 : decode cX11_formula 178 = .ok (.invokevirtual 232, 3) := by decide +kernel
theorem dX11_formula_181 : decode cX11_formula 181 = .ok (.aload_n 0, 1) := by decide +kernel
theorem dX11_formula_182 : decode cX11_formula 182 = .ok (.getfield 179, 3) := by decide +kernel
theorem dX11_formula_185 : decode cX11_formula 185 = .ok (.ifCond .ne 8, 3) := by decide +kernel
theorem dX11_formula_188 : decode cX11_formula 188 = .ok (.aload_n 0, 1) := by decide +kernel
theorem dX11_formula_189 : decode cX11_formula 189 = .ok (.iconst 0, 1) := by decide +kernel
theorem dX11_formula_190 : decode cX11_formula 190 = .ok (.invokevirtual 304, 3) := by decide +kernel
theorem dX11_formula_193 : decode cX11_formula 193 = .ok (.return_, 1) := by decide +kernel
theorem dX11_four_0 : decode cX11_four 0 = .ok (.bipush 24, 2) := by decide +kernel
theorem dX11_four_2 : decode cX11_four 2 = .ok (.istore_n 2, 1) := by decide +kernel
theorem dX11_four_3 : decode cX11_four 3 = .ok (.iload_n 2, 1) := by decide +kernel
theorem dX11_four_4 : decode cX11_four 4 = .ok (.ifCond .lt 35, 3) := by decide +kernel
theorem dX11_four_7 : decode cX11_four 7 = .ok (.aload_n 0, 1) := by decide +kernel
theorem dX11_four_8 : decode cX11_four 8 = .ok (.getfield 7, 3) := by decide +kernel
theorem dX11_four_11 : decode cX11_four 11 = .ok (.aload_n 0, 1) := by decide +kernel
theorem dX11_four_12 : decode cX11_four 12 = .ok (.getfield 139, 3) := by decide +kernel
theorem dX11_four_15 : decode cX11_four 15 = .ok (.iload_n 1, 1) := by decide +kernel
theorem dX11_four_16 : decode cX11_four 16 = .ok (.iload_n 2, 1) := by decide +kernel
theorem dX11_four_17 : decode cX11_four 17 = .ok (.ishr, 1) := by decide +kernel
theorem dX11_four_18 : decode cX11_four 18 = .ok (.sipush 255, 3) := by decide +kernel
theorem dX11_four_21 : decode cX11_four 21 = .ok (.iand, 1) := by decide +kernel
theorem dX11_four_22 : decode cX11_four 22 = .ok (.iastore, 1) := by decide +kernel
theorem dX11_four_23 : decode cX11_four 23 = .ok (.aload_n 0, 1) := by decide +kernel
theorem dX11_four_24 : decode cX11_four 24 = .ok (.dup, 1) := by decide +kernel
theorem dX11_four_25 : decode cX11_four 25 = .ok (.getfield 139, 3) := by decide +kernel
theorem dX11_four_28 : decode cX11_four 28 = .ok (.iconst 1, 1) := by decide +kernel
theorem dX11_four_29 : decode cX11_four 29 = .ok (.iadd, 1) := by decide +kernel
theorem dX11_four_30 : decode cX11_four 30 = .ok (.putfield 139, 3) := by decide +kernel
theorem dX11_four_33 : decode cX11_four 33 = .ok (.iinc 2 (-8), 3) := by decide +kernel
theorem dX11_four_36 : decode cX11_four 36 = .ok (.goto (-33), 3) := by decide +kernel
theorem dX11_four_39 : decode cX11_four 39 = .ok (.return_, 1) := by decide +kernel
theorem dX11_hasBracket_0 : decode cX11_hasBracket 0 = .ok (.iconst 0, 1) := by decide +kernel
theorem dX11_hasBracket_1 : decode cX11_hasBracket 1 = .ok (.istore_n 1, 1) := by decide +kernel
theorem dX11_hasBracket_2 : decode cX11_hasBracket 2 = .ok (.iconst 0, 1) := by decide +kernel
theorem dX11_hasBracket_3 : decode cX11_hasBracket 3 = .ok (.istore_n 2, 1) := by decide +kernel
theorem dX11_hasBracket_4 : decode cX11_hasBracket 4 = .ok (.iload_n 2, 1) := by decide +kernel
theorem dX11_hasBracket_5 : decode cX11_hasBracket 5 = .ok (.aload_n 0, 1) := by decide +kernel
theorem dX11_hasBracket_6 : decode cX11_hasBracket 6 = .ok (.getfield 256, 3) := by decide +kernel
theorem dX11_hasBracket_9 : decode cX11_hasBracket 9 = .ok (.if_icmp .ge 30, 3) := by decide +kernel
theorem dX11_hasBracket_12 : decode cX11_hasBracket 12 = .ok (.iload_n 1, 1) := by decide +kernel
theorem dX11_hasBracket_13 : decode cX11_hasBracket 13 = .ok (.ifCond .ne 14, 3) := by decide +kernel
theorem dX11_hasBracket_16 : decode cX11_hasBracket 16 = .ok (.aload_n 0, 1) := by decide +kernel
theorem dX11_hasBracket_17 : decode cX11_hasBracket 17 = .ok (.getfield 33, 3) := by decide +kernel
theorem dX11_hasBracket_20 : decode cX11_hasBracket 20 = .ok (.iload_n 2, 1) := by decide +kernel
theorem dX11_hasBracket_21 : decode cX11_hasBracket 21 = .ok (.iaload, 1) := by decide +kernel
theorem dX11_hasBracket_22 : decode cX11_hasBracket 22 = .ok (.bipush 20, 2) := by decide +kernel
theorem dX11_hasBracket_24 : decode cX11_hasBracket 24 = .ok (.if_icmp .ne 7, 3) := by decide +kernel
theorem dX11_hasBracket_27 : decode cX11_hasBracket 27 = .ok (.iconst 1, 1) := by decide +kernel
theorem dX11_hasBracket_28 : decode cX11_hasBracket 28 = .ok (.goto 4, 3) := by decide +kernel
theorem dX11_hasBracket_31 : decode cX11_hasBracket 31 = .ok (.iconst 0, 1) := by decide +kernel
theorem dX11_hasBracket_32 : decode cX11_hasBracket 32 = .ok (.istore_n 1, 1) := by decide +kernel
theorem dX11_hasBracket_33 : decode cX11_hasBracket 33 = .ok (.iinc 2 1, 3) := by decide +kernel
theorem dX11_hasBracket_36 : decode cX11_hasBracket 36 = .ok (.goto (-32), 3) := by decide +kernel
theorem dX11_hasBracket_39 : decode cX11_hasBracket 39 = .ok (.iload_n 1, 1) := by decide +kernel
theorem dX11_hasBracket_40 : decode cX11_hasBracket 40 = .ok (.ireturn, 1) := by decide +kernel
theorem dX11_hasRelation_0 : decode cX11_hasRelation 0 = .ok (.aload_n 0, 1) := by decide +kernel
theorem dX11_hasRelation_1 : decode cX11_hasRelation 1 = .ok (.getfield 256, 3) := by decide +kernel
theorem dX11_hasRelation_4 : decode cX11_hasRelation 4 = .ok (.iconst 1, 1) := by decide +kernel
theorem dX11_hasRelation_5 : decode cX11_hasRelation 5 = .ok (.isub, 1) := by decide +kernel
theorem dX11_hasRelation_6 : decode cX11_hasRelation 6 = .ok (.istore_n 1, 1) := by decide +kernel
theorem dX11_hasRelation_7 : decode cX11_hasRelation 7 = .ok (.iload_n 1, 1) := by decide +kernel
theorem dX11_hasRelation_8 : decode cX11_hasRelation 8 = .ok (.ifCond .lt 33, 3) := by decide +kernel
theorem dX11_hasRelation_11 : decode cX11_hasRelation 11 = .ok (.aload_n 0, 1) := by decide +kernel
theorem dX11_hasRelation_12 : decode cX11_hasRelation 12 = .ok (.getfield 33, 3) := by decide +kernel
theorem dX11_hasRelation_15 : decode cX11_hasRelation 15 = .ok (.iload_n 1, 1) := by decide +kernel
theorem dX11_hasRelation_16 : decode cX11_hasRelation 16 = .ok (.iaload, 1) := by decide +kernel
theorem dX11_hasRelation_17 : decode cX11_hasRelation 17 = .ok (.bipush 20, 2) := by decide +kernel
theorem dX11_hasRelation_19 : decode cX11_hasRelation 19 = .ok (.if_icmp .eq 22, 3) := by decide +kernel
theorem dX11_hasRelation_22 : decode cX11_hasRelation 22 = .ok (.aload_n 0, 1) := by decide +kernel
theorem dX11_hasRelation_23 : decode cX11_hasRelation 23 = .ok (.getfield 33, 3) := by decide +kernel
theorem dX11_hasRelation_26 : decode cX11_hasRelation 26 = .ok (.iload_n 1, 1) := by decide +kernel
theorem dX11_hasRelation_27 : decode cX11_hasRelation 27 = .ok (.iaload, 1) := by decide +kernel
theorem dX11_hasRelation_28 : decode cX11_hasRelation 28 = .ok (.invokestatic 259, 3) := by decide +kernel
theorem dX11_hasRelation_31 : decode cX11_hasRelation 31 = .ok (.iconst 4, 1) := by decide +kernel
theorem dX11_hasRelation_32 : decode cX11_hasRelation 32 = .ok (.if_icmp .le 9, 3) := by decide +kernel
theorem dX11_hasRelation_35 : decode cX11_hasRelation 35 = .ok (.iinc 1 (-1), 3) := by decide +kernel
theorem dX11_hasRelation_38 : decode cX11_hasRelation 38 = .ok (.goto (-31), 3) := by decide +kernel
theorem dX11_hasRelation_41 : decode cX11_hasRelation 41 = .ok (.iload_n 1, 1) := by decide +kernel
theorem dX11_hasRelation_42 : decode cX11_hasRelation 42 = .ok (.ifCond .lt 31, 3) := by decide +kernel
theorem dX11_hasRelation_45 : decode cX11_hasRelation 45 = .ok (.aload_n 0, 1) := by decide +kernel
theorem dX11_hasRelation_46 : decode cX11_hasRelation 46 = .ok (.getfield 33, 3) := by decide +kernel
theorem dX11_hasRelation_49 : decode cX11_hasRelation 49 = .ok (.iload_n 1, 1) := by decide +kernel
theorem dX11_hasRelation_50 : decode cX11_hasRelation 50 = .ok (.iaload, 1) := by decide +kernel
theorem dX11_hasRelation_51 : decode cX11_hasRelation 51 = .ok (.bipush 20, 2) := by decide +kernel
theorem dX11_hasRelation_53 : decode cX11_hasRelation 53 = .ok (.if_icmp .eq 20, 3) := by decide +kernel
theorem dX11_hasRelation_56 : decode cX11_hasRelation 56 = .ok (.aload_n 0, 1) := by decide +kernel
theorem dX11_hasRelation_57 : decode cX11_hasRelation 57 = .ok (.getfield 33, 3) := by decide +kernel
theorem dX11_hasRelation_60 : decode cX11_hasRelation 60 = .ok (.iload_n 1, 1) := by decide +kernel
theorem dX11_hasRelation_61 : decode cX11_hasRelation 61 = .ok (.iaload, 1) := by decide +kernel
theorem dX11_hasRelation_62 : decode cX11_hasRelation 62 = .ok (.invokestatic 259, 3) := by decide +kernel
theorem dX11_hasRelation_65 : decode cX11_hasRelation 65 = .ok (.iconst 4, 1) := by decide +kernel
theorem dX11_hasRelation_66 : decode cX11_hasRelation 66 = .ok (.if_icmp .ne 7, 3) := by decide +kernel
theorem dX11_hasRelation_69 : decode cX11_hasRelation 69 = .ok (.iconst 1, 1) := by decide +kernel
theorem dX11_hasRelation_70 : decode cX11_hasRelation 70 = .ok (.goto 4, 3) := by decide +kernel
theorem dX11_hasRelation_73 : decode cX11_hasRelation 73 = .ok (.iconst 0, 1) := by decide +kernel
theorem dX11_hasRelation_74 : decode cX11_hasRelation 74 = .ok (.ireturn, 1) := by decide +kernel
theorem dX11_here_0 : decode cX11_here 0 = .ok (.aload_n 0, 1) := by decide +kernel
theorem dX11_here_1 : decode cX11_here 1 = .ok (.getfield 146, 3) := by decide +kernel
theorem dX11_here_4 : decode cX11_here 4 = .ok (.iload_n 1, 1) := by decide +kernel
theorem dX11_here_5 : decode cX11_here 5 = .ok (.iadd, 1) := by decide +kernel
theorem dX11_here_6 : decode cX11_here 6 = .ok (.aload_n 0, 1) := by decide +kernel
theorem dX11_here_7 : decode cX11_here 7 = .ok (.getfield 149, 3) := by decide +kernel
theorem dX11_here_10 : decode cX11_here 10 = .ok (.if_icmp .ge 17, 3) := by decide +kernel
theorem dX11_here_13 : decode cX11_here 13 = .ok (.aload_n 0, 1) := by decide +kernel
theorem dX11_here_14 : decode cX11_here 14 = .ok (.getfield 7, 3) := by decide +kernel
theorem dX11_here_17 : decode cX11_here 17 = .ok (.aload_n 0, 1) := by decide +kernel
theorem dX11_here_18 : decode cX11_here 18 = .ok (.getfield 146, 3) := by decide +kernel
theorem dX11_here_21 : decode cX11_here 21 = .ok (.iload_n 1, 1) := by decide +kernel
theorem dX11_here_22 : decode cX11_here 22 = .ok (.iadd, 1) := by decide +kernel
theorem dX11_here_23 : decode cX11_here 23 = .ok (.iaload, 1) := by decide +kernel
theorem dX11_here_24 : decode cX11_here 24 = .ok (.goto 4, 3) := by decide +kernel
theorem dX11_here_27 : decode cX11_here 27 = .ok (.iconst (-1), 1) := by decide +kernel
theorem dX11_here_28 : decode cX11_here 28 = .ok (.ireturn, 1) := by decide +kernel
theorem dX11_isDigit_0 : decode cX11_isDigit 0 = .ok (.iload_n 0, 1) := by decide +kernel
theorem dX11_isDigit_1 : decode cX11_isDigit 1 = .ok (.bipush 48, 2) := by decide +kernel
theorem dX11_isDigit_3 : decode cX11_isDigit 3 = .ok (.if_icmp .lt 13, 3) := by decide +kernel
theorem dX11_isDigit_6 : decode cX11_isDigit 6 = .ok (.iload_n 0, 1) := by decide +kernel
theorem dX11_isDigit_7 : decode cX11_isDigit 7 = .ok (.bipush 57, 2) := by decide +kernel
theorem dX11_isDigit_9 : decode cX11_isDigit 9 = .ok (.if_icmp .gt 7, 3) := by decide +kernel
theorem dX11_isDigit_12 : decode cX11_isDigit 12 = .ok (.iconst 1, 1) := by decide +kernel
theorem dX11_isDigit_13 : decode cX11_isDigit 13 = .ok (.goto 4, 3) := by decide +kernel
theorem dX11_isDigit_16 : decode cX11_isDigit 16 = .ok (.iconst 0, 1) := by decide +kernel
theorem dX11_isDigit_17 : decode cX11_isDigit 17 = .ok (.ireturn, 1) := by decide +kernel
theorem dX11_isFull_0 : decode cX11_isFull 0 = .ok (.aload_n 0, 1) := by decide +kernel
theorem dX11_isFull_1 : decode cX11_isFull 1 = .ok (.getfield 269, 3) := by decide +kernel
theorem dX11_isFull_4 : decode cX11_isFull 4 = .ok (.bipush 60, 2) := by decide +kernel
theorem dX11_isFull_6 : decode cX11_isFull 6 = .ok (.if_icmp .eq 12, 3) := by decide +kernel
theorem dX11_isFull_9 : decode cX11_isFull 9 = .ok (.aload_n 0, 1) := by decide +kernel
theorem dX11_isFull_10 : decode cX11_isFull 10 = .ok (.getfield 272, 3) := by decide +kernel
theorem dX11_isFull_13 : decode cX11_isFull 13 = .ok (.bipush 30, 2) := by decide +kernel
theorem dX11_isFull_15 : decode cX11_isFull 15 = .ok (.if_icmp .ne 7, 3) := by decide +kernel
theorem dX11_isFull_18 : decode cX11_isFull 18 = .ok (.iconst 1, 1) := by decide +kernel
theorem dX11_isFull_19 : decode cX11_isFull 19 = .ok (.goto 4, 3) := by decide +kernel
theorem dX11_isFull_22 : decode cX11_isFull 22 = .ok (.iconst 0, 1) := by decide +kernel
theorem dX11_isFull_23 : decode cX11_isFull 23 = .ok (.ireturn, 1) := by decide +kernel
theorem dX11_isLetter_0 : decode cX11_isLetter 0 = .ok (.iload_n 0, 1) := by decide +kernel
theorem dX11_isLetter_1 : decode cX11_isLetter 1 = .ok (.bipush 97, 2) := by decide +kernel
theorem dX11_isLetter_3 : decode cX11_isLetter 3 = .ok (.if_icmp .lt 13, 3) := by decide +kernel
theorem dX11_isLetter_6 : decode cX11_isLetter 6 = .ok (.iload_n 0, 1) := by decide +kernel
theorem dX11_isLetter_7 : decode cX11_isLetter 7 = .ok (.bipush 122, 2) := by decide +kernel
theorem dX11_isLetter_9 : decode cX11_isLetter 9 = .ok (.if_icmp .gt 7, 3) := by decide +kernel
theorem dX11_isLetter_12 : decode cX11_isLetter 12 = .ok (.iconst 1, 1) := by decide +kernel
theorem dX11_isLetter_13 : decode cX11_isLetter 13 = .ok (.goto 4, 3) := by decide +kernel
theorem dX11_isLetter_16 : decode cX11_isLetter 16 = .ok (.iconst 0, 1) := by decide +kernel
theorem dX11_isLetter_17 : decode cX11_isLetter 17 = .ok (.ireturn, 1) := by decide +kernel
theorem dX11_isName_0 : decode cX11_isName 0 = .ok (.aload_n 0, 1) := by decide +kernel
theorem dX11_isName_1 : decode cX11_isName 1 = .ok (.getfield 166, 3) := by decide +kernel
theorem dX11_isName_4 : decode cX11_isName 4 = .ok (.iconst 1, 1) := by decide +kernel
theorem dX11_isName_5 : decode cX11_isName 5 = .ok (.if_icmp .ne 14, 3) := by decide +kernel
theorem dX11_isName_8 : decode cX11_isName 8 = .ok (.aload_n 0, 1) := by decide +kernel
theorem dX11_isName_9 : decode cX11_isName 9 = .ok (.invokevirtual 224, 3) := by decide +kernel
theorem dX11_isName_12 : decode cX11_isName 12 = .ok (.ifCond .ne 7, 3) := by decide +kernel
theorem dX11_isName_15 : decode cX11_isName 15 = .ok (.iconst 1, 1) := by decide +kernel
theorem dX11_isName_16 : decode cX11_isName 16 = .ok (.goto 4, 3) := by decide +kernel
theorem dX11_isName_19 : decode cX11_isName 19 = .ok (.iconst 0, 1) := by decide +kernel
theorem dX11_isName_20 : decode cX11_isName 20 = .ok (.ireturn, 1) := by decide +kernel
theorem dX11_isOwn_0 : decode cX11_isOwn 0 = .ok (.aload_n 0, 1) := by decide +kernel
theorem dX11_isOwn_1 : decode cX11_isOwn 1 = .ok (.getfield 159, 3) := by decide +kernel
theorem dX11_isOwn_4 : decode cX11_isOwn 4 = .ok (.ldc2_w 182, 3) := by decide +kernel
theorem dX11_isOwn_7 : decode cX11_isOwn 7 = .ok (.lcmp, 1) := by decide +kernel
theorem dX11_isOwn_8 : decode cX11_isOwn 8 = .ok (.ifCond .eq 223, 3) := by decide +kernel
theorem dX11_isOwn_11 : decode cX11_isOwn 11 = .ok (.aload_n 0, 1) := by decide +kernel
theorem dX11_isOwn_12 : decode cX11_isOwn 12 = .ok (.getfield 159, 3) := by decide +kernel
theorem dX11_isOwn_15 : decode cX11_isOwn 15 = .ok (.ldc2_w 184, 3) := by decide +kernel
theorem dX11_isOwn_18 : decode cX11_isOwn 18 = .ok (.lcmp, 1) := by decide +kernel
theorem dX11_isOwn_19 : decode cX11_isOwn 19 = .ok (.ifCond .eq 212, 3) := by decide +kernel
theorem dX11_isOwn_22 : decode cX11_isOwn 22 = .ok (.aload_n 0, 1) := by decide +kernel
theorem dX11_isOwn_23 : decode cX11_isOwn 23 = .ok (.getfield 159, 3) := by decide +kernel
theorem dX11_isOwn_26 : decode cX11_isOwn 26 = .ok (.ldc2_w 186, 3) := by decide +kernel
theorem dX11_isOwn_29 : decode cX11_isOwn 29 = .ok (.lcmp, 1) := by decide +kernel
theorem dX11_isOwn_30 : decode cX11_isOwn 30 = .ok (.ifCond .eq 201, 3) := by decide +kernel
theorem dX11_isOwn_33 : decode cX11_isOwn 33 = .ok (.aload_n 0, 1) := by decide +kernel
theorem dX11_isOwn_34 : decode cX11_isOwn 34 = .ok (.getfield 159, 3) := by decide +kernel
theorem dX11_isOwn_37 : decode cX11_isOwn 37 = .ok (.ldc2_w 188, 3) := by decide +kernel
theorem dX11_isOwn_40 : decode cX11_isOwn 40 = .ok (.lcmp, 1) := by decide +kernel
theorem dX11_isOwn_41 : decode cX11_isOwn 41 = .ok (.ifCond .eq 190, 3) := by decide +kernel
theorem dX11_isOwn_44 : decode cX11_isOwn 44 = .ok (.aload_n 0, 1) := by decide +kernel
theorem dX11_isOwn_45 : decode cX11_isOwn 45 = .ok (.getfield 159, 3) := by decide +kernel
theorem dX11_isOwn_48 : decode cX11_isOwn 48 = .ok (.ldc2_w 190, 3) := by decide +kernel
theorem dX11_isOwn_51 : decode cX11_isOwn 51 = .ok (.lcmp, 1) := by decide +kernel
theorem dX11_isOwn_52 : decode cX11_isOwn 52 = .ok (.ifCond .eq 179, 3) := by decide +kernel
theorem dX11_isOwn_55 : decode cX11_isOwn 55 = .ok (.aload_n 0, 1) := by decide +kernel
theorem dX11_isOwn_56 : decode cX11_isOwn 56 = .ok (.getfield 159, 3) := by decide +kernel
theorem dX11_isOwn_59 : decode cX11_isOwn 59 = .ok (.ldc2_w 192, 3) := by decide +kernel
theorem dX11_isOwn_62 : decode cX11_isOwn 62 = .ok (.lcmp, 1) := by decide +kernel
theorem dX11_isOwn_63 : decode cX11_isOwn 63 = .ok (.ifCond .eq 168, 3) := by decide +kernel
theorem dX11_isOwn_66 : decode cX11_isOwn 66 = .ok (.aload_n 0, 1) := by decide +kernel
theorem dX11_isOwn_67 : decode cX11_isOwn 67 = .ok (.getfield 159, 3) := by decide +kernel
theorem dX11_isOwn_70 : decode cX11_isOwn 70 = .ok (.ldc2_w 194, 3) := by decide +kernel
theorem dX11_isOwn_73 : decode cX11_isOwn 73 = .ok (.lcmp, 1) := by decide +kernel
theorem dX11_isOwn_74 : decode cX11_isOwn 74 = .ok (.ifCond .eq 157, 3) := by decide +kernel
theorem dX11_isOwn_77 : decode cX11_isOwn 77 = .ok (.aload_n 0, 1) := by decide +kernel
theorem dX11_isOwn_78 : decode cX11_isOwn 78 = .ok (.getfield 159, 3) := by decide +kernel
theorem dX11_isOwn_81 : decode cX11_isOwn 81 = .ok (.ldc2_w 196, 3) := by decide +kernel
theorem dX11_isOwn_84 : decode cX11_isOwn 84 = .ok (.lcmp, 1) := by decide +kernel
theorem dX11_isOwn_85 : decode cX11_isOwn 85 = .ok (.ifCond .eq 146, 3) := by decide +kernel
theorem dX11_isOwn_88 : decode cX11_isOwn 88 = .ok (.aload_n 0, 1) := by decide +kernel
theorem dX11_isOwn_89 : decode cX11_isOwn 89 = .ok (.getfield 159, 3) := by decide +kernel
theorem dX11_isOwn_92 : decode cX11_isOwn 92 = .ok (.ldc2_w 198, 3) := by decide +kernel
theorem dX11_isOwn_95 : decode cX11_isOwn 95 = .ok (.lcmp, 1) := by decide +kernel
theorem dX11_isOwn_96 : decode cX11_isOwn 96 = .ok (.ifCond .eq 135, 3) := by decide +kernel
theorem dX11_isOwn_99 : decode cX11_isOwn 99 = .ok (.aload_n 0, 1) := by decide +kernel
theorem dX11_isOwn_100 : decode cX11_isOwn 100 = .ok (.getfield 159, 3) := by decide +kernel
theorem dX11_isOwn_103 : decode cX11_isOwn 103 = .ok (.ldc2_w 200, 3) := by decide +kernel
theorem dX11_isOwn_106 : decode cX11_isOwn 106 = .ok (.lcmp, 1) := by decide +kernel
theorem dX11_isOwn_107 : decode cX11_isOwn 107 = .ok (.ifCond .eq 124, 3) := by decide +kernel
theorem dX11_isOwn_110 : decode cX11_isOwn 110 = .ok (.aload_n 0, 1) := by decide +kernel
theorem dX11_isOwn_111 : decode cX11_isOwn 111 = .ok (.getfield 159, 3) := by decide +kernel
theorem dX11_isOwn_114 : decode cX11_isOwn 114 = .ok (.ldc2_w 202, 3) := by decide +kernel
theorem dX11_isOwn_117 : decode cX11_isOwn 117 = .ok (.lcmp, 1) := by decide +kernel
theorem dX11_isOwn_118 : decode cX11_isOwn 118 = .ok (.ifCond .eq 113, 3) := by decide +kernel
theorem dX11_isOwn_121 : decode cX11_isOwn 121 = .ok (.aload_n 0, 1) := by decide +kernel
theorem dX11_isOwn_122 : decode cX11_isOwn 122 = .ok (.getfield 159, 3) := by decide +kernel
theorem dX11_isOwn_125 : decode cX11_isOwn 125 = .ok (.ldc2_w 204, 3) := by decide +kernel
theorem dX11_isOwn_128 : decode cX11_isOwn 128 = .ok (.lcmp, 1) := by decide +kernel
theorem dX11_isOwn_129 : decode cX11_isOwn 129 = .ok (.ifCond .eq 102, 3) := by decide +kernel
theorem dX11_isOwn_132 : decode cX11_isOwn 132 = .ok (.aload_n 0, 1) := by decide +kernel
theorem dX11_isOwn_133 : decode cX11_isOwn 133 = .ok (.getfield 159, 3) := by decide +kernel
theorem dX11_isOwn_136 : decode cX11_isOwn 136 = .ok (.ldc2_w 206, 3) := by decide +kernel
theorem dX11_isOwn_139 : decode cX11_isOwn 139 = .ok (.lcmp, 1) := by decide +kernel
theorem dX11_isOwn_140 : decode cX11_isOwn 140 = .ok (.ifCond .eq 91, 3) := by decide +kernel
theorem dX11_isOwn_143 : decode cX11_isOwn 143 = .ok (.aload_n 0, 1) := by decide +kernel
theorem dX11_isOwn_144 : decode cX11_isOwn 144 = .ok (.getfield 159, 3) := by decide +kernel
theorem dX11_isOwn_147 : decode cX11_isOwn 147 = .ok (.ldc2_w 208, 3) := by decide +kernel
theorem dX11_isOwn_150 : decode cX11_isOwn 150 = .ok (.lcmp, 1) := by decide +kernel
theorem dX11_isOwn_151 : decode cX11_isOwn 151 = .ok (.ifCond .eq 80, 3) := by decide +kernel
theorem dX11_isOwn_154 : decode cX11_isOwn 154 = .ok (.aload_n 0, 1) := by decide +kernel
theorem dX11_isOwn_155 : decode cX11_isOwn 155 = .ok (.getfield 159, 3) := by decide +kernel
theorem dX11_isOwn_158 : decode cX11_isOwn 158 = .ok (.ldc2_w 210, 3) := by decide +kernel
theorem dX11_isOwn_161 : decode cX11_isOwn 161 = .ok (.lcmp, 1) := by decide +kernel
theorem dX11_isOwn_162 : decode cX11_isOwn 162 = .ok (.ifCond .eq 69, 3) := by decide +kernel
theorem dX11_isOwn_165 : decode cX11_isOwn 165 = .ok (.aload_n 0, 1) := by decide +kernel
theorem dX11_isOwn_166 : decode cX11_isOwn 166 = .ok (.getfield 159, 3) := by decide +kernel
theorem dX11_isOwn_169 : decode cX11_isOwn 169 = .ok (.ldc2_w 212, 3) := by decide +kernel
theorem dX11_isOwn_172 : decode cX11_isOwn 172 = .ok (.lcmp, 1) := by decide +kernel
theorem dX11_isOwn_173 : decode cX11_isOwn 173 = .ok (.ifCond .eq 58, 3) := by decide +kernel
theorem dX11_isOwn_176 : decode cX11_isOwn 176 = .ok (.aload_n 0, 1) := by decide +kernel
theorem dX11_isOwn_177 : decode cX11_isOwn 177 = .ok (.getfield 159, 3) := by decide +kernel
theorem dX11_isOwn_180 : decode cX11_isOwn 180 = .ok (.ldc2_w 214, 3) := by decide +kernel
theorem dX11_isOwn_183 : decode cX11_isOwn 183 = .ok (.lcmp, 1) := by decide +kernel
theorem dX11_isOwn_184 : decode cX11_isOwn 184 = .ok (.ifCond .eq 47, 3) := by decide +kernel
theorem dX11_isOwn_187 : decode cX11_isOwn 187 = .ok (.aload_n 0, 1) := by decide +kernel
theorem dX11_isOwn_188 : decode cX11_isOwn 188 = .ok (.getfield 159, 3) := by decide +kernel
theorem dX11_isOwn_191 : decode cX11_isOwn 191 = .ok (.ldc2_w 216, 3) := by decide +kernel
theorem dX11_isOwn_194 : decode cX11_isOwn 194 = .ok (.lcmp, 1) := by decide +kernel
theorem dX11_isOwn_195 : decode cX11_isOwn 195 = .ok (.ifCond .eq 36, 3) := by decide +kernel
theorem dX11_isOwn_198 : decode cX11_isOwn 198 = .ok (.aload_n 0, 1) := by decide +kernel
theorem dX11_isOwn_199 : decode cX11_isOwn 199 = .ok (.getfield 159, 3) := by decide +kernel
theorem dX11_isOwn_202 : decode cX11_isOwn 202 = .ok (.ldc2_w 218, 3) := by decide +kernel
theorem dX11_isOwn_205 : decode cX11_isOwn 205 = .ok (.lcmp, 1) := by decide +kernel
theorem dX11_isOwn_206 : decode cX11_isOwn 206 = .ok (.ifCond .eq 25, 3) := by decide +kernel
theorem dX11_isOwn_209 : decode cX11_isOwn 209 = .ok (.aload_n 0, 1) := by decide +kernel
theorem dX11_isOwn_210 : decode cX11_isOwn 210 = .ok (.getfield 159, 3) := by decide +kernel
theorem dX11_isOwn_213 : decode cX11_isOwn 213 = .ok (.ldc2_w 220, 3) := by decide +kernel
theorem dX11_isOwn_216 : decode cX11_isOwn 216 = .ok (.lcmp, 1) := by decide +kernel
theorem dX11_isOwn_217 : decode cX11_isOwn 217 = .ok (.ifCond .eq 14, 3) := by decide +kernel
theorem dX11_isOwn_220 : decode cX11_isOwn 220 = .ok (.aload_n 0, 1) := by decide +kernel
theorem dX11_isOwn_221 : decode cX11_isOwn 221 = .ok (.getfield 159, 3) := by decide +kernel
theorem dX11_isOwn_224 : decode cX11_isOwn 224 = .ok (.ldc2_w 222, 3) := by decide +kernel
theorem dX11_isOwn_227 : decode cX11_isOwn 227 = .ok (.lcmp, 1) := by decide +kernel
theorem dX11_isOwn_228 : decode cX11_isOwn 228 = .ok (.ifCond .ne 7, 3) := by decide +kernel
theorem dX11_isOwn_231 : decode cX11_isOwn 231 = .ok (.iconst 1, 1) := by decide +kernel
theorem dX11_isOwn_232 : decode cX11_isOwn 232 = .ok (.goto 4, 3) := by decide +kernel
theorem dX11_isOwn_235 : decode cX11_isOwn 235 = .ok (.iconst 0, 1) := by decide +kernel
theorem dX11_isOwn_236 : decode cX11_isOwn 236 = .ok (.ireturn, 1) := by decide +kernel
theorem dX11_isSign_0 : decode cX11_isSign 0 = .ok (.iload_n 0, 1) := by decide +kernel
theorem dX11_isSign_1 : decode cX11_isSign 1 = .ok (.bipush 59, 2) := by decide +kernel
theorem dX11_isSign_3 : decode cX11_isSign 3 = .ok (.if_icmp .eq 63, 3) := by decide +kernel
theorem dX11_isSign_6 : decode cX11_isSign 6 = .ok (.iload_n 0, 1) := by decide +kernel
theorem dX11_isSign_7 : decode cX11_isSign 7 = .ok (.bipush 40, 2) := by decide +kernel
theorem dX11_isSign_9 : decode cX11_isSign 9 = .ok (.if_icmp .eq 57, 3) := by decide +kernel
theorem dX11_isSign_12 : decode cX11_isSign 12 = .ok (.iload_n 0, 1) := by decide +kernel
theorem dX11_isSign_13 : decode cX11_isSign 13 = .ok (.bipush 41, 2) := by decide +kernel
theorem dX11_isSign_15 : decode cX11_isSign 15 = .ok (.if_icmp .eq 51, 3) := by decide +kernel
theorem dX11_isSign_18 : decode cX11_isSign 18 = .ok (.iload_n 0, 1) := by decide +kernel
theorem dX11_isSign_19 : decode cX11_isSign 19 = .ok (.bipush 60, 2) := by decide +kernel
theorem dX11_isSign_21 : decode cX11_isSign 21 = .ok (.if_icmp .eq 45, 3) := by decide +kernel
theorem dX11_isSign_24 : decode cX11_isSign 24 = .ok (.iload_n 0, 1) := by decide +kernel
theorem dX11_isSign_25 : decode cX11_isSign 25 = .ok (.bipush 62, 2) := by decide +kernel
theorem dX11_isSign_27 : decode cX11_isSign 27 = .ok (.if_icmp .eq 39, 3) := by decide +kernel
theorem dX11_isSign_30 : decode cX11_isSign 30 = .ok (.iload_n 0, 1) := by decide +kernel
theorem dX11_isSign_31 : decode cX11_isSign 31 = .ok (.bipush 61, 2) := by decide +kernel
theorem dX11_isSign_33 : decode cX11_isSign 33 = .ok (.if_icmp .eq 33, 3) := by decide +kernel
theorem dX11_isSign_36 : decode cX11_isSign 36 = .ok (.iload_n 0, 1) := by decide +kernel
theorem dX11_isSign_37 : decode cX11_isSign 37 = .ok (.bipush 43, 2) := by decide +kernel
theorem dX11_isSign_39 : decode cX11_isSign 39 = .ok (.if_icmp .eq 27, 3) := by decide +kernel
theorem dX11_isSign_42 : decode cX11_isSign 42 = .ok (.iload_n 0, 1) := by decide +kernel
theorem dX11_isSign_43 : decode cX11_isSign 43 = .ok (.bipush 45, 2) := by decide +kernel
theorem dX11_isSign_45 : decode cX11_isSign 45 = .ok (.if_icmp .eq 21, 3) := by decide +kernel
theorem dX11_isSign_48 : decode cX11_isSign 48 = .ok (.iload_n 0, 1) := by decide +kernel
theorem dX11_isSign_49 : decode cX11_isSign 49 = .ok (.bipush 42, 2) := by decide +kernel
theorem dX11_isSign_51 : decode cX11_isSign 51 = .ok (.if_icmp .eq 15, 3) := by decide +kernel
theorem dX11_isSign_54 : decode cX11_isSign 54 = .ok (.iload_n 0, 1) := by decide +kernel
theorem dX11_isSign_55 : decode cX11_isSign 55 = .ok (.bipush 47, 2) := by decide +kernel
theorem dX11_isSign_57 : decode cX11_isSign 57 = .ok (.if_icmp .eq 9, 3) := by decide +kernel
theorem dX11_isSign_60 : decode cX11_isSign 60 = .ok (.iload_n 0, 1) := by decide +kernel
theorem dX11_isSign_61 : decode cX11_isSign 61 = .ok (.bipush 37, 2) := by decide +kernel
theorem dX11_isSign_63 : decode cX11_isSign 63 = .ok (.if_icmp .ne 7, 3) := by decide +kernel
theorem dX11_isSign_66 : decode cX11_isSign 66 = .ok (.iconst 1, 1) := by decide +kernel
theorem dX11_isSign_67 : decode cX11_isSign 67 = .ok (.goto 4, 3) := by decide +kernel
theorem dX11_isSign_70 : decode cX11_isSign 70 = .ok (.iconst 0, 1) := by decide +kernel
theorem dX11_isSign_71 : decode cX11_isSign 71 = .ok (.ireturn, 1) := by decide +kernel
theorem dX11_isWord_0 : decode cX11_isWord 0 = .ok (.aload_n 0, 1) := by decide +kernel
theorem dX11_isWord_1 : decode cX11_isWord 1 = .ok (.getfield 166, 3) := by decide +kernel
theorem dX11_isWord_4 : decode cX11_isWord 4 = .ok (.iconst 1, 1) := by decide +kernel
theorem dX11_isWord_5 : decode cX11_isWord 5 = .ok (.if_icmp .ne 16, 3) := by decide +kernel
theorem dX11_isWord_8 : decode cX11_isWord 8 = .ok (.aload_n 0, 1) := by decide +kernel
theorem dX11_isWord_9 : decode cX11_isWord 9 = .ok (.getfield 159, 3) := by decide +kernel
theorem dX11_isWord_12 : decode cX11_isWord 12 = .ok (.lload_n 1, 1) := by decide +kernel
theorem dX11_isWord_13 : decode cX11_isWord 13 = .ok (.lcmp, 1) := by decide +kernel
theorem dX11_isWord_14 : decode cX11_isWord 14 = .ok (.ifCond .ne 7, 3) := by decide +kernel
theorem dX11_isWord_17 : decode cX11_isWord 17 = .ok (.iconst 1, 1) := by decide +kernel
theorem dX11_isWord_18 : decode cX11_isWord 18 = .ok (.goto 4, 3) := by decide +kernel
theorem dX11_isWord_21 : decode cX11_isWord 21 = .ok (.iconst 0, 1) := by decide +kernel
theorem dX11_isWord_22 : decode cX11_isWord 22 = .ok (.ireturn, 1) := by decide +kernel
theorem dX11_keepAir_0 : decode cX11_keepAir 0 = .ok (.iconst 0, 1) := by decide +kernel
theorem dX11_keepAir_1 : decode cX11_keepAir 1 = .ok (.istore_n 1, 1) := by decide +kernel
theorem dX11_keepAir_2 : decode cX11_keepAir 2 = .ok (.iload_n 1, 1) := by decide +kernel
theorem dX11_keepAir_3 : decode cX11_keepAir 3 = .ok (.bipush 39, 2) := by decide +kernel
theorem dX11_keepAir_5 : decode cX11_keepAir 5 = .ok (.if_icmp .ge 21, 3) := by decide +kernel
theorem dX11_keepAir_8 : decode cX11_keepAir 8 = .ok (.aload_n 0, 1) := by decide +kernel
theorem dX11_keepAir_9 : decode cX11_keepAir 9 = .ok (.getfield 93, 3) := by decide +kernel
theorem dX11_keepAir_12 : decode cX11_keepAir 12 = .ok (.iload_n 1, 1) := by decide +kernel
theorem dX11_keepAir_13 : decode cX11_keepAir 13 = .ok (.aload_n 0, 1) := by decide +kernel
theorem dX11_keepAir_14 : decode cX11_keepAir 14 = .ok (.getfield 96, 3) := by decide +kernel
theorem dX11_keepAir_17 : decode cX11_keepAir 17 = .ok (.iload_n 1, 1) := by decide +kernel
theorem dX11_keepAir_18 : decode cX11_keepAir 18 = .ok (.iaload, 1) := by decide +kernel
theorem dX11_keepAir_19 : decode cX11_keepAir 19 = .ok (.iastore, 1) := by decide +kernel
theorem dX11_keepAir_20 : decode cX11_keepAir 20 = .ok (.iinc 1 1, 3) := by decide +kernel
theorem dX11_keepAir_23 : decode cX11_keepAir 23 = .ok (.goto (-21), 3) := by decide +kernel
theorem dX11_keepAir_26 : decode cX11_keepAir 26 = .ok (.return_, 1) := by decide +kernel
theorem dX11_mayNot_0 : decode cX11_mayNot 0 = .ok (.aload_n 0, 1) := by decide +kernel
theorem dX11_mayNot_1 : decode cX11_mayNot 1 = .ok (.getfield 256, 3) := by decide +kernel
theorem dX11_mayNot_4 : decode cX11_mayNot 4 = .ok (.ifCond .eq 37, 3) := by decide +kernel
theorem dX11_mayNot_7 : decode cX11_mayNot 7 = .ok (.aload_n 0, 1) := by decide +kernel
theorem dX11_mayNot_8 : decode cX11_mayNot 8 = .ok (.getfield 33, 3) := by decide +kernel
theorem dX11_mayNot_11 : decode cX11_mayNot 11 = .ok (.aload_n 0, 1) := by decide +kernel
theorem dX11_mayNot_12 : decode cX11_mayNot 12 = .ok (.getfield 256, 3) := by decide +kernel
theorem dX11_mayNot_15 : decode cX11_mayNot 15 = .ok (.iconst 1, 1) := by decide +kernel
theorem dX11_mayNot_16 : decode cX11_mayNot 16 = .ok (.isub, 1) := by decide +kernel
theorem dX11_mayNot_17 : decode cX11_mayNot 17 = .ok (.iaload, 1) := by decide +kernel
theorem dX11_mayNot_18 : decode cX11_mayNot 18 = .ok (.bipush 20, 2) := by decide +kernel
theorem dX11_mayNot_20 : decode cX11_mayNot 20 = .ok (.if_icmp .eq 21, 3) := by decide +kernel
theorem dX11_mayNot_23 : decode cX11_mayNot 23 = .ok (.aload_n 0, 1) := by decide +kernel
theorem dX11_mayNot_24 : decode cX11_mayNot 24 = .ok (.getfield 33, 3) := by decide +kernel
theorem dX11_mayNot_27 : decode cX11_mayNot 27 = .ok (.aload_n 0, 1) := by decide +kernel
theorem dX11_mayNot_28 : decode cX11_mayNot 28 = .ok (.getfield 256, 3) := by decide +kernel
theorem dX11_mayNot_31 : decode cX11_mayNot 31 = .ok (.iconst 1, 1) := by decide +kernel
theorem dX11_mayNot_32 : decode cX11_mayNot 32 = .ok (.isub, 1) := by decide +kernel
theorem dX11_mayNot_33 : decode cX11_mayNot 33 = .ok (.iaload, 1) := by decide +kernel
theorem dX11_mayNot_34 : decode cX11_mayNot 34 = .ok (.invokestatic 259, 3) := by decide +kernel
theorem dX11_mayNot_37 : decode cX11_mayNot 37 = .ok (.iconst 4, 1) := by decide +kernel
theorem dX11_mayNot_38 : decode cX11_mayNot 38 = .ok (.if_icmp .ge 7, 3) := by decide +kernel
theorem dX11_mayNot_41 : decode cX11_mayNot 41 = .ok (.iconst 1, 1) := by decide +kernel
theorem dX11_mayNot_42 : decode cX11_mayNot 42 = .ok (.goto 4, 3) := by decide +kernel
theorem dX11_mayNot_45 : decode cX11_mayNot 45 = .ok (.iconst 0, 1) := by decide +kernel
theorem dX11_mayNot_46 : decode cX11_mayNot 46 = .ok (.ireturn, 1) := by decide +kernel
theorem dX11_newName_0 : decode cX11_newName 0 = .ok (.aload_n 0, 1) := by decide +kernel
theorem dX11_newName_1 : decode cX11_newName 1 = .ok (.invokevirtual 235, 3) := by decide +kernel
theorem dX11_newName_4 : decode cX11_newName 4 = .ok (.aload_n 0, 1) := by decide +kernel
theorem dX11_newName_5 : decode cX11_newName 5 = .ok (.invokevirtual 250, 3) := by decide +kernel
theorem dX11_newName_8 : decode cX11_newName 8 = .ok (.ifCond .ne 8, 3) := by decide +kernel
theorem dX11_newName_11 : decode cX11_newName 11 = .ok (.aload_n 0, 1) := by decide +kernel
theorem dX11_newName_12 : decode cX11_newName 12 = .ok (.iconst 2, 1) := by decide +kernel
theorem dX11_newName_13 : decode cX11_newName 13 = .ok (.invokevirtual 232, 3) := by decide +kernel
theorem dX11_newName_16 : decode cX11_newName 16 = .ok (.iconst 0, 1) := by decide +kernel
theorem dX11_newName_17 : decode cX11_newName 17 = .ok (.istore_n 3, 1) := by decide +kernel
theorem dX11_newName_18 : decode cX11_newName 18 = .ok (.iload_n 3, 1) := by decide +kernel
theorem dX11_newName_19 : decode cX11_newName 19 = .ok (.iload_n 2, 1) := by decide +kernel
theorem dX11_newName_20 : decode cX11_newName 20 = .ok (.if_icmp .ge 37, 3) := by decide +kernel
theorem dX11_newName_23 : decode cX11_newName 23 = .ok (.aload_n 0, 1) := by decide +kernel
theorem dX11_newName_24 : decode cX11_newName 24 = .ok (.getfield 179, 3) := by decide +kernel
theorem dX11_newName_27 : decode cX11_newName 27 = .ok (.ifCond .ne 30, 3) := by decide +kernel
theorem dX11_newName_30 : decode cX11_newName 30 = .ok (.aload_n 0, 1) := by decide +kernel
theorem dX11_newName_31 : decode cX11_newName 31 = .ok (.getfield 17, 3) := by decide +kernel
theorem dX11_newName_34 : decode cX11_newName 34 = .ok (.iload_n 1, 1) := by decide +kernel
theorem dX11_newName_35 : decode cX11_newName 35 = .ok (.iload_n 3, 1) := by decide +kernel
theorem dX11_newName_36 : decode cX11_newName 36 = .ok (.iadd, 1) := by decide +kernel
theorem dX11_newName_37 : decode cX11_newName 37 = .ok (.laload, 1) := by decide +kernel
theorem dX11_newName_38 : decode cX11_newName 38 = .ok (.aload_n 0, 1) := by decide +kernel
theorem dX11_newName_39 : decode cX11_newName 39 = .ok (.getfield 159, 3) := by decide +kernel
theorem dX11_newName_42 : decode cX11_newName 42 = .ok (.lcmp, 1) := by decide +kernel
theorem dX11_newName_43 : decode cX11_newName 43 = .ok (.ifCond .ne 8, 3) := by decide +kernel
theorem dX11_newName_46 : decode cX11_newName 46 = .ok (.aload_n 0, 1) := by decide +kernel
theorem dX11_newName_47 : decode cX11_newName 47 = .ok (.iconst 3, 1) := by decide +kernel
theorem dX11_newName_48 : decode cX11_newName 48 = .ok (.invokevirtual 232, 3) := by decide +kernel
theorem dX11_newName_51 : decode cX11_newName 51 = .ok (.iinc 3 1, 3) := by decide +kernel
theorem dX11_newName_54 : decode cX11_newName 54 = .ok (.goto (-36), 3) := by decide +kernel
theorem dX11_newName_57 : decode cX11_newName 57 = .ok (.aload_n 0, 1) := by decide +kernel
theorem dX11_newName_58 : decode cX11_newName 58 = .ok (.getfield 179, 3) := by decide +kernel
theorem dX11_newName_61 : decode cX11_newName 61 = .ok (.ifCond .le 4, 3) := by decide +kernel
theorem dX11_newName_64 : decode cX11_newName 64 = .ok (.return_, 1) := by decide +kernel
theorem dX11_newName_65 : decode cX11_newName 65 = .ok (.aload_n 0, 1) := by decide +kernel
theorem dX11_newName_66 : decode cX11_newName 66 = .ok (.getfield 17, 3) := by decide +kernel
theorem dX11_newName_69 : decode cX11_newName 69 = .ok (.iload_n 1, 1) := by decide +kernel
theorem dX11_newName_70 : decode cX11_newName 70 = .ok (.iload_n 2, 1) := by decide +kernel
theorem dX11_newName_71 : decode cX11_newName 71 = .ok (.iadd, 1) := by decide +kernel
theorem dX11_newName_72 : decode cX11_newName 72 = .ok (.aload_n 0, 1) := by decide +kernel
theorem dX11_newName_73 : decode cX11_newName 73 = .ok (.getfield 159, 3) := by decide +kernel
theorem dX11_newName_76 : decode cX11_newName 76 = .ok (.lastore, 1) := by decide +kernel
theorem dX11_newName_77 : decode cX11_newName 77 = .ok (.aload_n 0, 1) := by decide +kernel
theorem dX11_newName_78 : decode cX11_newName 78 = .ok (.invokevirtual 235, 3) := by decide +kernel
theorem dX11_newName_81 : decode cX11_newName 81 = .ok (.return_, 1) := by decide +kernel
theorem dX11_openUp_0 : decode cX11_openUp 0 = .ok (.aload_n 0, 1) := by decide +kernel
theorem dX11_openUp_1 : decode cX11_openUp 1 = .ok (.getfield 33, 3) := by decide +kernel
theorem dX11_openUp_4 : decode cX11_openUp 4 = .ok (.aload_n 0, 1) := by decide +kernel
theorem dX11_openUp_5 : decode cX11_openUp 5 = .ok (.getfield 256, 3) := by decide +kernel
theorem dX11_openUp_8 : decode cX11_openUp 8 = .ok (.iload_n 1, 1) := by decide +kernel
theorem dX11_openUp_9 : decode cX11_openUp 9 = .ok (.iastore, 1) := by decide +kernel
theorem dX11_openUp_10 : decode cX11_openUp 10 = .ok (.aload_n 0, 1) := by decide +kernel
theorem dX11_openUp_11 : decode cX11_openUp 11 = .ok (.dup, 1) := by decide +kernel
theorem dX11_openUp_12 : decode cX11_openUp 12 = .ok (.getfield 256, 3) := by decide +kernel
theorem dX11_openUp_15 : decode cX11_openUp 15 = .ok (.iconst 1, 1) := by decide +kernel
theorem dX11_openUp_16 : decode cX11_openUp 16 = .ok (.iadd, 1) := by decide +kernel
theorem dX11_openUp_17 : decode cX11_openUp 17 = .ok (.putfield 256, 3) := by decide +kernel
theorem dX11_openUp_20 : decode cX11_openUp 20 = .ok (.aload_n 0, 1) := by decide +kernel
theorem dX11_openUp_21 : decode cX11_openUp 21 = .ok (.dup, 1) := by decide +kernel
theorem dX11_openUp_22 : decode cX11_openUp 22 = .ok (.getfield 266, 3) := by decide +kernel
theorem dX11_openUp_25 : decode cX11_openUp 25 = .ok (.iconst 1, 1) := by decide +kernel
theorem dX11_openUp_26 : decode cX11_openUp 26 = .ok (.iadd, 1) := by decide +kernel
theorem dX11_openUp_27 : decode cX11_openUp 27 = .ok (.putfield 266, 3) := by decide +kernel
theorem dX11_openUp_30 : decode cX11_openUp 30 = .ok (.aload_n 0, 1) := by decide +kernel
theorem dX11_openUp_31 : decode cX11_openUp 31 = .ok (.getfield 179, 3) := by decide +kernel
theorem dX11_openUp_34 : decode cX11_openUp 34 = .ok (.ifCond .ne 7, 3) := by decide +kernel
theorem dX11_openUp_37 : decode cX11_openUp 37 = .ok (.aload_n 0, 1) := by decide +kernel
theorem dX11_openUp_38 : decode cX11_openUp 38 = .ok (.invokevirtual 235, 3) := by decide +kernel
theorem dX11_openUp_41 : decode cX11_openUp 41 = .ok (.return_, 1) := by decide +kernel
theorem dX11_option_0 : decode cX11_option 0 = .ok (.aload_n 0, 1) := by decide +kernel
theorem dX11_option_1 : decode cX11_option 1 = .ok (.getfield 179, 3) := by decide +kernel
theorem dX11_option_4 : decode cX11_option 4 = .ok (.ifCond .ne 20, 3) := by decide +kernel
theorem dX11_option_7 : decode cX11_option 7 = .ok (.aload_n 0, 1) := by decide +kernel
theorem dX11_option_8 : decode cX11_option 8 = .ok (.lload_n 1, 1) := by decide +kernel
theorem dX11_option_9 : decode cX11_option 9 = .ok (.invokevirtual 228, 3) := by decide +kernel
theorem dX11_option_12 : decode cX11_option 12 = .ok (.ifCond .eq 12, 3) := by decide +kernel
theorem dX11_option_15 : decode cX11_option 15 = .ok (.aload_n 0, 1) := by decide +kernel
theorem dX11_option_16 : decode cX11_option 16 = .ok (.lload_n 1, 1) := by decide +kernel
theorem dX11_option_17 : decode cX11_option 17 = .ok (.iload_n 3, 1) := by decide +kernel
theorem dX11_option_18 : decode cX11_option 18 = .ok (.invokevirtual 246, 3) := by decide +kernel
theorem dX11_option_21 : decode cX11_option 21 = .ok (.goto 4, 3) := by decide +kernel
theorem dX11_option_24 : decode cX11_option 24 = .ok (.iconst 0, 1) := by decide +kernel
theorem dX11_option_25 : decode cX11_option 25 = .ok (.ireturn, 1) := by decide +kernel
theorem dX11_readAll_0 : decode cX11_readAll 0 = .ok (.aload_n 0, 1) := by decide +kernel
theorem dX11_readAll_1 : decode cX11_readAll 1 = .ok (.aload_n 0, 1) := by decide +kernel
theorem dX11_readAll_2 : decode cX11_readAll 2 = .ok (.getfield 139, 3) := by decide +kernel
theorem dX11_readAll_5 : decode cX11_readAll 5 = .ok (.putfield 149, 3) := by decide +kernel
theorem dX11_readAll_8 : decode cX11_readAll 8 = .ok (.aload_n 0, 1) := by decide +kernel
theorem dX11_readAll_9 : decode cX11_readAll 9 = .ok (.iconst 0, 1) := by decide +kernel
theorem dX11_readAll_10 : decode cX11_readAll 10 = .ok (.putfield 139, 3) := by decide +kernel
theorem dX11_readAll_13 : decode cX11_readAll 13 = .ok (.aload_n 0, 1) := by decide +kernel
theorem dX11_readAll_14 : decode cX11_readAll 14 = .ok (.iconst 0, 1) := by decide +kernel
theorem dX11_readAll_15 : decode cX11_readAll 15 = .ok (.putfield 146, 3) := by decide +kernel
theorem dX11_readAll_18 : decode cX11_readAll 18 = .ok (.aload_n 0, 1) := by decide +kernel
theorem dX11_readAll_19 : decode cX11_readAll 19 = .ok (.iconst 0, 1) := by decide +kernel
theorem dX11_readAll_20 : decode cX11_readAll 20 = .ok (.putfield 179, 3) := by decide +kernel
theorem dX11_readAll_23 : decode cX11_readAll 23 = .ok (.aload_n 0, 1) := by decide +kernel
theorem dX11_readAll_24 : decode cX11_readAll 24 = .ok (.iconst (-1), 1) := by decide +kernel
theorem dX11_readAll_25 : decode cX11_readAll 25 = .ok (.putfield 13, 3) := by decide +kernel
theorem dX11_readAll_28 : decode cX11_readAll 28 = .ok (.aload_n 0, 1) := by decide +kernel
theorem dX11_readAll_29 : decode cX11_readAll 29 = .ok (.iconst 0, 1) := by decide +kernel
theorem dX11_readAll_30 : decode cX11_readAll 30 = .ok (.putfield 330, 3) := by decide +kernel
theorem dX11_readAll_33 : decode cX11_readAll 33 = .ok (.aload_n 0, 1) := by decide +kernel
theorem dX11_readAll_34 : decode cX11_readAll 34 = .ok (.iconst 0, 1) := by decide +kernel
theorem dX11_readAll_35 : decode cX11_readAll 35 = .ok (.putfield 339, 3) := by decide +kernel
theorem dX11_readAll_38 : decode cX11_readAll 38 = .ok (.aload_n 0, 1) := by decide +kernel
theorem dX11_readAll_39 : decode cX11_readAll 39 = .ok (.bipush 10, 2) := by decide +kernel
theorem dX11_readAll_41 : decode cX11_readAll 41 = .ok (.putfield 354, 3) := by decide +kernel
theorem dX11_readAll_44 : decode cX11_readAll 44 = .ok (.aload_n 0, 1) := by decide +kernel
theorem dX11_readAll_45 : decode cX11_readAll 45 = .ok (.sipush 150, 3) := by decide +kernel
theorem dX11_readAll_48 : decode cX11_readAll 48 = .ok (.putfield 360, 3) := by decide +kernel
theorem dX11_readAll_51 : decode cX11_readAll 51 = .ok (.aload_n 0, 1) := by decide +kernel
theorem dX11_readAll_52 : decode cX11_readAll 52 = .ok (.iconst 2, 1) := by decide +kernel
theorem dX11_readAll_53 : decode cX11_readAll 53 = .ok (.putfield 366, 3) := by decide +kernel
theorem dX11_readAll_56 : decode cX11_readAll 56 = .ok (.aload_n 0, 1) := by decide +kernel
theorem dX11_readAll_57 : decode cX11_readAll 57 = .ok (.iconst 0, 1) := by decide +kernel
theorem dX11_readAll_58 : decode cX11_readAll 58 = .ok (.putfield 372, 3) := by decide +kernel
theorem dX11_readAll_61 : decode cX11_readAll 61 = .ok (.aload_n 0, 1) := by decide +kernel
theorem dX11_readAll_62 : decode cX11_readAll 62 = .ok (.iconst 0, 1) := by decide +kernel
theorem dX11_readAll_63 : decode cX11_readAll 63 = .ok (.putfield 378, 3) := by decide +kernel
theorem dX11_readAll_66 : decode cX11_readAll 66 = .ok (.aload_n 0, 1) := by decide +kernel
theorem dX11_readAll_67 : decode cX11_readAll 67 = .ok (.iconst 0, 1) := by decide +kernel
theorem dX11_readAll_68 : decode cX11_readAll 68 = .ok (.putfield 351, 3) := by decide +kernel
theorem dX11_readAll_71 : decode cX11_readAll 71 = .ok (.aload_n 0, 1) := by decide +kernel
theorem dX11_readAll_72 : decode cX11_readAll 72 = .ok (.iconst 0, 1) := by decide +kernel
theorem dX11_readAll_73 : decode cX11_readAll 73 = .ok (.putfield 357, 3) := by decide +kernel
theorem dX11_readAll_76 : decode cX11_readAll 76 = .ok (.aload_n 0, 1) := by decide +kernel
theorem dX11_readAll_77 : decode cX11_readAll 77 = .ok (.iconst 0, 1) := by decide +kernel
theorem dX11_readAll_78 : decode cX11_readAll 78 = .ok (.putfield 363, 3) := by decide +kernel
theorem dX11_readAll_81 : decode cX11_readAll 81 = .ok (.aload_n 0, 1) := by decide +kernel
theorem dX11_readAll_82 : decode cX11_readAll 82 = .ok (.iconst 0, 1) := by decide +kernel
theorem dX11_readAll_83 : decode cX11_readAll 83 = .ok (.putfield 369, 3) := by decide +kernel
theorem dX11_readAll_86 : decode cX11_readAll 86 = .ok (.aload_n 0, 1) := by decide +kernel
theorem dX11_readAll_87 : decode cX11_readAll 87 = .ok (.iconst 0, 1) := by decide +kernel
theorem dX11_readAll_88 : decode cX11_readAll 88 = .ok (.putfield 375, 3) := by decide +kernel
theorem dX11_readAll_91 : decode cX11_readAll 91 = .ok (.aload_n 0, 1) := by decide +kernel
theorem dX11_readAll_92 : decode cX11_readAll 92 = .ok (.iconst 0, 1) := by decide +kernel
theorem dX11_readAll_93 : decode cX11_readAll 93 = .ok (.putfield 291, 3) := by decide +kernel
theorem dX11_readAll_96 : decode cX11_readAll 96 = .ok (.aload_n 0, 1) := by decide +kernel
theorem dX11_readAll_97 : decode cX11_readAll 97 = .ok (.iconst 0, 1) := by decide +kernel
theorem dX11_readAll_98 : decode cX11_readAll 98 = .ok (.putfield 269, 3) := by decide +kernel
theorem dX11_readAll_101 : decode cX11_readAll 101 = .ok (.aload_n 0, 1) := by decide +kernel
theorem dX11_readAll_102 : decode cX11_readAll 102 = .ok (.invokevirtual 235, 3) := by decide +kernel
theorem dX11_readAll_105 : decode cX11_readAll 105 = .ok (.aload_n 0, 1) := by decide +kernel
theorem dX11_readAll_106 : decode cX11_readAll 106 = .ok (.getfield 179, 3) := by decide +kernel
theorem dX11_readAll_109 : decode cX11_readAll 109 = .ok (.ifCond .ne 17, 3) := by decide +kernel
theorem dX11_readAll_112 : decode cX11_readAll 112 = .ok (.aload_n 0, 1) := by decide +kernel
theorem dX11_readAll_113 : decode cX11_readAll 113 = .ok (.getfield 166, 3) := by decide +kernel
theorem dX11_readAll_116 : decode cX11_readAll 116 = .ok (.ifCond .eq 10, 3) := by decide +kernel
theorem dX11_readAll_119 : decode cX11_readAll 119 = .ok (.aload_n 0, 1) := by decide +kernel
theorem dX11_readAll_120 : decode cX11_readAll 120 = .ok (.invokevirtual 381, 3) := by decide +kernel
theorem dX11_readAll_123 : decode cX11_readAll 123 = .ok (.goto (-18), 3) := by decide +kernel
theorem dX11_readAll_126 : decode cX11_readAll 126 = .ok (.return_, 1) := by decide +kernel
theorem dX11_readCoat_0 : decode cX11_readCoat 0 = .ok (.aload_n 0, 1) := by decide +kernel
theorem dX11_readCoat_1 : decode cX11_readCoat 1 = .ok (.bipush 6, 2) := by decide +kernel
theorem dX11_readCoat_3 : decode cX11_readCoat 3 = .ok (.aload_n 0, 1) := by decide +kernel
theorem dX11_readCoat_4 : decode cX11_readCoat 4 = .ok (.getfield 339, 3) := by decide +kernel
theorem dX11_readCoat_7 : decode cX11_readCoat 7 = .ok (.invokevirtual 333, 3) := by decide +kernel
theorem dX11_readCoat_10 : decode cX11_readCoat 10 = .ok (.aload_n 0, 1) := by decide +kernel
theorem dX11_readCoat_11 : decode cX11_readCoat 11 = .ok (.getfield 51, 3) := by decide +kernel
