theorem dX11_wings_30 : decode cX11_wings 30 = .ok (.iload_n 2, 1) := dk_28 dg_cX11_wings_1079.2.2.1
theorem dX11_wings_31 : decode cX11_wings 31 = .ok (.iload 4, 2) := dk_21 dg_cX11_wings_1079.2.2.2.1
theorem dX11_wings_33 : decode cX11_wings 33 = .ok (.ishr, 1) := dk_122 dg_cX11_wings_1079.2.2.2.2.1
theorem dX11_wings_34 : decode cX11_wings 34 = .ok (.iconst 1, 1) := dk_4 dg_cX11_wings_1079.2.2.2.2.2.1
theorem dX11_wings_35 : decode cX11_wings 35 = .ok (.iand, 1) := dk_126 dg_cX11_wings_1079.2.2.2.2.2.2.1
theorem dX11_wings_36 : decode cX11_wings 36 = .ok (.iconst 1, 1) := dk_4 dg_cX11_wings_1079.2.2.2.2.2.2.2
theorem dg_cX11_wings_1080 : ck3s cX11_wings 37 160 10 = true ∧ ck1 cX11_wings 40 4 = true ∧ ck2 cX11_wings 41 21 4 = true ∧ ck1 cX11_wings 43 120 = true ∧ ck3s cX11_wings 44 167 4 = true ∧ ck1 cX11_wings 47 29 = true ∧ ck1 cX11_wings 48 62 = true ∧ ck3i cX11_wings 49 132 4 (-1) = true := by decide +kernel
theorem dX11_wings_37 : decode cX11_wings 37 = .ok (.if_icmp .ne 10, 3) := dk_160 dg_cX11_wings_1080.1
theorem dX11_wings_40 : decode cX11_wings 40 = .ok (.iconst 1, 1) := dk_4 dg_cX11_wings_1080.2.1
theorem dX11_wings_41 : decode cX11_wings 41 = .ok (.iload 4, 2) := dk_21 dg_cX11_wings_1080.2.2.1
theorem dX11_wings_43 : decode cX11_wings 43 = .ok (.ishl, 1) := dk_120 dg_cX11_wings_1080.2.2.2.1
theorem dX11_wings_44 : decode cX11_wings 44 = .ok (.goto 4, 3) := dk_167 dg_cX11_wings_1080.2.2.2.2.1
theorem dX11_wings_47 : decode cX11_wings 47 = .ok (.iload_n 3, 1) := dk_29 dg_cX11_wings_1080.2.2.2.2.2.1
theorem dX11_wings_48 : decode cX11_wings 48 = .ok (.istore_n 3, 1) := dk_62 dg_cX11_wings_1080.2.2.2.2.2.2.1
theorem dX11_wings_49 : decode cX11_wings 49 = .ok (.iinc 4 (-1), 3) := dk_132 dg_cX11_wings_1080.2.2.2.2.2.2.2
theorem dg_cX11_wings_1081 : ck3s cX11_wings 52 167 (-27) = true ∧ ck1 cX11_wings 55 28 = true ∧ ck2 cX11_wings 56 54 4 = true ∧ ck1 cX11_wings 58 42 = true ∧ ck1 cX11_wings 59 28 = true ∧ ck3 cX11_wings 60 182 492 = true ∧ ck2 cX11_wings 63 54 5 = true := by decide +kernel
theorem dX11_wings_52 : decode cX11_wings 52 = .ok (.goto (-27), 3) := dk_167 dg_cX11_wings_1081.1
theorem dX11_wings_55 : decode cX11_wings 55 = .ok (.iload_n 2, 1) := dk_28 dg_cX11_wings_1081.2.1
theorem dX11_wings_56 : decode cX11_wings 56 = .ok (.istore 4, 2) := dk_54 dg_cX11_wings_1081.2.2.1
theorem dX11_wings_58 : decode cX11_wings 58 = .ok (.aload_n 0, 1) := dk_42 dg_cX11_wings_1081.2.2.2.1
theorem dX11_wings_59 : decode cX11_wings 59 = .ok (.iload_n 2, 1) := dk_28 dg_cX11_wings_1081.2.2.2.2.1
theorem dX11_wings_60 : decode cX11_wings 60 = .ok (.invokevirtual 492, 3) := dk_182 dg_cX11_wings_1081.2.2.2.2.2.1
theorem dX11_wings_63 : decode cX11_wings 63 = .ok (.istore 5, 2) := dk_54 dg_cX11_wings_1081.2.2.2.2.2.2
def dS_cX11_wings_2 : List UInt8 := 0 :: 13 :: 21 :: 6 :: 21 :: 4 :: 161 :: 0 :: 6 :: 167 :: 0 :: 11 :: 21 :: 7 :: 54 :: 5 :: 21 :: 6 :: 54 :: 4 :: 132 :: 6 :: 1 :: 167 :: 255 :: 173 :: 27 :: 154 :: 0 :: 8 :: 21 :: 5 :: 167 :: 0 :: 5 :: 21 :: 4 :: 172 :: []
def dS_cX11_wings_1 : List UInt8 := 5 :: 3 :: 54 :: 6 :: 21 :: 6 :: 28 :: 163 :: 0 :: 83 :: 21 :: 6 :: 28 :: 2 :: 130 :: 126 :: 154 :: 0 :: 68 :: 21 :: 6 :: 29 :: 126 :: 29 :: 159 :: 0 :: 6 :: 167 :: 0 :: 57 :: 42 :: 21 :: 6 :: 182 :: 1 :: 236 :: 42 :: 28 :: 21 :: 6 :: 2 :: 130 :: 126 :: 182 :: 1 :: 236 :: 100 :: 184 :: 1 :: 239 :: 54 :: 7 :: 21 :: 7 :: 21 :: 5 :: 163 :: 0 :: 28 :: 21 :: 7 :: 21 :: 5 :: 160 :: dS_cX11_wings_2
def dS_cX11_wings_0 : List UInt8 := 27 :: 3 :: 4 :: 184 :: 1 :: 161 :: 154 :: 0 :: 5 :: 2 :: 172 :: 42 :: 182 :: 1 :: 193 :: 42 :: 182 :: 1 :: 184 :: 61 :: 3 :: 62 :: 8 :: 54 :: 4 :: 21 :: 4 :: 155 :: 0 :: 28 :: 28 :: 21 :: 4 :: 122 :: 4 :: 126 :: 4 :: 160 :: 0 :: 10 :: 4 :: 21 :: 4 :: 120 :: 167 :: 0 :: 4 :: 29 :: 62 :: 132 :: 4 :: 255 :: 167 :: 255 :: 229 :: 28 :: 54 :: 4 :: 42 :: 28 :: 182 :: 1 :: 236 :: 54 :: dS_cX11_wings_1
theorem dT_cX11_wings_0 : cX11_wings.data.toList.drop 0 = dS_cX11_wings_0 := by decide +kernel
theorem dT_cX11_wings_1 : cX11_wings.data.toList.drop 64 = dS_cX11_wings_1 := ck_nx dT_cX11_wings_0 (by decide +kernel) rfl
theorem dT_cX11_wings_2 : cX11_wings.data.toList.drop 128 = dS_cX11_wings_2 := ck_nx dT_cX11_wings_1 (by decide +kernel) rfl
theorem dg_cX11_wings_1082 : ck1L dS_cX11_wings_1 1 3 = true ∧ ck2L dS_cX11_wings_1 2 54 6 = true ∧ ck2L dS_cX11_wings_1 4 21 6 = true ∧ ck1L dS_cX11_wings_1 6 28 = true ∧ ck3sL dS_cX11_wings_1 7 163 83 = true ∧ ck2L dS_cX11_wings_1 10 21 6 = true ∧ ck1L dS_cX11_wings_1 12 28 = true ∧ ck1L dS_cX11_wings_1 13 2 = true := by decide +kernel
theorem dX11_wings_65 : decode cX11_wings 65 = .ok (.iconst 0, 1) := dk_3 (ck1_s (r := 1) dT_cX11_wings_1 rfl dg_cX11_wings_1082.1)
theorem dX11_wings_66 : decode cX11_wings 66 = .ok (.istore 6, 2) := dk_54 (ck2_s (r := 2) dT_cX11_wings_1 rfl dg_cX11_wings_1082.2.1)
theorem dX11_wings_68 : decode cX11_wings 68 = .ok (.iload 6, 2) := dk_21 (ck2_s (r := 4) dT_cX11_wings_1 rfl dg_cX11_wings_1082.2.2.1)
theorem dX11_wings_70 : decode cX11_wings 70 = .ok (.iload_n 2, 1) := dk_28 (ck1_s (r := 6) dT_cX11_wings_1 rfl dg_cX11_wings_1082.2.2.2.1)
theorem dX11_wings_71 : decode cX11_wings 71 = .ok (.if_icmp .gt 83, 3) := dk_163 (ck3s_s (r := 7) dT_cX11_wings_1 rfl dg_cX11_wings_1082.2.2.2.2.1)
theorem dX11_wings_74 : decode cX11_wings 74 = .ok (.iload 6, 2) := dk_21 (ck2_s (r := 10) dT_cX11_wings_1 rfl dg_cX11_wings_1082.2.2.2.2.2.1)
theorem dX11_wings_76 : decode cX11_wings 76 = .ok (.iload_n 2, 1) := dk_28 (ck1_s (r := 12) dT_cX11_wings_1 rfl dg_cX11_wings_1082.2.2.2.2.2.2.1)
theorem dX11_wings_77 : decode cX11_wings 77 = .ok (.iconst (-1), 1) := dk_2 (ck1_s (r := 13) dT_cX11_wings_1 rfl dg_cX11_wings_1082.2.2.2.2.2.2.2)
theorem dg_cX11_wings_1083 : ck1L dS_cX11_wings_1 14 130 = true ∧ ck1L dS_cX11_wings_1 15 126 = true ∧ ck3sL dS_cX11_wings_1 16 154 68 = true ∧ ck2L dS_cX11_wings_1 19 21 6 = true ∧ ck1L dS_cX11_wings_1 21 29 = true ∧ ck1L dS_cX11_wings_1 22 126 = true ∧ ck1L dS_cX11_wings_1 23 29 = true ∧ ck3sL dS_cX11_wings_1 24 159 6 = true := by decide +kernel
theorem dX11_wings_78 : decode cX11_wings 78 = .ok (.ixor, 1) := dk_130 (ck1_s (r := 14) dT_cX11_wings_1 rfl dg_cX11_wings_1083.1)
theorem dX11_wings_79 : decode cX11_wings 79 = .ok (.iand, 1) := dk_126 (ck1_s (r := 15) dT_cX11_wings_1 rfl dg_cX11_wings_1083.2.1)
theorem dX11_wings_80 : decode cX11_wings 80 = .ok (.ifCond .ne 68, 3) := dk_154 (ck3s_s (r := 16) dT_cX11_wings_1 rfl dg_cX11_wings_1083.2.2.1)
theorem dX11_wings_83 : decode cX11_wings 83 = .ok (.iload 6, 2) := dk_21 (ck2_s (r := 19) dT_cX11_wings_1 rfl dg_cX11_wings_1083.2.2.2.1)
theorem dX11_wings_85 : decode cX11_wings 85 = .ok (.iload_n 3, 1) := dk_29 (ck1_s (r := 21) dT_cX11_wings_1 rfl dg_cX11_wings_1083.2.2.2.2.1)
theorem dX11_wings_86 : decode cX11_wings 86 = .ok (.iand, 1) := dk_126 (ck1_s (r := 22) dT_cX11_wings_1 rfl dg_cX11_wings_1083.2.2.2.2.2.1)
theorem dX11_wings_87 : decode cX11_wings 87 = .ok (.iload_n 3, 1) := dk_29 (ck1_s (r := 23) dT_cX11_wings_1 rfl dg_cX11_wings_1083.2.2.2.2.2.2.1)
theorem dX11_wings_88 : decode cX11_wings 88 = .ok (.if_icmp .eq 6, 3) := dk_159 (ck3s_s (r := 24) dT_cX11_wings_1 rfl dg_cX11_wings_1083.2.2.2.2.2.2.2)
theorem dg_cX11_wings_1084 : ck3sL dS_cX11_wings_1 27 167 57 = true ∧ ck1L dS_cX11_wings_1 30 42 = true ∧ ck2L dS_cX11_wings_1 31 21 6 = true ∧ ck3L dS_cX11_wings_1 33 182 492 = true ∧ ck1L dS_cX11_wings_1 36 42 = true ∧ ck1L dS_cX11_wings_1 37 28 = true ∧ ck2L dS_cX11_wings_1 38 21 6 = true ∧ ck1L dS_cX11_wings_1 40 2 = true := by decide +kernel
theorem dX11_wings_91 : decode cX11_wings 91 = .ok (.goto 57, 3) := dk_167 (ck3s_s (r := 27) dT_cX11_wings_1 rfl dg_cX11_wings_1084.1)
theorem dX11_wings_94 : decode cX11_wings 94 = .ok (.aload_n 0, 1) := dk_42 (ck1_s (r := 30) dT_cX11_wings_1 rfl dg_cX11_wings_1084.2.1)
theorem dX11_wings_95 : decode cX11_wings 95 = .ok (.iload 6, 2) := dk_21 (ck2_s (r := 31) dT_cX11_wings_1 rfl dg_cX11_wings_1084.2.2.1)
theorem dX11_wings_97 : decode cX11_wings 97 = .ok (.invokevirtual 492, 3) := dk_182 (ck3_s (r := 33) dT_cX11_wings_1 rfl dg_cX11_wings_1084.2.2.2.1)
theorem dX11_wings_100 : decode cX11_wings 100 = .ok (.aload_n 0, 1) := dk_42 (ck1_s (r := 36) dT_cX11_wings_1 rfl dg_cX11_wings_1084.2.2.2.2.1)
theorem dX11_wings_101 : decode cX11_wings 101 = .ok (.iload_n 2, 1) := dk_28 (ck1_s (r := 37) dT_cX11_wings_1 rfl dg_cX11_wings_1084.2.2.2.2.2.1)
theorem dX11_wings_102 : decode cX11_wings 102 = .ok (.iload 6, 2) := dk_21 (ck2_s (r := 38) dT_cX11_wings_1 rfl dg_cX11_wings_1084.2.2.2.2.2.2.1)
theorem dX11_wings_104 : decode cX11_wings 104 = .ok (.iconst (-1), 1) := dk_2 (ck1_s (r := 40) dT_cX11_wings_1 rfl dg_cX11_wings_1084.2.2.2.2.2.2.2)
theorem dg_cX11_wings_1085 : ck1L dS_cX11_wings_1 41 130 = true ∧ ck1L dS_cX11_wings_1 42 126 = true ∧ ck3L dS_cX11_wings_1 43 182 492 = true ∧ ck1L dS_cX11_wings_1 46 100 = true ∧ ck3L dS_cX11_wings_1 47 184 495 = true ∧ ck2L dS_cX11_wings_1 50 54 7 = true ∧ ck2L dS_cX11_wings_1 52 21 7 = true ∧ ck2L dS_cX11_wings_1 54 21 5 = true := by decide +kernel
theorem dX11_wings_105 : decode cX11_wings 105 = .ok (.ixor, 1) := dk_130 (ck1_s (r := 41) dT_cX11_wings_1 rfl dg_cX11_wings_1085.1)
theorem dX11_wings_106 : decode cX11_wings 106 = .ok (.iand, 1) := dk_126 (ck1_s (r := 42) dT_cX11_wings_1 rfl dg_cX11_wings_1085.2.1)
theorem dX11_wings_107 : decode cX11_wings 107 = .ok (.invokevirtual 492, 3) := dk_182 (ck3_s (r := 43) dT_cX11_wings_1 rfl dg_cX11_wings_1085.2.2.1)
theorem dX11_wings_110 : decode cX11_wings 110 = .ok (.isub, 1) := dk_100 (ck1_s (r := 46) dT_cX11_wings_1 rfl dg_cX11_wings_1085.2.2.2.1)
theorem dX11_wings_111 : decode cX11_wings 111 = .ok (.invokestatic 495, 3) := dk_184 (ck3_s (r := 47) dT_cX11_wings_1 rfl dg_cX11_wings_1085.2.2.2.2.1)
theorem dX11_wings_114 : decode cX11_wings 114 = .ok (.istore 7, 2) := dk_54 (ck2_s (r := 50) dT_cX11_wings_1 rfl dg_cX11_wings_1085.2.2.2.2.2.1)
theorem dX11_wings_116 : decode cX11_wings 116 = .ok (.iload 7, 2) := dk_21 (ck2_s (r := 52) dT_cX11_wings_1 rfl dg_cX11_wings_1085.2.2.2.2.2.2.1)
theorem dX11_wings_118 : decode cX11_wings 118 = .ok (.iload 5, 2) := dk_21 (ck2_s (r := 54) dT_cX11_wings_1 rfl dg_cX11_wings_1085.2.2.2.2.2.2.2)
theorem dg_cX11_wings_1086 : ck3sL dS_cX11_wings_1 56 163 28 = true ∧ ck2L dS_cX11_wings_1 59 21 7 = true ∧ ck2L dS_cX11_wings_1 61 21 5 = true ∧ ck3sL dS_cX11_wings_1 63 160 13 = true ∧ ck2L dS_cX11_wings_2 2 21 6 = true ∧ ck2L dS_cX11_wings_2 4 21 4 = true ∧ ck3sL dS_cX11_wings_2 6 161 6 = true ∧ ck3sL dS_cX11_wings_2 9 167 11 = true := by decide +kernel
theorem dX11_wings_120 : decode cX11_wings 120 = .ok (.if_icmp .gt 28, 3) := dk_163 (ck3s_s (r := 56) dT_cX11_wings_1 rfl dg_cX11_wings_1086.1)
theorem dX11_wings_123 : decode cX11_wings 123 = .ok (.iload 7, 2) := dk_21 (ck2_s (r := 59) dT_cX11_wings_1 rfl dg_cX11_wings_1086.2.1)
theorem dX11_wings_125 : decode cX11_wings 125 = .ok (.iload 5, 2) := dk_21 (ck2_s (r := 61) dT_cX11_wings_1 rfl dg_cX11_wings_1086.2.2.1)
theorem dX11_wings_127 : decode cX11_wings 127 = .ok (.if_icmp .ne 13, 3) := dk_160 (ck3s_s (r := 63) dT_cX11_wings_1 rfl dg_cX11_wings_1086.2.2.2.1)
theorem dX11_wings_130 : decode cX11_wings 130 = .ok (.iload 6, 2) := dk_21 (ck2_s (r := 2) dT_cX11_wings_2 rfl dg_cX11_wings_1086.2.2.2.2.1)
theorem dX11_wings_132 : decode cX11_wings 132 = .ok (.iload 4, 2) := dk_21 (ck2_s (r := 4) dT_cX11_wings_2 rfl dg_cX11_wings_1086.2.2.2.2.2.1)
theorem dX11_wings_134 : decode cX11_wings 134 = .ok (.if_icmp .lt 6, 3) := dk_161 (ck3s_s (r := 6) dT_cX11_wings_2 rfl dg_cX11_wings_1086.2.2.2.2.2.2.1)
theorem dX11_wings_137 : decode cX11_wings 137 = .ok (.goto 11, 3) := dk_167 (ck3s_s (r := 9) dT_cX11_wings_2 rfl dg_cX11_wings_1086.2.2.2.2.2.2.2)
theorem dg_cX11_wings_1087 : ck2L dS_cX11_wings_2 12 21 7 = true ∧ ck2L dS_cX11_wings_2 14 54 5 = true ∧ ck2L dS_cX11_wings_2 16 21 6 = true ∧ ck2L dS_cX11_wings_2 18 54 4 = true ∧ ck3iL dS_cX11_wings_2 20 132 6 1 = true ∧ ck3sL dS_cX11_wings_2 23 167 (-83) = true ∧ ck1L dS_cX11_wings_2 26 27 = true ∧ ck3sL dS_cX11_wings_2 27 154 8 = true := by decide +kernel
theorem dX11_wings_140 : decode cX11_wings 140 = .ok (.iload 7, 2) := dk_21 (ck2_s (r := 12) dT_cX11_wings_2 rfl dg_cX11_wings_1087.1)
theorem dX11_wings_142 : decode cX11_wings 142 = .ok (.istore 5, 2) := dk_54 (ck2_s (r := 14) dT_cX11_wings_2 rfl dg_cX11_wings_1087.2.1)
theorem dX11_wings_144 : decode cX11_wings 144 = .ok (.iload 6, 2) := dk_21 (ck2_s (r := 16) dT_cX11_wings_2 rfl dg_cX11_wings_1087.2.2.1)
theorem dX11_wings_146 : decode cX11_wings 146 = .ok (.istore 4, 2) := dk_54 (ck2_s (r := 18) dT_cX11_wings_2 rfl dg_cX11_wings_1087.2.2.2.1)
theorem dX11_wings_148 : decode cX11_wings 148 = .ok (.iinc 6 1, 3) := dk_132 (ck3i_s (r := 20) dT_cX11_wings_2 rfl dg_cX11_wings_1087.2.2.2.2.1)
theorem dX11_wings_151 : decode cX11_wings 151 = .ok (.goto (-83), 3) := dk_167 (ck3s_s (r := 23) dT_cX11_wings_2 rfl dg_cX11_wings_1087.2.2.2.2.2.1)
theorem dX11_wings_154 : decode cX11_wings 154 = .ok (.iload_n 1, 1) := dk_27 (ck1_s (r := 26) dT_cX11_wings_2 rfl dg_cX11_wings_1087.2.2.2.2.2.2.1)
theorem dX11_wings_155 : decode cX11_wings 155 = .ok (.ifCond .ne 8, 3) := dk_154 (ck3s_s (r := 27) dT_cX11_wings_2 rfl dg_cX11_wings_1087.2.2.2.2.2.2.2)
theorem dg_cX11_wings_1088 : ck2L dS_cX11_wings_2 30 21 5 = true ∧ ck3sL dS_cX11_wings_2 32 167 5 = true ∧ ck2L dS_cX11_wings_2 35 21 4 = true ∧ ck1L dS_cX11_wings_2 37 172 = true := by decide +kernel
theorem dX11_wings_158 : decode cX11_wings 158 = .ok (.iload 5, 2) := dk_21 (ck2_s (r := 30) dT_cX11_wings_2 rfl dg_cX11_wings_1088.1)
theorem dX11_wings_160 : decode cX11_wings 160 = .ok (.goto 5, 3) := dk_167 (ck3s_s (r := 32) dT_cX11_wings_2 rfl dg_cX11_wings_1088.2.1)
theorem dX11_wings_163 : decode cX11_wings 163 = .ok (.iload 4, 2) := dk_21 (ck2_s (r := 35) dT_cX11_wings_2 rfl dg_cX11_wings_1088.2.2.1)
theorem dX11_wings_165 : decode cX11_wings 165 = .ok (.ireturn, 1) := dk_172 (ck1_s (r := 37) dT_cX11_wings_2 rfl dg_cX11_wings_1088.2.2.2)
theorem dg_cX11_within_1089 : ck1 cX11_within 0 26 = true ∧ ck3s cX11_within 1 156 7 = true ∧ ck1 cX11_within 4 3 = true ∧ ck3s cX11_within 5 167 13 = true ∧ ck1 cX11_within 8 26 = true ∧ ck1 cX11_within 9 27 = true ∧ ck3s cX11_within 10 164 7 = true ∧ ck1 cX11_within 13 27 = true := by decide +kernel
theorem dX11_within_0 : decode cX11_within 0 = .ok (.iload_n 0, 1) := dk_26 dg_cX11_within_1089.1
theorem dX11_within_1 : decode cX11_within 1 = .ok (.ifCond .ge 7, 3) := dk_156 dg_cX11_within_1089.2.1
theorem dX11_within_4 : decode cX11_within 4 = .ok (.iconst 0, 1) := dk_3 dg_cX11_within_1089.2.2.1
theorem dX11_within_5 : decode cX11_within 5 = .ok (.goto 13, 3) := dk_167 dg_cX11_within_1089.2.2.2.1
theorem dX11_within_8 : decode cX11_within 8 = .ok (.iload_n 0, 1) := dk_26 dg_cX11_within_1089.2.2.2.2.1
theorem dX11_within_9 : decode cX11_within 9 = .ok (.iload_n 1, 1) := dk_27 dg_cX11_within_1089.2.2.2.2.2.1
theorem dX11_within_10 : decode cX11_within 10 = .ok (.if_icmp .le 7, 3) := dk_164 dg_cX11_within_1089.2.2.2.2.2.2.1
theorem dX11_within_13 : decode cX11_within 13 = .ok (.iload_n 1, 1) := dk_27 dg_cX11_within_1089.2.2.2.2.2.2.2
theorem dg_cX11_within_1090 : ck3s cX11_within 14 167 4 = true ∧ ck1 cX11_within 17 26 = true ∧ ck1 cX11_within 18 172 = true := by decide +kernel
theorem dX11_within_14 : decode cX11_within 14 = .ok (.goto 4, 3) := dk_167 dg_cX11_within_1090.1
theorem dX11_within_17 : decode cX11_within 17 = .ok (.iload_n 0, 1) := dk_26 dg_cX11_within_1090.2.1
theorem dX11_within_18 : decode cX11_within 18 = .ok (.ireturn, 1) := dk_172 dg_cX11_within_1090.2.2
theorem dg_cX11_wrong_1091 : ck1 cX11_wrong 0 42 = true ∧ ck3 cX11_wrong 1 180 179 = true ∧ ck3s cX11_wrong 4 158 4 = true ∧ ck1 cX11_wrong 7 177 = true ∧ ck1 cX11_wrong 8 42 = true ∧ ck1 cX11_wrong 9 42 = true ∧ ck3 cX11_wrong 10 180 166 = true ∧ ck1 cX11_wrong 13 6 = true := by decide +kernel
theorem dX11_wrong_0 : decode cX11_wrong 0 = .ok (.aload_n 0, 1) := dk_42 dg_cX11_wrong_1091.1
theorem dX11_wrong_1 : decode cX11_wrong 1 = .ok (.getfield 179, 3) := dk_180 dg_cX11_wrong_1091.2.1
theorem dX11_wrong_4 : decode cX11_wrong 4 = .ok (.ifCond .le 4, 3) := dk_158 dg_cX11_wrong_1091.2.2.1
theorem dX11_wrong_7 : decode cX11_wrong 7 = .ok (.return_, 1) := dk_177 dg_cX11_wrong_1091.2.2.2.1
theorem dX11_wrong_8 : decode cX11_wrong 8 = .ok (.aload_n 0, 1) := dk_42 dg_cX11_wrong_1091.2.2.2.2.1
theorem dX11_wrong_9 : decode cX11_wrong 9 = .ok (.aload_n 0, 1) := dk_42 dg_cX11_wrong_1091.2.2.2.2.2.1
theorem dX11_wrong_10 : decode cX11_wrong 10 = .ok (.getfield 166, 3) := dk_180 dg_cX11_wrong_1091.2.2.2.2.2.2.1
theorem dX11_wrong_13 : decode cX11_wrong 13 = .ok (.iconst 3, 1) := dk_6 dg_cX11_wrong_1091.2.2.2.2.2.2.2
theorem dg_cX11_wrong_1092 : ck3s cX11_wrong 14 160 7 = true ∧ ck1 cX11_wrong 17 4 = true ∧ ck3s cX11_wrong 18 167 4 = true ∧ ck1 cX11_wrong 21 27 = true ∧ ck3 cX11_wrong 22 181 179 = true ∧ ck1 cX11_wrong 25 42 = true ∧ ck1 cX11_wrong 26 42 = true ∧ ck3 cX11_wrong 27 180 156 = true := by decide +kernel
theorem dX11_wrong_14 : decode cX11_wrong 14 = .ok (.if_icmp .ne 7, 3) := dk_160 dg_cX11_wrong_1092.1
theorem dX11_wrong_17 : decode cX11_wrong 17 = .ok (.iconst 1, 1) := dk_4 dg_cX11_wrong_1092.2.1
theorem dX11_wrong_18 : decode cX11_wrong 18 = .ok (.goto 4, 3) := dk_167 dg_cX11_wrong_1092.2.2.1
theorem dX11_wrong_21 : decode cX11_wrong 21 = .ok (.iload_n 1, 1) := dk_27 dg_cX11_wrong_1092.2.2.2.1
theorem dX11_wrong_22 : decode cX11_wrong 22 = .ok (.putfield 179, 3) := dk_181 dg_cX11_wrong_1092.2.2.2.2.1
theorem dX11_wrong_25 : decode cX11_wrong 25 = .ok (.aload_n 0, 1) := dk_42 dg_cX11_wrong_1092.2.2.2.2.2.1
theorem dX11_wrong_26 : decode cX11_wrong 26 = .ok (.aload_n 0, 1) := dk_42 dg_cX11_wrong_1092.2.2.2.2.2.2.1
theorem dX11_wrong_27 : decode cX11_wrong 27 = .ok (.getfield 156, 3) := dk_180 dg_cX11_wrong_1092.2.2.2.2.2.2.2
theorem dg_cX11_wrong_1093 : ck3 cX11_wrong 30 181 13 = true ∧ ck1 cX11_wrong 33 177 = true := by decide +kernel
theorem dX11_wrong_30 : decode cX11_wrong 30 = .ok (.putfield 13, 3) := dk_181 dg_cX11_wrong_1093.1
theorem dX11_wrong_33 : decode cX11_wrong 33 = .ok (.return_, 1) := dk_177 dg_cX11_wrong_1093.2
theorem dg_cX1_copy_1094 : ck1 cX1_copy 0 43 = true ∧ ck3 cX1_copy 1 180 11 = true ∧ ck1 cX1_copy 4 3 = true ∧ ck1 cX1_copy 5 42 = true ∧ ck3 cX1_copy 6 180 11 = true ∧ ck1 cX1_copy 9 3 = true ∧ ck2s cX1_copy 10 16 44 = true ∧ ck3 cX1_copy 12 184 35 = true := by decide +kernel
theorem dX1_copy_0 : decode cX1_copy 0 = .ok (.aload_n 1, 1) := dk_43 dg_cX1_copy_1094.1
theorem dX1_copy_1 : decode cX1_copy 1 = .ok (.getfield 11, 3) := dk_180 dg_cX1_copy_1094.2.1
theorem dX1_copy_4 : decode cX1_copy 4 = .ok (.iconst 0, 1) := dk_3 dg_cX1_copy_1094.2.2.1
theorem dX1_copy_5 : decode cX1_copy 5 = .ok (.aload_n 0, 1) := dk_42 dg_cX1_copy_1094.2.2.2.1
theorem dX1_copy_6 : decode cX1_copy 6 = .ok (.getfield 11, 3) := dk_180 dg_cX1_copy_1094.2.2.2.2.1
theorem dX1_copy_9 : decode cX1_copy 9 = .ok (.iconst 0, 1) := dk_3 dg_cX1_copy_1094.2.2.2.2.2.1
theorem dX1_copy_10 : decode cX1_copy 10 = .ok (.bipush 44, 2) := dk_16 dg_cX1_copy_1094.2.2.2.2.2.2.1
theorem dX1_copy_12 : decode cX1_copy 12 = .ok (.invokestatic 35, 3) := dk_184 dg_cX1_copy_1094.2.2.2.2.2.2.2
theorem dg_cX1_copy_1095 : ck1 cX1_copy 15 177 = true := by decide +kernel
theorem dX1_copy_15 : decode cX1_copy 15 = .ok (.return_, 1) := dk_177 dg_cX1_copy_1095
theorem dg_cX1_fits_1096 : ck1 cX1_fits 0 42 = true ∧ ck3 cX1_fits 1 180 15 = true ∧ ck1 cX1_fits 4 27 = true ∧ ck3 cX1_fits 5 182 41 = true ∧ ck3s cX1_fits 8 153 34 = true ∧ ck1 cX1_fits 11 42 = true ∧ ck3 cX1_fits 12 180 15 = true ∧ ck1 cX1_fits 15 28 = true := by decide +kernel
theorem dX1_fits_0 : decode cX1_fits 0 = .ok (.aload_n 0, 1) := dk_42 dg_cX1_fits_1096.1
theorem dX1_fits_1 : decode cX1_fits 1 = .ok (.getfield 15, 3) := dk_180 dg_cX1_fits_1096.2.1
theorem dX1_fits_4 : decode cX1_fits 4 = .ok (.iload_n 1, 1) := dk_27 dg_cX1_fits_1096.2.2.1
theorem dX1_fits_5 : decode cX1_fits 5 = .ok (.invokevirtual 41, 3) := dk_182 dg_cX1_fits_1096.2.2.2.1
theorem dX1_fits_8 : decode cX1_fits 8 = .ok (.ifCond .eq 34, 3) := dk_153 dg_cX1_fits_1096.2.2.2.2.1
theorem dX1_fits_11 : decode cX1_fits 11 = .ok (.aload_n 0, 1) := dk_42 dg_cX1_fits_1096.2.2.2.2.2.1
theorem dX1_fits_12 : decode cX1_fits 12 = .ok (.getfield 15, 3) := dk_180 dg_cX1_fits_1096.2.2.2.2.2.2.1
theorem dX1_fits_15 : decode cX1_fits 15 = .ok (.iload_n 2, 1) := dk_28 dg_cX1_fits_1096.2.2.2.2.2.2.2
theorem dg_cX1_fits_1097 : ck3 cX1_fits 16 182 45 = true ∧ ck3s cX1_fits 19 153 23 = true ∧ ck1 cX1_fits 22 42 = true ∧ ck1 cX1_fits 23 27 = true ∧ ck1 cX1_fits 24 28 = true ∧ ck3 cX1_fits 25 182 75 = true ∧ ck1 cX1_fits 28 42 = true ∧ ck3 cX1_fits 29 180 15 = true := by decide +kernel
theorem dX1_fits_16 : decode cX1_fits 16 = .ok (.invokevirtual 45, 3) := dk_182 dg_cX1_fits_1097.1
theorem dX1_fits_19 : decode cX1_fits 19 = .ok (.ifCond .eq 23, 3) := dk_153 dg_cX1_fits_1097.2.1
theorem dX1_fits_22 : decode cX1_fits 22 = .ok (.aload_n 0, 1) := dk_42 dg_cX1_fits_1097.2.2.1
theorem dX1_fits_23 : decode cX1_fits 23 = .ok (.iload_n 1, 1) := dk_27 dg_cX1_fits_1097.2.2.2.1
theorem dX1_fits_24 : decode cX1_fits 24 = .ok (.iload_n 2, 1) := dk_28 dg_cX1_fits_1097.2.2.2.2.1
theorem dX1_fits_25 : decode cX1_fits 25 = .ok (.invokevirtual 75, 3) := dk_182 dg_cX1_fits_1097.2.2.2.2.2.1
theorem dX1_fits_28 : decode cX1_fits 28 = .ok (.aload_n 0, 1) := dk_42 dg_cX1_fits_1097.2.2.2.2.2.2.1
theorem dX1_fits_29 : decode cX1_fits 29 = .ok (.getfield 15, 3) := dk_180 dg_cX1_fits_1097.2.2.2.2.2.2.2
theorem dg_cX1_fits_1098 : ck3 cX1_fits 32 180 78 = true ∧ ck3s cX1_fits 35 163 7 = true ∧ ck1 cX1_fits 38 4 = true ∧ ck3s cX1_fits 39 167 4 = true ∧ ck1 cX1_fits 42 3 = true ∧ ck1 cX1_fits 43 172 = true := by decide +kernel
theorem dX1_fits_32 : decode cX1_fits 32 = .ok (.getfield 78, 3) := dk_180 dg_cX1_fits_1098.1
theorem dX1_fits_35 : decode cX1_fits 35 = .ok (.if_icmp .gt 7, 3) := dk_163 dg_cX1_fits_1098.2.1
theorem dX1_fits_38 : decode cX1_fits 38 = .ok (.iconst 1, 1) := dk_4 dg_cX1_fits_1098.2.2.1
theorem dX1_fits_39 : decode cX1_fits 39 = .ok (.goto 4, 3) := dk_167 dg_cX1_fits_1098.2.2.2.1
theorem dX1_fits_42 : decode cX1_fits 42 = .ok (.iconst 0, 1) := dk_3 dg_cX1_fits_1098.2.2.2.2.1
theorem dX1_fits_43 : decode cX1_fits 43 = .ok (.ireturn, 1) := dk_172 dg_cX1_fits_1098.2.2.2.2.2
theorem dg_cX1_fittedMen_1099 : ck1 cX1_fittedMen 0 3 = true ∧ ck1 cX1_fittedMen 1 60 = true ∧ ck1 cX1_fittedMen 2 3 = true ∧ ck1 cX1_fittedMen 3 61 = true ∧ ck1 cX1_fittedMen 4 28 = true ∧ ck1 cX1_fittedMen 5 42 = true ∧ ck3 cX1_fittedMen 6 180 15 = true ∧ ck3 cX1_fittedMen 9 180 48 = true := by decide +kernel
theorem dX1_fittedMen_0 : decode cX1_fittedMen 0 = .ok (.iconst 0, 1) := dk_3 dg_cX1_fittedMen_1099.1
theorem dX1_fittedMen_1 : decode cX1_fittedMen 1 = .ok (.istore_n 1, 1) := dk_60 dg_cX1_fittedMen_1099.2.1
theorem dX1_fittedMen_2 : decode cX1_fittedMen 2 = .ok (.iconst 0, 1) := dk_3 dg_cX1_fittedMen_1099.2.2.1
theorem dX1_fittedMen_3 : decode cX1_fittedMen 3 = .ok (.istore_n 2, 1) := dk_61 dg_cX1_fittedMen_1099.2.2.2.1
theorem dX1_fittedMen_4 : decode cX1_fittedMen 4 = .ok (.iload_n 2, 1) := dk_28 dg_cX1_fittedMen_1099.2.2.2.2.1
theorem dX1_fittedMen_5 : decode cX1_fittedMen 5 = .ok (.aload_n 0, 1) := dk_42 dg_cX1_fittedMen_1099.2.2.2.2.2.1
theorem dX1_fittedMen_6 : decode cX1_fittedMen 6 = .ok (.getfield 15, 3) := dk_180 dg_cX1_fittedMen_1099.2.2.2.2.2.2.1
theorem dX1_fittedMen_9 : decode cX1_fittedMen 9 = .ok (.getfield 48, 3) := dk_180 dg_cX1_fittedMen_1099.2.2.2.2.2.2.2
theorem dg_cX1_fittedMen_1100 : ck3s cX1_fittedMen 12 162 28 = true ∧ ck1 cX1_fittedMen 15 42 = true ∧ ck1 cX1_fittedMen 16 28 = true ∧ ck1 cX1_fittedMen 17 42 = true ∧ ck1 cX1_fittedMen 18 28 = true ∧ ck3 cX1_fittedMen 19 182 51 = true ∧ ck3 cX1_fittedMen 22 182 84 = true ∧ ck3s cX1_fittedMen 25 153 9 = true := by decide +kernel
theorem dX1_fittedMen_12 : decode cX1_fittedMen 12 = .ok (.if_icmp .ge 28, 3) := dk_162 dg_cX1_fittedMen_1100.1
theorem dX1_fittedMen_15 : decode cX1_fittedMen 15 = .ok (.aload_n 0, 1) := dk_42 dg_cX1_fittedMen_1100.2.1
theorem dX1_fittedMen_16 : decode cX1_fittedMen 16 = .ok (.iload_n 2, 1) := dk_28 dg_cX1_fittedMen_1100.2.2.1
theorem dX1_fittedMen_17 : decode cX1_fittedMen 17 = .ok (.aload_n 0, 1) := dk_42 dg_cX1_fittedMen_1100.2.2.2.1
theorem dX1_fittedMen_18 : decode cX1_fittedMen 18 = .ok (.iload_n 2, 1) := dk_28 dg_cX1_fittedMen_1100.2.2.2.2.1
theorem dX1_fittedMen_19 : decode cX1_fittedMen 19 = .ok (.invokevirtual 51, 3) := dk_182 dg_cX1_fittedMen_1100.2.2.2.2.2.1
theorem dX1_fittedMen_22 : decode cX1_fittedMen 22 = .ok (.invokevirtual 84, 3) := dk_182 dg_cX1_fittedMen_1100.2.2.2.2.2.2.1
theorem dX1_fittedMen_25 : decode cX1_fittedMen 25 = .ok (.ifCond .eq 9, 3) := dk_153 dg_cX1_fittedMen_1100.2.2.2.2.2.2.2
theorem dg_cX1_fittedMen_1101 : ck1 cX1_fittedMen 28 27 = true ∧ ck1 cX1_fittedMen 29 4 = true ∧ ck1 cX1_fittedMen 30 28 = true ∧ ck1 cX1_fittedMen 31 120 = true ∧ ck1 cX1_fittedMen 32 128 = true ∧ ck1 cX1_fittedMen 33 60 = true ∧ ck3i cX1_fittedMen 34 132 2 1 = true ∧ ck3s cX1_fittedMen 37 167 (-33) = true := by decide +kernel
theorem dX1_fittedMen_28 : decode cX1_fittedMen 28 = .ok (.iload_n 1, 1) := dk_27 dg_cX1_fittedMen_1101.1
theorem dX1_fittedMen_29 : decode cX1_fittedMen 29 = .ok (.iconst 1, 1) := dk_4 dg_cX1_fittedMen_1101.2.1
theorem dX1_fittedMen_30 : decode cX1_fittedMen 30 = .ok (.iload_n 2, 1) := dk_28 dg_cX1_fittedMen_1101.2.2.1
theorem dX1_fittedMen_31 : decode cX1_fittedMen 31 = .ok (.ishl, 1) := dk_120 dg_cX1_fittedMen_1101.2.2.2.1
theorem dX1_fittedMen_32 : decode cX1_fittedMen 32 = .ok (.ior, 1) := dk_128 dg_cX1_fittedMen_1101.2.2.2.2.1
theorem dX1_fittedMen_33 : decode cX1_fittedMen 33 = .ok (.istore_n 1, 1) := dk_60 dg_cX1_fittedMen_1101.2.2.2.2.2.1
theorem dX1_fittedMen_34 : decode cX1_fittedMen 34 = .ok (.iinc 2 1, 3) := dk_132 dg_cX1_fittedMen_1101.2.2.2.2.2.2.1
theorem dX1_fittedMen_37 : decode cX1_fittedMen 37 = .ok (.goto (-33), 3) := dk_167 dg_cX1_fittedMen_1101.2.2.2.2.2.2.2
theorem dg_cX1_fittedMen_1102 : ck1 cX1_fittedMen 40 27 = true ∧ ck1 cX1_fittedMen 41 172 = true := by decide +kernel
theorem dX1_fittedMen_40 : decode cX1_fittedMen 40 = .ok (.iload_n 1, 1) := dk_27 dg_cX1_fittedMen_1102.1
theorem dX1_fittedMen_41 : decode cX1_fittedMen 41 = .ok (.ireturn, 1) := dk_172 dg_cX1_fittedMen_1102.2
theorem dg_cX1_fittingCoats_1103 : ck1 cX1_fittingCoats 0 3 = true ∧ ck1 cX1_fittingCoats 1 61 = true ∧ ck1 cX1_fittingCoats 2 3 = true ∧ ck1 cX1_fittingCoats 3 62 = true ∧ ck1 cX1_fittingCoats 4 29 = true ∧ ck1 cX1_fittingCoats 5 42 = true ∧ ck3 cX1_fittingCoats 6 180 15 = true ∧ ck3 cX1_fittingCoats 9 180 81 = true := by decide +kernel
theorem dX1_fittingCoats_0 : decode cX1_fittingCoats 0 = .ok (.iconst 0, 1) := dk_3 dg_cX1_fittingCoats_1103.1
theorem dX1_fittingCoats_1 : decode cX1_fittingCoats 1 = .ok (.istore_n 2, 1) := dk_61 dg_cX1_fittingCoats_1103.2.1
theorem dX1_fittingCoats_2 : decode cX1_fittingCoats 2 = .ok (.iconst 0, 1) := dk_3 dg_cX1_fittingCoats_1103.2.2.1
theorem dX1_fittingCoats_3 : decode cX1_fittingCoats 3 = .ok (.istore_n 3, 1) := dk_62 dg_cX1_fittingCoats_1103.2.2.2.1
theorem dX1_fittingCoats_4 : decode cX1_fittingCoats 4 = .ok (.iload_n 3, 1) := dk_29 dg_cX1_fittingCoats_1103.2.2.2.2.1
theorem dX1_fittingCoats_5 : decode cX1_fittingCoats 5 = .ok (.aload_n 0, 1) := dk_42 dg_cX1_fittingCoats_1103.2.2.2.2.2.1
theorem dX1_fittingCoats_6 : decode cX1_fittingCoats 6 = .ok (.getfield 15, 3) := dk_180 dg_cX1_fittingCoats_1103.2.2.2.2.2.2.1
theorem dX1_fittingCoats_9 : decode cX1_fittingCoats 9 = .ok (.getfield 81, 3) := dk_180 dg_cX1_fittingCoats_1103.2.2.2.2.2.2.2
theorem dg_cX1_fittingCoats_1104 : ck3s cX1_fittingCoats 12 162 24 = true ∧ ck1 cX1_fittingCoats 15 42 = true ∧ ck1 cX1_fittingCoats 16 27 = true ∧ ck1 cX1_fittingCoats 17 29 = true ∧ ck3 cX1_fittingCoats 18 182 84 = true ∧ ck3s cX1_fittingCoats 21 153 9 = true ∧ ck1 cX1_fittingCoats 24 28 = true ∧ ck1 cX1_fittingCoats 25 4 = true := by decide +kernel
theorem dX1_fittingCoats_12 : decode cX1_fittingCoats 12 = .ok (.if_icmp .ge 24, 3) := dk_162 dg_cX1_fittingCoats_1104.1
theorem dX1_fittingCoats_15 : decode cX1_fittingCoats 15 = .ok (.aload_n 0, 1) := dk_42 dg_cX1_fittingCoats_1104.2.1
theorem dX1_fittingCoats_16 : decode cX1_fittingCoats 16 = .ok (.iload_n 1, 1) := dk_27 dg_cX1_fittingCoats_1104.2.2.1
theorem dX1_fittingCoats_17 : decode cX1_fittingCoats 17 = .ok (.iload_n 3, 1) := dk_29 dg_cX1_fittingCoats_1104.2.2.2.1
theorem dX1_fittingCoats_18 : decode cX1_fittingCoats 18 = .ok (.invokevirtual 84, 3) := dk_182 dg_cX1_fittingCoats_1104.2.2.2.2.1
theorem dX1_fittingCoats_21 : decode cX1_fittingCoats 21 = .ok (.ifCond .eq 9, 3) := dk_153 dg_cX1_fittingCoats_1104.2.2.2.2.2.1
theorem dX1_fittingCoats_24 : decode cX1_fittingCoats 24 = .ok (.iload_n 2, 1) := dk_28 dg_cX1_fittingCoats_1104.2.2.2.2.2.2.1
theorem dX1_fittingCoats_25 : decode cX1_fittingCoats 25 = .ok (.iconst 1, 1) := dk_4 dg_cX1_fittingCoats_1104.2.2.2.2.2.2.2
theorem dg_cX1_fittingCoats_1105 : ck1 cX1_fittingCoats 26 29 = true ∧ ck1 cX1_fittingCoats 27 120 = true ∧ ck1 cX1_fittingCoats 28 128 = true ∧ ck1 cX1_fittingCoats 29 61 = true ∧ ck3i cX1_fittingCoats 30 132 3 1 = true ∧ ck3s cX1_fittingCoats 33 167 (-29) = true ∧ ck1 cX1_fittingCoats 36 28 = true ∧ ck1 cX1_fittingCoats 37 172 = true := by decide +kernel
theorem dX1_fittingCoats_26 : decode cX1_fittingCoats 26 = .ok (.iload_n 3, 1) := dk_29 dg_cX1_fittingCoats_1105.1
theorem dX1_fittingCoats_27 : decode cX1_fittingCoats 27 = .ok (.ishl, 1) := dk_120 dg_cX1_fittingCoats_1105.2.1
theorem dX1_fittingCoats_28 : decode cX1_fittingCoats 28 = .ok (.ior, 1) := dk_128 dg_cX1_fittingCoats_1105.2.2.1
theorem dX1_fittingCoats_29 : decode cX1_fittingCoats 29 = .ok (.istore_n 2, 1) := dk_61 dg_cX1_fittingCoats_1105.2.2.2.1
theorem dX1_fittingCoats_30 : decode cX1_fittingCoats 30 = .ok (.iinc 3 1, 3) := dk_132 dg_cX1_fittingCoats_1105.2.2.2.2.1
theorem dX1_fittingCoats_33 : decode cX1_fittingCoats 33 = .ok (.goto (-29), 3) := dk_167 dg_cX1_fittingCoats_1105.2.2.2.2.2.1
theorem dX1_fittingCoats_36 : decode cX1_fittingCoats 36 = .ok (.iload_n 2, 1) := dk_28 dg_cX1_fittingCoats_1105.2.2.2.2.2.2.1
theorem dX1_fittingCoats_37 : decode cX1_fittingCoats 37 = .ok (.ireturn, 1) := dk_172 dg_cX1_fittingCoats_1105.2.2.2.2.2.2.2
theorem dg_cX1_illness_1106 : ck1 cX1_illness 0 42 = true ∧ ck3 cX1_illness 1 180 15 = true ∧ ck3 cX1_illness 4 180 55 = true ∧ ck1 cX1_illness 7 42 = true ∧ ck3 cX1_illness 8 180 15 = true ∧ ck1 cX1_illness 11 3 = true ∧ ck1 cX1_illness 12 27 = true ∧ ck3 cX1_illness 13 182 22 = true := by decide +kernel
theorem dX1_illness_0 : decode cX1_illness 0 = .ok (.aload_n 0, 1) := dk_42 dg_cX1_illness_1106.1
theorem dX1_illness_1 : decode cX1_illness 1 = .ok (.getfield 15, 3) := dk_180 dg_cX1_illness_1106.2.1
theorem dX1_illness_4 : decode cX1_illness 4 = .ok (.getfield 55, 3) := dk_180 dg_cX1_illness_1106.2.2.1
theorem dX1_illness_7 : decode cX1_illness 7 = .ok (.aload_n 0, 1) := dk_42 dg_cX1_illness_1106.2.2.2.1
theorem dX1_illness_8 : decode cX1_illness 8 = .ok (.getfield 15, 3) := dk_180 dg_cX1_illness_1106.2.2.2.2.1
theorem dX1_illness_11 : decode cX1_illness 11 = .ok (.iconst 0, 1) := dk_3 dg_cX1_illness_1106.2.2.2.2.2.1
theorem dX1_illness_12 : decode cX1_illness 12 = .ok (.iload_n 1, 1) := dk_27 dg_cX1_illness_1106.2.2.2.2.2.2.1
theorem dX1_illness_13 : decode cX1_illness 13 = .ok (.invokevirtual 22, 3) := dk_182 dg_cX1_illness_1106.2.2.2.2.2.2.2
theorem dg_cX1_illness_1107 : ck1 cX1_illness 16 42 = true ∧ ck1 cX1_illness 17 27 = true ∧ ck3 cX1_illness 18 182 59 = true ∧ ck1 cX1_illness 21 42 = true ∧ ck1 cX1_illness 22 3 = true ∧ ck1 cX1_illness 23 28 = true ∧ ck3 cX1_illness 24 182 62 = true ∧ ck1 cX1_illness 27 42 = true := by decide +kernel
theorem dX1_illness_16 : decode cX1_illness 16 = .ok (.aload_n 0, 1) := dk_42 dg_cX1_illness_1107.1
theorem dX1_illness_17 : decode cX1_illness 17 = .ok (.iload_n 1, 1) := dk_27 dg_cX1_illness_1107.2.1
theorem dX1_illness_18 : decode cX1_illness 18 = .ok (.invokevirtual 59, 3) := dk_182 dg_cX1_illness_1107.2.2.1
theorem dX1_illness_21 : decode cX1_illness 21 = .ok (.aload_n 0, 1) := dk_42 dg_cX1_illness_1107.2.2.2.1
theorem dX1_illness_22 : decode cX1_illness 22 = .ok (.iconst 0, 1) := dk_3 dg_cX1_illness_1107.2.2.2.2.1
theorem dX1_illness_23 : decode cX1_illness 23 = .ok (.iload_n 2, 1) := dk_28 dg_cX1_illness_1107.2.2.2.2.2.1
theorem dX1_illness_24 : decode cX1_illness 24 = .ok (.invokevirtual 62, 3) := dk_182 dg_cX1_illness_1107.2.2.2.2.2.2.1
theorem dX1_illness_27 : decode cX1_illness 27 = .ok (.aload_n 0, 1) := dk_42 dg_cX1_illness_1107.2.2.2.2.2.2.2
theorem dg_cX1_illness_1108 : ck1 cX1_illness 28 4 = true ∧ ck1 cX1_illness 29 28 = true ∧ ck3 cX1_illness 30 182 62 = true ∧ ck1 cX1_illness 33 42 = true ∧ ck1 cX1_illness 34 6 = true ∧ ck1 cX1_illness 35 28 = true ∧ ck3 cX1_illness 36 182 62 = true ∧ ck1 cX1_illness 39 42 = true := by decide +kernel
theorem dX1_illness_28 : decode cX1_illness 28 = .ok (.iconst 1, 1) := dk_4 dg_cX1_illness_1108.1
theorem dX1_illness_29 : decode cX1_illness 29 = .ok (.iload_n 2, 1) := dk_28 dg_cX1_illness_1108.2.1
theorem dX1_illness_30 : decode cX1_illness 30 = .ok (.invokevirtual 62, 3) := dk_182 dg_cX1_illness_1108.2.2.1
theorem dX1_illness_33 : decode cX1_illness 33 = .ok (.aload_n 0, 1) := dk_42 dg_cX1_illness_1108.2.2.2.1
theorem dX1_illness_34 : decode cX1_illness 34 = .ok (.iconst 3, 1) := dk_6 dg_cX1_illness_1108.2.2.2.2.1
theorem dX1_illness_35 : decode cX1_illness 35 = .ok (.iload_n 2, 1) := dk_28 dg_cX1_illness_1108.2.2.2.2.2.1
theorem dX1_illness_36 : decode cX1_illness 36 = .ok (.invokevirtual 62, 3) := dk_182 dg_cX1_illness_1108.2.2.2.2.2.2.1
theorem dX1_illness_39 : decode cX1_illness 39 = .ok (.aload_n 0, 1) := dk_42 dg_cX1_illness_1108.2.2.2.2.2.2.2
theorem dg_cX1_illness_1109 : ck3 cX1_illness 40 182 65 = true ∧ ck3 cX1_illness 43 182 69 = true ∧ ck1 cX1_illness 46 172 = true := by decide +kernel
theorem dX1_illness_40 : decode cX1_illness 40 = .ok (.invokevirtual 65, 3) := dk_182 dg_cX1_illness_1109.1
theorem dX1_illness_43 : decode cX1_illness 43 = .ok (.invokevirtual 69, 3) := dk_182 dg_cX1_illness_1109.2.1
theorem dX1_illness_46 : decode cX1_illness 46 = .ok (.ireturn, 1) := dk_172 dg_cX1_illness_1109.2.2
theorem dg_cX1_init_1110 : ck1 cX1_init 0 42 = true ∧ ck3 cX1_init 1 183 5 = true ∧ ck1 cX1_init 4 42 = true ∧ ck2s cX1_init 5 16 44 = true := by decide +kernel
theorem dX1_init_0 : decode cX1_init 0 = .ok (.aload_n 0, 1) := dk_42 dg_cX1_init_1110.1
theorem dX1_init_1 : decode cX1_init 1 = .ok (.invokespecial 5, 3) := dk_183 dg_cX1_init_1110.2.1
theorem dX1_init_4 : decode cX1_init 4 = .ok (.aload_n 0, 1) := dk_42 dg_cX1_init_1110.2.2.1
theorem dX1_init_5 : decode cX1_init 5 = .ok (.bipush 44, 2) := dk_16 dg_cX1_init_1110.2.2.2
theorem dX1_init_7 : decode cX1_init 7 = .ok (.newarray .int, 2) := by decide +kernel
theorem dg_cX1_init_1111 : ck3 cX1_init 9 181 11 = true ∧ ck1 cX1_init 12 42 = true ∧ ck1 cX1_init 13 43 = true ∧ ck3 cX1_init 14 181 15 = true ∧ ck1 cX1_init 17 42 = true ∧ ck3 cX1_init 18 182 19 = true ∧ ck1 cX1_init 21 177 = true := by decide +kernel
theorem dX1_init_9 : decode cX1_init 9 = .ok (.putfield 11, 3) := dk_181 dg_cX1_init_1111.1
theorem dX1_init_12 : decode cX1_init 12 = .ok (.aload_n 0, 1) := dk_42 dg_cX1_init_1111.2.1
theorem dX1_init_13 : decode cX1_init 13 = .ok (.aload_n 1, 1) := dk_43 dg_cX1_init_1111.2.2.1
theorem dX1_init_14 : decode cX1_init 14 = .ok (.putfield 15, 3) := dk_181 dg_cX1_init_1111.2.2.2.1
theorem dX1_init_17 : decode cX1_init 17 = .ok (.aload_n 0, 1) := dk_42 dg_cX1_init_1111.2.2.2.2.1
theorem dX1_init_18 : decode cX1_init 18 = .ok (.invokevirtual 19, 3) := dk_182 dg_cX1_init_1111.2.2.2.2.2.1
theorem dX1_init_21 : decode cX1_init 21 = .ok (.return_, 1) := dk_177 dg_cX1_init_1111.2.2.2.2.2.2
theorem dg_cX1_loadFrom_1112 : ck1 cX1_loadFrom 0 28 = true ∧ ck3s cX1_loadFrom 1 155 27 = true ∧ ck1 cX1_loadFrom 4 28 = true ∧ ck1 cX1_loadFrom 5 43 = true ∧ ck1 cX1_loadFrom 6 190 = true ∧ ck2s cX1_loadFrom 7 16 44 = true ∧ ck1 cX1_loadFrom 9 108 = true ∧ ck3s cX1_loadFrom 10 162 18 = true := by decide +kernel
theorem dX1_loadFrom_0 : decode cX1_loadFrom 0 = .ok (.iload_n 2, 1) := dk_28 dg_cX1_loadFrom_1112.1
theorem dX1_loadFrom_1 : decode cX1_loadFrom 1 = .ok (.ifCond .lt 27, 3) := dk_155 dg_cX1_loadFrom_1112.2.1
theorem dX1_loadFrom_4 : decode cX1_loadFrom 4 = .ok (.iload_n 2, 1) := dk_28 dg_cX1_loadFrom_1112.2.2.1
theorem dX1_loadFrom_5 : decode cX1_loadFrom 5 = .ok (.aload_n 1, 1) := dk_43 dg_cX1_loadFrom_1112.2.2.2.1
theorem dX1_loadFrom_6 : decode cX1_loadFrom 6 = .ok (.arraylength, 1) := dk_190 dg_cX1_loadFrom_1112.2.2.2.2.1
theorem dX1_loadFrom_7 : decode cX1_loadFrom 7 = .ok (.bipush 44, 2) := dk_16 dg_cX1_loadFrom_1112.2.2.2.2.2.1
theorem dX1_loadFrom_9 : decode cX1_loadFrom 9 = .ok (.idiv, 1) := dk_108 dg_cX1_loadFrom_1112.2.2.2.2.2.2.1
theorem dX1_loadFrom_10 : decode cX1_loadFrom 10 = .ok (.if_icmp .ge 18, 3) := dk_162 dg_cX1_loadFrom_1112.2.2.2.2.2.2.2
theorem dg_cX1_loadFrom_1113 : ck1 cX1_loadFrom 13 43 = true ∧ ck1 cX1_loadFrom 14 28 = true ∧ ck2s cX1_loadFrom 15 16 44 = true ∧ ck1 cX1_loadFrom 17 104 = true ∧ ck1 cX1_loadFrom 18 42 = true ∧ ck3 cX1_loadFrom 19 180 11 = true ∧ ck1 cX1_loadFrom 22 3 = true ∧ ck2s cX1_loadFrom 23 16 44 = true := by decide +kernel
theorem dX1_loadFrom_13 : decode cX1_loadFrom 13 = .ok (.aload_n 1, 1) := dk_43 dg_cX1_loadFrom_1113.1
theorem dX1_loadFrom_14 : decode cX1_loadFrom 14 = .ok (.iload_n 2, 1) := dk_28 dg_cX1_loadFrom_1113.2.1
theorem dX1_loadFrom_15 : decode cX1_loadFrom 15 = .ok (.bipush 44, 2) := dk_16 dg_cX1_loadFrom_1113.2.2.1
theorem dX1_loadFrom_17 : decode cX1_loadFrom 17 = .ok (.imul, 1) := dk_104 dg_cX1_loadFrom_1113.2.2.2.1
theorem dX1_loadFrom_18 : decode cX1_loadFrom 18 = .ok (.aload_n 0, 1) := dk_42 dg_cX1_loadFrom_1113.2.2.2.2.1
theorem dX1_loadFrom_19 : decode cX1_loadFrom 19 = .ok (.getfield 11, 3) := dk_180 dg_cX1_loadFrom_1113.2.2.2.2.2.1
theorem dX1_loadFrom_22 : decode cX1_loadFrom 22 = .ok (.iconst 0, 1) := dk_3 dg_cX1_loadFrom_1113.2.2.2.2.2.2.1
theorem dX1_loadFrom_23 : decode cX1_loadFrom 23 = .ok (.bipush 44, 2) := dk_16 dg_cX1_loadFrom_1113.2.2.2.2.2.2.2
theorem dg_cX1_loadFrom_1114 : ck3 cX1_loadFrom 25 184 35 = true ∧ ck1 cX1_loadFrom 28 177 = true := by decide +kernel
theorem dX1_loadFrom_25 : decode cX1_loadFrom 25 = .ok (.invokestatic 35, 3) := dk_184 dg_cX1_loadFrom_1114.1
theorem dX1_loadFrom_28 : decode cX1_loadFrom 28 = .ok (.return_, 1) := dk_177 dg_cX1_loadFrom_1114.2
theorem dg_cX1_manWide_1115 : ck1 cX1_manWide 0 42 = true ∧ ck3 cX1_manWide 1 180 15 = true ∧ ck1 cX1_manWide 4 27 = true ∧ ck3 cX1_manWide 5 182 41 = true ∧ ck3s cX1_manWide 8 153 12 = true ∧ ck1 cX1_manWide 11 42 = true ∧ ck3 cX1_manWide 12 180 11 = true ∧ ck1 cX1_manWide 15 27 = true := by decide +kernel
theorem dX1_manWide_0 : decode cX1_manWide 0 = .ok (.aload_n 0, 1) := dk_42 dg_cX1_manWide_1115.1
theorem dX1_manWide_1 : decode cX1_manWide 1 = .ok (.getfield 15, 3) := dk_180 dg_cX1_manWide_1115.2.1
theorem dX1_manWide_4 : decode cX1_manWide 4 = .ok (.iload_n 1, 1) := dk_27 dg_cX1_manWide_1115.2.2.1
theorem dX1_manWide_5 : decode cX1_manWide 5 = .ok (.invokevirtual 41, 3) := dk_182 dg_cX1_manWide_1115.2.2.2.1
theorem dX1_manWide_8 : decode cX1_manWide 8 = .ok (.ifCond .eq 12, 3) := dk_153 dg_cX1_manWide_1115.2.2.2.2.1
theorem dX1_manWide_11 : decode cX1_manWide 11 = .ok (.aload_n 0, 1) := dk_42 dg_cX1_manWide_1115.2.2.2.2.2.1
theorem dX1_manWide_12 : decode cX1_manWide 12 = .ok (.getfield 11, 3) := dk_180 dg_cX1_manWide_1115.2.2.2.2.2.2.1
theorem dX1_manWide_15 : decode cX1_manWide 15 = .ok (.iload_n 1, 1) := dk_27 dg_cX1_manWide_1115.2.2.2.2.2.2.2
theorem dg_cX1_manWide_1116 : ck1 cX1_manWide 16 46 = true ∧ ck3s cX1_manWide 17 167 4 = true ∧ ck1 cX1_manWide 20 3 = true ∧ ck1 cX1_manWide 21 172 = true := by decide +kernel
theorem dX1_manWide_16 : decode cX1_manWide 16 = .ok (.iaload, 1) := dk_46 dg_cX1_manWide_1116.1
theorem dX1_manWide_17 : decode cX1_manWide 17 = .ok (.goto 4, 3) := dk_167 dg_cX1_manWide_1116.2.1
theorem dX1_manWide_20 : decode cX1_manWide 20 = .ok (.iconst 0, 1) := dk_3 dg_cX1_manWide_1116.2.2.1
theorem dX1_manWide_21 : decode cX1_manWide 21 = .ok (.ireturn, 1) := dk_172 dg_cX1_manWide_1116.2.2.2
theorem dg_cX1_menFitting_1117 : ck1 cX1_menFitting 0 3 = true ∧ ck1 cX1_menFitting 1 61 = true ∧ ck1 cX1_menFitting 2 3 = true ∧ ck1 cX1_menFitting 3 62 = true ∧ ck1 cX1_menFitting 4 29 = true ∧ ck1 cX1_menFitting 5 42 = true ∧ ck3 cX1_menFitting 6 180 15 = true ∧ ck3 cX1_menFitting 9 180 48 = true := by decide +kernel
theorem dX1_menFitting_0 : decode cX1_menFitting 0 = .ok (.iconst 0, 1) := dk_3 dg_cX1_menFitting_1117.1
theorem dX1_menFitting_1 : decode cX1_menFitting 1 = .ok (.istore_n 2, 1) := dk_61 dg_cX1_menFitting_1117.2.1
theorem dX1_menFitting_2 : decode cX1_menFitting 2 = .ok (.iconst 0, 1) := dk_3 dg_cX1_menFitting_1117.2.2.1
theorem dX1_menFitting_3 : decode cX1_menFitting 3 = .ok (.istore_n 3, 1) := dk_62 dg_cX1_menFitting_1117.2.2.2.1
theorem dX1_menFitting_4 : decode cX1_menFitting 4 = .ok (.iload_n 3, 1) := dk_29 dg_cX1_menFitting_1117.2.2.2.2.1
theorem dX1_menFitting_5 : decode cX1_menFitting 5 = .ok (.aload_n 0, 1) := dk_42 dg_cX1_menFitting_1117.2.2.2.2.2.1
theorem dX1_menFitting_6 : decode cX1_menFitting 6 = .ok (.getfield 15, 3) := dk_180 dg_cX1_menFitting_1117.2.2.2.2.2.2.1
theorem dX1_menFitting_9 : decode cX1_menFitting 9 = .ok (.getfield 48, 3) := dk_180 dg_cX1_menFitting_1117.2.2.2.2.2.2.2
theorem dg_cX1_menFitting_1118 : ck3s cX1_menFitting 12 162 21 = true ∧ ck1 cX1_menFitting 15 42 = true ∧ ck1 cX1_menFitting 16 29 = true ∧ ck1 cX1_menFitting 17 27 = true ∧ ck3 cX1_menFitting 18 182 84 = true ∧ ck3s cX1_menFitting 21 153 6 = true ∧ ck3i cX1_menFitting 24 132 2 1 = true ∧ ck3i cX1_menFitting 27 132 3 1 = true := by decide +kernel
theorem dX1_menFitting_12 : decode cX1_menFitting 12 = .ok (.if_icmp .ge 21, 3) := dk_162 dg_cX1_menFitting_1118.1
theorem dX1_menFitting_15 : decode cX1_menFitting 15 = .ok (.aload_n 0, 1) := dk_42 dg_cX1_menFitting_1118.2.1
theorem dX1_menFitting_16 : decode cX1_menFitting 16 = .ok (.iload_n 3, 1) := dk_29 dg_cX1_menFitting_1118.2.2.1
theorem dX1_menFitting_17 : decode cX1_menFitting 17 = .ok (.iload_n 1, 1) := dk_27 dg_cX1_menFitting_1118.2.2.2.1
theorem dX1_menFitting_18 : decode cX1_menFitting 18 = .ok (.invokevirtual 84, 3) := dk_182 dg_cX1_menFitting_1118.2.2.2.2.1
theorem dX1_menFitting_21 : decode cX1_menFitting 21 = .ok (.ifCond .eq 6, 3) := dk_153 dg_cX1_menFitting_1118.2.2.2.2.2.1
theorem dX1_menFitting_24 : decode cX1_menFitting 24 = .ok (.iinc 2 1, 3) := dk_132 dg_cX1_menFitting_1118.2.2.2.2.2.2.1
theorem dX1_menFitting_27 : decode cX1_menFitting 27 = .ok (.iinc 3 1, 3) := dk_132 dg_cX1_menFitting_1118.2.2.2.2.2.2.2
theorem dg_cX1_menFitting_1119 : ck3s cX1_menFitting 30 167 (-26) = true ∧ ck1 cX1_menFitting 33 28 = true ∧ ck1 cX1_menFitting 34 172 = true := by decide +kernel
theorem dX1_menFitting_30 : decode cX1_menFitting 30 = .ok (.goto (-26), 3) := dk_167 dg_cX1_menFitting_1119.1
theorem dX1_menFitting_33 : decode cX1_menFitting 33 = .ok (.iload_n 2, 1) := dk_28 dg_cX1_menFitting_1119.2.1
theorem dX1_menFitting_34 : decode cX1_menFitting 34 = .ok (.ireturn, 1) := dk_172 dg_cX1_menFitting_1119.2.2
theorem dg_cX1_muster_1120 : ck1 cX1_muster 0 3 = true ∧ ck1 cX1_muster 1 60 = true ∧ ck1 cX1_muster 2 27 = true ∧ ck2s cX1_muster 3 16 6 = true ∧ ck3s cX1_muster 5 162 34 = true ∧ ck1 cX1_muster 8 42 = true ∧ ck3 cX1_muster 9 180 11 = true ∧ ck1 cX1_muster 12 27 = true := by decide +kernel
theorem dX1_muster_0 : decode cX1_muster 0 = .ok (.iconst 0, 1) := dk_3 dg_cX1_muster_1120.1
theorem dX1_muster_1 : decode cX1_muster 1 = .ok (.istore_n 1, 1) := dk_60 dg_cX1_muster_1120.2.1
theorem dX1_muster_2 : decode cX1_muster 2 = .ok (.iload_n 1, 1) := dk_27 dg_cX1_muster_1120.2.2.1
theorem dX1_muster_3 : decode cX1_muster 3 = .ok (.bipush 6, 2) := dk_16 dg_cX1_muster_1120.2.2.2.1
theorem dX1_muster_5 : decode cX1_muster 5 = .ok (.if_icmp .ge 34, 3) := dk_162 dg_cX1_muster_1120.2.2.2.2.1
theorem dX1_muster_8 : decode cX1_muster 8 = .ok (.aload_n 0, 1) := dk_42 dg_cX1_muster_1120.2.2.2.2.2.1
theorem dX1_muster_9 : decode cX1_muster 9 = .ok (.getfield 11, 3) := dk_180 dg_cX1_muster_1120.2.2.2.2.2.2.1
theorem dX1_muster_12 : decode cX1_muster 12 = .ok (.iload_n 1, 1) := dk_27 dg_cX1_muster_1120.2.2.2.2.2.2.2
theorem dg_cX1_muster_1121 : ck1 cX1_muster 13 42 = true ∧ ck3 cX1_muster 14 180 15 = true ∧ ck1 cX1_muster 17 4 = true ∧ ck1 cX1_muster 18 27 = true ∧ ck3 cX1_muster 19 182 22 = true ∧ ck1 cX1_muster 22 79 = true ∧ ck1 cX1_muster 23 42 = true ∧ ck3 cX1_muster 24 180 11 = true := by decide +kernel
theorem dX1_muster_13 : decode cX1_muster 13 = .ok (.aload_n 0, 1) := dk_42 dg_cX1_muster_1121.1
theorem dX1_muster_14 : decode cX1_muster 14 = .ok (.getfield 15, 3) := dk_180 dg_cX1_muster_1121.2.1
theorem dX1_muster_17 : decode cX1_muster 17 = .ok (.iconst 1, 1) := dk_4 dg_cX1_muster_1121.2.2.1
theorem dX1_muster_18 : decode cX1_muster 18 = .ok (.iload_n 1, 1) := dk_27 dg_cX1_muster_1121.2.2.2.1
theorem dX1_muster_19 : decode cX1_muster 19 = .ok (.invokevirtual 22, 3) := dk_182 dg_cX1_muster_1121.2.2.2.2.1
theorem dX1_muster_22 : decode cX1_muster 22 = .ok (.iastore, 1) := dk_79 dg_cX1_muster_1121.2.2.2.2.2.1
theorem dX1_muster_23 : decode cX1_muster 23 = .ok (.aload_n 0, 1) := dk_42 dg_cX1_muster_1121.2.2.2.2.2.2.1
theorem dX1_muster_24 : decode cX1_muster 24 = .ok (.getfield 11, 3) := dk_180 dg_cX1_muster_1121.2.2.2.2.2.2.2
theorem dg_cX1_muster_1122 : ck2s cX1_muster 27 16 6 = true ∧ ck1 cX1_muster 29 27 = true ∧ ck1 cX1_muster 30 96 = true ∧ ck1 cX1_muster 31 2 = true ∧ ck1 cX1_muster 32 79 = true ∧ ck3i cX1_muster 33 132 1 1 = true ∧ ck3s cX1_muster 36 167 (-34) = true ∧ ck1 cX1_muster 39 3 = true := by decide +kernel
theorem dX1_muster_27 : decode cX1_muster 27 = .ok (.bipush 6, 2) := dk_16 dg_cX1_muster_1122.1
theorem dX1_muster_29 : decode cX1_muster 29 = .ok (.iload_n 1, 1) := dk_27 dg_cX1_muster_1122.2.1
theorem dX1_muster_30 : decode cX1_muster 30 = .ok (.iadd, 1) := dk_96 dg_cX1_muster_1122.2.2.1
theorem dX1_muster_31 : decode cX1_muster 31 = .ok (.iconst (-1), 1) := dk_2 dg_cX1_muster_1122.2.2.2.1
theorem dX1_muster_32 : decode cX1_muster 32 = .ok (.iastore, 1) := dk_79 dg_cX1_muster_1122.2.2.2.2.1
theorem dX1_muster_33 : decode cX1_muster 33 = .ok (.iinc 1 1, 3) := dk_132 dg_cX1_muster_1122.2.2.2.2.2.1
theorem dX1_muster_36 : decode cX1_muster 36 = .ok (.goto (-34), 3) := dk_167 dg_cX1_muster_1122.2.2.2.2.2.2.1
theorem dX1_muster_39 : decode cX1_muster 39 = .ok (.iconst 0, 1) := dk_3 dg_cX1_muster_1122.2.2.2.2.2.2.2
theorem dg_cX1_muster_1123 : ck1 cX1_muster 40 60 = true ∧ ck1 cX1_muster 41 27 = true ∧ ck2s cX1_muster 42 16 6 = true ∧ ck3s cX1_muster 44 162 45 = true ∧ ck1 cX1_muster 47 3 = true ∧ ck1 cX1_muster 48 61 = true ∧ ck1 cX1_muster 49 28 = true ∧ ck1 cX1_muster 50 8 = true := by decide +kernel
theorem dX1_muster_40 : decode cX1_muster 40 = .ok (.istore_n 1, 1) := dk_60 dg_cX1_muster_1123.1
theorem dX1_muster_41 : decode cX1_muster 41 = .ok (.iload_n 1, 1) := dk_27 dg_cX1_muster_1123.2.1
theorem dX1_muster_42 : decode cX1_muster 42 = .ok (.bipush 6, 2) := dk_16 dg_cX1_muster_1123.2.2.1
theorem dX1_muster_44 : decode cX1_muster 44 = .ok (.if_icmp .ge 45, 3) := dk_162 dg_cX1_muster_1123.2.2.2.1
theorem dX1_muster_47 : decode cX1_muster 47 = .ok (.iconst 0, 1) := dk_3 dg_cX1_muster_1123.2.2.2.2.1
theorem dX1_muster_48 : decode cX1_muster 48 = .ok (.istore_n 2, 1) := dk_61 dg_cX1_muster_1123.2.2.2.2.2.1
theorem dX1_muster_49 : decode cX1_muster 49 = .ok (.iload_n 2, 1) := dk_28 dg_cX1_muster_1123.2.2.2.2.2.2.1
theorem dX1_muster_50 : decode cX1_muster 50 = .ok (.iconst 5, 1) := dk_8 dg_cX1_muster_1123.2.2.2.2.2.2.2
theorem dg_cX1_muster_1124 : ck3s cX1_muster 51 162 32 = true ∧ ck1 cX1_muster 54 42 = true ∧ ck3 cX1_muster 55 180 11 = true ∧ ck2s cX1_muster 58 16 12 = true ∧ ck1 cX1_muster 60 28 = true ∧ ck2s cX1_muster 61 16 6 = true ∧ ck1 cX1_muster 63 104 = true := by decide +kernel
theorem dX1_muster_51 : decode cX1_muster 51 = .ok (.if_icmp .ge 32, 3) := dk_162 dg_cX1_muster_1124.1
theorem dX1_muster_54 : decode cX1_muster 54 = .ok (.aload_n 0, 1) := dk_42 dg_cX1_muster_1124.2.1
theorem dX1_muster_55 : decode cX1_muster 55 = .ok (.getfield 11, 3) := dk_180 dg_cX1_muster_1124.2.2.1
theorem dX1_muster_58 : decode cX1_muster 58 = .ok (.bipush 12, 2) := dk_16 dg_cX1_muster_1124.2.2.2.1
theorem dX1_muster_60 : decode cX1_muster 60 = .ok (.iload_n 2, 1) := dk_28 dg_cX1_muster_1124.2.2.2.2.1
theorem dX1_muster_61 : decode cX1_muster 61 = .ok (.bipush 6, 2) := dk_16 dg_cX1_muster_1124.2.2.2.2.2.1
theorem dX1_muster_63 : decode cX1_muster 63 = .ok (.imul, 1) := dk_104 dg_cX1_muster_1124.2.2.2.2.2.2
def dS_cX1_muster_1 : List UInt8 := 96 :: 27 :: 96 :: 42 :: 180 :: 0 :: 15 :: 28 :: 27 :: 182 :: 0 :: 28 :: 79 :: 132 :: 2 :: 1 :: 167 :: 255 :: 225 :: 132 :: 1 :: 1 :: 167 :: 255 :: 211 :: 42 :: 180 :: 0 :: 11 :: 16 :: 42 :: 3 :: 79 :: 42 :: 180 :: 0 :: 11 :: 16 :: 43 :: 42 :: 180 :: 0 :: 15 :: 180 :: 0 :: 31 :: 79 :: 177 :: []
def dS_cX1_muster_0 : List UInt8 := 3 :: 60 :: 27 :: 16 :: 6 :: 162 :: 0 :: 34 :: 42 :: 180 :: 0 :: 11 :: 27 :: 42 :: 180 :: 0 :: 15 :: 4 :: 27 :: 182 :: 0 :: 22 :: 79 :: 42 :: 180 :: 0 :: 11 :: 16 :: 6 :: 27 :: 96 :: 2 :: 79 :: 132 :: 1 :: 1 :: 167 :: 255 :: 222 :: 3 :: 60 :: 27 :: 16 :: 6 :: 162 :: 0 :: 45 :: 3 :: 61 :: 28 :: 8 :: 162 :: 0 :: 32 :: 42 :: 180 :: 0 :: 11 :: 16 :: 12 :: 28 :: 16 :: 6 :: 104 :: dS_cX1_muster_1
theorem dT_cX1_muster_0 : cX1_muster.data.toList.drop 0 = dS_cX1_muster_0 := by decide +kernel
theorem dT_cX1_muster_1 : cX1_muster.data.toList.drop 64 = dS_cX1_muster_1 := ck_nx dT_cX1_muster_0 (by decide +kernel) rfl
theorem dg_cX1_muster_1125 : ck1L dS_cX1_muster_1 0 96 = true ∧ ck1L dS_cX1_muster_1 1 27 = true ∧ ck1L dS_cX1_muster_1 2 96 = true ∧ ck1L dS_cX1_muster_1 3 42 = true ∧ ck3L dS_cX1_muster_1 4 180 15 = true ∧ ck1L dS_cX1_muster_1 7 28 = true ∧ ck1L dS_cX1_muster_1 8 27 = true ∧ ck3L dS_cX1_muster_1 9 182 28 = true := by decide +kernel
theorem dX1_muster_64 : decode cX1_muster 64 = .ok (.iadd, 1) := dk_96 (ck1_s (r := 0) dT_cX1_muster_1 rfl dg_cX1_muster_1125.1)
theorem dX1_muster_65 : decode cX1_muster 65 = .ok (.iload_n 1, 1) := dk_27 (ck1_s (r := 1) dT_cX1_muster_1 rfl dg_cX1_muster_1125.2.1)
theorem dX1_muster_66 : decode cX1_muster 66 = .ok (.iadd, 1) := dk_96 (ck1_s (r := 2) dT_cX1_muster_1 rfl dg_cX1_muster_1125.2.2.1)
theorem dX1_muster_67 : decode cX1_muster 67 = .ok (.aload_n 0, 1) := dk_42 (ck1_s (r := 3) dT_cX1_muster_1 rfl dg_cX1_muster_1125.2.2.2.1)
theorem dX1_muster_68 : decode cX1_muster 68 = .ok (.getfield 15, 3) := dk_180 (ck3_s (r := 4) dT_cX1_muster_1 rfl dg_cX1_muster_1125.2.2.2.2.1)
theorem dX1_muster_71 : decode cX1_muster 71 = .ok (.iload_n 2, 1) := dk_28 (ck1_s (r := 7) dT_cX1_muster_1 rfl dg_cX1_muster_1125.2.2.2.2.2.1)
theorem dX1_muster_72 : decode cX1_muster 72 = .ok (.iload_n 1, 1) := dk_27 (ck1_s (r := 8) dT_cX1_muster_1 rfl dg_cX1_muster_1125.2.2.2.2.2.2.1)
theorem dX1_muster_73 : decode cX1_muster 73 = .ok (.invokevirtual 28, 3) := dk_182 (ck3_s (r := 9) dT_cX1_muster_1 rfl dg_cX1_muster_1125.2.2.2.2.2.2.2)
theorem dg_cX1_muster_1126 : ck1L dS_cX1_muster_1 12 79 = true ∧ ck3iL dS_cX1_muster_1 13 132 2 1 = true ∧ ck3sL dS_cX1_muster_1 16 167 (-31) = true ∧ ck3iL dS_cX1_muster_1 19 132 1 1 = true ∧ ck3sL dS_cX1_muster_1 22 167 (-45) = true ∧ ck1L dS_cX1_muster_1 25 42 = true ∧ ck3L dS_cX1_muster_1 26 180 11 = true ∧ ck2sL dS_cX1_muster_1 29 16 42 = true := by decide +kernel
theorem dX1_muster_76 : decode cX1_muster 76 = .ok (.iastore, 1) := dk_79 (ck1_s (r := 12) dT_cX1_muster_1 rfl dg_cX1_muster_1126.1)
theorem dX1_muster_77 : decode cX1_muster 77 = .ok (.iinc 2 1, 3) := dk_132 (ck3i_s (r := 13) dT_cX1_muster_1 rfl dg_cX1_muster_1126.2.1)
theorem dX1_muster_80 : decode cX1_muster 80 = .ok (.goto (-31), 3) := dk_167 (ck3s_s (r := 16) dT_cX1_muster_1 rfl dg_cX1_muster_1126.2.2.1)
theorem dX1_muster_83 : decode cX1_muster 83 = .ok (.iinc 1 1, 3) := dk_132 (ck3i_s (r := 19) dT_cX1_muster_1 rfl dg_cX1_muster_1126.2.2.2.1)
theorem dX1_muster_86 : decode cX1_muster 86 = .ok (.goto (-45), 3) := dk_167 (ck3s_s (r := 22) dT_cX1_muster_1 rfl dg_cX1_muster_1126.2.2.2.2.1)
theorem dX1_muster_89 : decode cX1_muster 89 = .ok (.aload_n 0, 1) := dk_42 (ck1_s (r := 25) dT_cX1_muster_1 rfl dg_cX1_muster_1126.2.2.2.2.2.1)
theorem dX1_muster_90 : decode cX1_muster 90 = .ok (.getfield 11, 3) := dk_180 (ck3_s (r := 26) dT_cX1_muster_1 rfl dg_cX1_muster_1126.2.2.2.2.2.2.1)
theorem dX1_muster_93 : decode cX1_muster 93 = .ok (.bipush 42, 2) := dk_16 (ck2s_s (r := 29) dT_cX1_muster_1 rfl dg_cX1_muster_1126.2.2.2.2.2.2.2)
theorem dg_cX1_muster_1127 : ck1L dS_cX1_muster_1 31 3 = true ∧ ck1L dS_cX1_muster_1 32 79 = true ∧ ck1L dS_cX1_muster_1 33 42 = true ∧ ck3L dS_cX1_muster_1 34 180 11 = true ∧ ck2sL dS_cX1_muster_1 37 16 43 = true ∧ ck1L dS_cX1_muster_1 39 42 = true ∧ ck3L dS_cX1_muster_1 40 180 15 = true ∧ ck3L dS_cX1_muster_1 43 180 31 = true := by decide +kernel
theorem dX1_muster_95 : decode cX1_muster 95 = .ok (.iconst 0, 1) := dk_3 (ck1_s (r := 31) dT_cX1_muster_1 rfl dg_cX1_muster_1127.1)
theorem dX1_muster_96 : decode cX1_muster 96 = .ok (.iastore, 1) := dk_79 (ck1_s (r := 32) dT_cX1_muster_1 rfl dg_cX1_muster_1127.2.1)
theorem dX1_muster_97 : decode cX1_muster 97 = .ok (.aload_n 0, 1) := dk_42 (ck1_s (r := 33) dT_cX1_muster_1 rfl dg_cX1_muster_1127.2.2.1)
theorem dX1_muster_98 : decode cX1_muster 98 = .ok (.getfield 11, 3) := dk_180 (ck3_s (r := 34) dT_cX1_muster_1 rfl dg_cX1_muster_1127.2.2.2.1)
theorem dX1_muster_101 : decode cX1_muster 101 = .ok (.bipush 43, 2) := dk_16 (ck2s_s (r := 37) dT_cX1_muster_1 rfl dg_cX1_muster_1127.2.2.2.2.1)
theorem dX1_muster_103 : decode cX1_muster 103 = .ok (.aload_n 0, 1) := dk_42 (ck1_s (r := 39) dT_cX1_muster_1 rfl dg_cX1_muster_1127.2.2.2.2.2.1)
theorem dX1_muster_104 : decode cX1_muster 104 = .ok (.getfield 15, 3) := dk_180 (ck3_s (r := 40) dT_cX1_muster_1 rfl dg_cX1_muster_1127.2.2.2.2.2.2.1)
theorem dX1_muster_107 : decode cX1_muster 107 = .ok (.getfield 31, 3) := dk_180 (ck3_s (r := 43) dT_cX1_muster_1 rfl dg_cX1_muster_1127.2.2.2.2.2.2.2)
theorem dg_cX1_muster_1128 : ck1L dS_cX1_muster_1 46 79 = true ∧ ck1L dS_cX1_muster_1 47 177 = true := by decide +kernel
theorem dX1_muster_110 : decode cX1_muster 110 = .ok (.iastore, 1) := dk_79 (ck1_s (r := 46) dT_cX1_muster_1 rfl dg_cX1_muster_1128.1)
theorem dX1_muster_111 : decode cX1_muster 111 = .ok (.return_, 1) := dk_177 (ck1_s (r := 47) dT_cX1_muster_1 rfl dg_cX1_muster_1128.2)
theorem dg_cX1_part_1129 : ck1 cX1_part 0 42 = true ∧ ck3 cX1_part 1 180 15 = true ∧ ck1 cX1_part 4 28 = true ∧ ck3 cX1_part 5 182 45 = true ∧ ck3s cX1_part 8 153 16 = true ∧ ck1 cX1_part 11 27 = true ∧ ck3s cX1_part 12 155 12 = true ∧ ck1 cX1_part 15 27 = true := by decide +kernel
theorem dX1_part_0 : decode cX1_part 0 = .ok (.aload_n 0, 1) := dk_42 dg_cX1_part_1129.1
theorem dX1_part_1 : decode cX1_part 1 = .ok (.getfield 15, 3) := dk_180 dg_cX1_part_1129.2.1
theorem dX1_part_4 : decode cX1_part 4 = .ok (.iload_n 2, 1) := dk_28 dg_cX1_part_1129.2.2.1
theorem dX1_part_5 : decode cX1_part 5 = .ok (.invokevirtual 45, 3) := dk_182 dg_cX1_part_1129.2.2.2.1
theorem dX1_part_8 : decode cX1_part 8 = .ok (.ifCond .eq 16, 3) := dk_153 dg_cX1_part_1129.2.2.2.2.1
theorem dX1_part_11 : decode cX1_part 11 = .ok (.iload_n 1, 1) := dk_27 dg_cX1_part_1129.2.2.2.2.2.1
theorem dX1_part_12 : decode cX1_part 12 = .ok (.ifCond .lt 12, 3) := dk_155 dg_cX1_part_1129.2.2.2.2.2.2.1
theorem dX1_part_15 : decode cX1_part 15 = .ok (.iload_n 1, 1) := dk_27 dg_cX1_part_1129.2.2.2.2.2.2.2
theorem dg_cX1_part_1130 : ck1 cX1_part 16 8 = true ∧ ck3s cX1_part 17 162 7 = true ∧ ck1 cX1_part 20 4 = true ∧ ck3s cX1_part 21 167 4 = true ∧ ck1 cX1_part 24 3 = true ∧ ck1 cX1_part 25 62 = true ∧ ck1 cX1_part 26 29 = true ∧ ck3s cX1_part 27 153 20 = true := by decide +kernel
theorem dX1_part_16 : decode cX1_part 16 = .ok (.iconst 5, 1) := dk_8 dg_cX1_part_1130.1
theorem dX1_part_17 : decode cX1_part 17 = .ok (.if_icmp .ge 7, 3) := dk_162 dg_cX1_part_1130.2.1
theorem dX1_part_20 : decode cX1_part 20 = .ok (.iconst 1, 1) := dk_4 dg_cX1_part_1130.2.2.1
theorem dX1_part_21 : decode cX1_part 21 = .ok (.goto 4, 3) := dk_167 dg_cX1_part_1130.2.2.2.1
theorem dX1_part_24 : decode cX1_part 24 = .ok (.iconst 0, 1) := dk_3 dg_cX1_part_1130.2.2.2.2.1
theorem dX1_part_25 : decode cX1_part 25 = .ok (.istore_n 3, 1) := dk_62 dg_cX1_part_1130.2.2.2.2.2.1
theorem dX1_part_26 : decode cX1_part 26 = .ok (.iload_n 3, 1) := dk_29 dg_cX1_part_1130.2.2.2.2.2.2.1
theorem dX1_part_27 : decode cX1_part 27 = .ok (.ifCond .eq 20, 3) := dk_153 dg_cX1_part_1130.2.2.2.2.2.2.2
theorem dg_cX1_part_1131 : ck1 cX1_part 30 42 = true ∧ ck3 cX1_part 31 180 11 = true ∧ ck2s cX1_part 34 16 12 = true ∧ ck1 cX1_part 36 27 = true ∧ ck2s cX1_part 37 16 6 = true ∧ ck1 cX1_part 39 104 = true ∧ ck1 cX1_part 40 96 = true ∧ ck1 cX1_part 41 28 = true := by decide +kernel
theorem dX1_part_30 : decode cX1_part 30 = .ok (.aload_n 0, 1) := dk_42 dg_cX1_part_1131.1
theorem dX1_part_31 : decode cX1_part 31 = .ok (.getfield 11, 3) := dk_180 dg_cX1_part_1131.2.1
theorem dX1_part_34 : decode cX1_part 34 = .ok (.bipush 12, 2) := dk_16 dg_cX1_part_1131.2.2.1
theorem dX1_part_36 : decode cX1_part 36 = .ok (.iload_n 1, 1) := dk_27 dg_cX1_part_1131.2.2.2.1
theorem dX1_part_37 : decode cX1_part 37 = .ok (.bipush 6, 2) := dk_16 dg_cX1_part_1131.2.2.2.2.1
theorem dX1_part_39 : decode cX1_part 39 = .ok (.imul, 1) := dk_104 dg_cX1_part_1131.2.2.2.2.2.1
theorem dX1_part_40 : decode cX1_part 40 = .ok (.iadd, 1) := dk_96 dg_cX1_part_1131.2.2.2.2.2.2.1
theorem dX1_part_41 : decode cX1_part 41 = .ok (.iload_n 2, 1) := dk_28 dg_cX1_part_1131.2.2.2.2.2.2.2
theorem dg_cX1_part_1132 : ck1 cX1_part 42 96 = true ∧ ck1 cX1_part 43 46 = true ∧ ck3s cX1_part 44 167 4 = true ∧ ck1 cX1_part 47 3 = true ∧ ck1 cX1_part 48 172 = true := by decide +kernel
theorem dX1_part_42 : decode cX1_part 42 = .ok (.iadd, 1) := dk_96 dg_cX1_part_1132.1
theorem dX1_part_43 : decode cX1_part 43 = .ok (.iaload, 1) := dk_46 dg_cX1_part_1132.2.1
theorem dX1_part_44 : decode cX1_part 44 = .ok (.goto 4, 3) := dk_167 dg_cX1_part_1132.2.2.1
theorem dX1_part_47 : decode cX1_part 47 = .ok (.iconst 0, 1) := dk_3 dg_cX1_part_1132.2.2.2.1
theorem dX1_part_48 : decode cX1_part 48 = .ok (.ireturn, 1) := dk_172 dg_cX1_part_1132.2.2.2.2
theorem dg_cX1_passDay_1133 : ck1 cX1_passDay 0 3 = true ∧ ck1 cX1_passDay 1 61 = true ∧ ck1 cX1_passDay 2 28 = true ∧ ck1 cX1_passDay 3 42 = true ∧ ck3 cX1_passDay 4 180 15 = true ∧ ck3 cX1_passDay 7 180 48 = true ∧ ck3s cX1_passDay 10 162 36 = true ∧ ck1 cX1_passDay 13 42 = true := by decide +kernel
theorem dX1_passDay_0 : decode cX1_passDay 0 = .ok (.iconst 0, 1) := dk_3 dg_cX1_passDay_1133.1
theorem dX1_passDay_1 : decode cX1_passDay 1 = .ok (.istore_n 2, 1) := dk_61 dg_cX1_passDay_1133.2.1
theorem dX1_passDay_2 : decode cX1_passDay 2 = .ok (.iload_n 2, 1) := dk_28 dg_cX1_passDay_1133.2.2.1
theorem dX1_passDay_3 : decode cX1_passDay 3 = .ok (.aload_n 0, 1) := dk_42 dg_cX1_passDay_1133.2.2.2.1
theorem dX1_passDay_4 : decode cX1_passDay 4 = .ok (.getfield 15, 3) := dk_180 dg_cX1_passDay_1133.2.2.2.2.1
theorem dX1_passDay_7 : decode cX1_passDay 7 = .ok (.getfield 48, 3) := dk_180 dg_cX1_passDay_1133.2.2.2.2.2.1
theorem dX1_passDay_10 : decode cX1_passDay 10 = .ok (.if_icmp .ge 36, 3) := dk_162 dg_cX1_passDay_1133.2.2.2.2.2.2.1
theorem dX1_passDay_13 : decode cX1_passDay 13 = .ok (.aload_n 0, 1) := dk_42 dg_cX1_passDay_1133.2.2.2.2.2.2.2
theorem dg_cX1_passDay_1134 : ck3 cX1_passDay 14 180 11 = true ∧ ck1 cX1_passDay 17 28 = true ∧ ck2s cX1_passDay 18 16 99 = true ∧ ck1 cX1_passDay 20 42 = true ∧ ck3 cX1_passDay 21 180 11 = true ∧ ck1 cX1_passDay 24 28 = true ∧ ck1 cX1_passDay 25 46 = true ∧ ck1 cX1_passDay 26 42 = true := by decide +kernel
theorem dX1_passDay_14 : decode cX1_passDay 14 = .ok (.getfield 11, 3) := dk_180 dg_cX1_passDay_1134.1
theorem dX1_passDay_17 : decode cX1_passDay 17 = .ok (.iload_n 2, 1) := dk_28 dg_cX1_passDay_1134.2.1
theorem dX1_passDay_18 : decode cX1_passDay 18 = .ok (.bipush 99, 2) := dk_16 dg_cX1_passDay_1134.2.2.1
theorem dX1_passDay_20 : decode cX1_passDay 20 = .ok (.aload_n 0, 1) := dk_42 dg_cX1_passDay_1134.2.2.2.1
theorem dX1_passDay_21 : decode cX1_passDay 21 = .ok (.getfield 11, 3) := dk_180 dg_cX1_passDay_1134.2.2.2.2.1
theorem dX1_passDay_24 : decode cX1_passDay 24 = .ok (.iload_n 2, 1) := dk_28 dg_cX1_passDay_1134.2.2.2.2.2.1
theorem dX1_passDay_25 : decode cX1_passDay 25 = .ok (.iaload, 1) := dk_46 dg_cX1_passDay_1134.2.2.2.2.2.2.1
theorem dX1_passDay_26 : decode cX1_passDay 26 = .ok (.aload_n 0, 1) := dk_42 dg_cX1_passDay_1134.2.2.2.2.2.2.2
theorem dg_cX1_passDay_1135 : ck3 cX1_passDay 27 180 15 = true ∧ ck1 cX1_passDay 30 5 = true ∧ ck1 cX1_passDay 31 28 = true ∧ ck3 cX1_passDay 32 182 22 = true ∧ ck1 cX1_passDay 35 96 = true ∧ ck3 cX1_passDay 36 184 88 = true ∧ ck1 cX1_passDay 39 79 = true ∧ ck3i cX1_passDay 40 132 2 1 = true := by decide +kernel
theorem dX1_passDay_27 : decode cX1_passDay 27 = .ok (.getfield 15, 3) := dk_180 dg_cX1_passDay_1135.1
theorem dX1_passDay_30 : decode cX1_passDay 30 = .ok (.iconst 2, 1) := dk_5 dg_cX1_passDay_1135.2.1
theorem dX1_passDay_31 : decode cX1_passDay 31 = .ok (.iload_n 2, 1) := dk_28 dg_cX1_passDay_1135.2.2.1
theorem dX1_passDay_32 : decode cX1_passDay 32 = .ok (.invokevirtual 22, 3) := dk_182 dg_cX1_passDay_1135.2.2.2.1
theorem dX1_passDay_35 : decode cX1_passDay 35 = .ok (.iadd, 1) := dk_96 dg_cX1_passDay_1135.2.2.2.2.1
theorem dX1_passDay_36 : decode cX1_passDay 36 = .ok (.invokestatic 88, 3) := dk_184 dg_cX1_passDay_1135.2.2.2.2.2.1
theorem dX1_passDay_39 : decode cX1_passDay 39 = .ok (.iastore, 1) := dk_79 dg_cX1_passDay_1135.2.2.2.2.2.2.1
theorem dX1_passDay_40 : decode cX1_passDay 40 = .ok (.iinc 2 1, 3) := dk_132 dg_cX1_passDay_1135.2.2.2.2.2.2.2
theorem dg_cX1_passDay_1136 : ck3s cX1_passDay 43 167 (-41) = true ∧ ck1 cX1_passDay 46 42 = true ∧ ck3 cX1_passDay 47 180 11 = true ∧ ck2s cX1_passDay 50 16 43 = true ∧ ck1 cX1_passDay 52 42 = true ∧ ck3 cX1_passDay 53 180 11 = true ∧ ck2s cX1_passDay 56 16 43 = true ∧ ck1 cX1_passDay 58 46 = true := by decide +kernel
theorem dX1_passDay_43 : decode cX1_passDay 43 = .ok (.goto (-41), 3) := dk_167 dg_cX1_passDay_1136.1
theorem dX1_passDay_46 : decode cX1_passDay 46 = .ok (.aload_n 0, 1) := dk_42 dg_cX1_passDay_1136.2.1
theorem dX1_passDay_47 : decode cX1_passDay 47 = .ok (.getfield 11, 3) := dk_180 dg_cX1_passDay_1136.2.2.1
theorem dX1_passDay_50 : decode cX1_passDay 50 = .ok (.bipush 43, 2) := dk_16 dg_cX1_passDay_1136.2.2.2.1
theorem dX1_passDay_52 : decode cX1_passDay 52 = .ok (.aload_n 0, 1) := dk_42 dg_cX1_passDay_1136.2.2.2.2.1
theorem dX1_passDay_53 : decode cX1_passDay 53 = .ok (.getfield 11, 3) := dk_180 dg_cX1_passDay_1136.2.2.2.2.2.1
theorem dX1_passDay_56 : decode cX1_passDay 56 = .ok (.bipush 43, 2) := dk_16 dg_cX1_passDay_1136.2.2.2.2.2.2.1
theorem dX1_passDay_58 : decode cX1_passDay 58 = .ok (.iaload, 1) := dk_46 dg_cX1_passDay_1136.2.2.2.2.2.2.2
theorem dg_cX1_passDay_1137 : ck3s cX1_passDay 59 17 137 = true ∧ ck1 cX1_passDay 62 104 = true ∧ ck2s cX1_passDay 63 16 71 = true := by decide +kernel
theorem dX1_passDay_59 : decode cX1_passDay 59 = .ok (.sipush 137, 3) := dk_17 dg_cX1_passDay_1137.1
theorem dX1_passDay_62 : decode cX1_passDay 62 = .ok (.imul, 1) := dk_104 dg_cX1_passDay_1137.2.1
theorem dX1_passDay_63 : decode cX1_passDay 63 = .ok (.bipush 71, 2) := dk_16 dg_cX1_passDay_1137.2.2
def dS_cX1_passDay_3 : List UInt8 := 202 :: 29 :: 172 :: []
def dS_cX1_passDay_2 : List UInt8 := 4 :: 96 :: 79 :: 3 :: 62 :: 3 :: 54 :: 4 :: 21 :: 4 :: 42 :: 180 :: 0 :: 15 :: 180 :: 0 :: 48 :: 162 :: 0 :: 48 :: 42 :: 21 :: 4 :: 182 :: 0 :: 51 :: 2 :: 159 :: 0 :: 32 :: 42 :: 21 :: 4 :: 42 :: 21 :: 4 :: 182 :: 0 :: 51 :: 182 :: 0 :: 84 :: 154 :: 0 :: 17 :: 42 :: 21 :: 4 :: 2 :: 182 :: 0 :: 97 :: 29 :: 4 :: 21 :: 4 :: 120 :: 128 :: 62 :: 132 :: 4 :: 1 :: 167 :: 255 :: dS_cX1_passDay_3
def dS_cX1_passDay_1 : List UInt8 := 71 :: 96 :: 17 :: 3 :: 232 :: 112 :: 79 :: 42 :: 180 :: 0 :: 11 :: 16 :: 43 :: 46 :: 16 :: 100 :: 112 :: 27 :: 162 :: 0 :: 7 :: 4 :: 167 :: 0 :: 4 :: 3 :: 61 :: 3 :: 62 :: 29 :: 42 :: 180 :: 0 :: 15 :: 180 :: 0 :: 48 :: 162 :: 0 :: 19 :: 42 :: 42 :: 29 :: 182 :: 0 :: 51 :: 28 :: 182 :: 0 :: 93 :: 132 :: 3 :: 1 :: 167 :: 255 :: 232 :: 42 :: 180 :: 0 :: 11 :: 16 :: 42 :: 92 :: 46 :: dS_cX1_passDay_2
def dS_cX1_passDay_0 : List UInt8 := 3 :: 61 :: 28 :: 42 :: 180 :: 0 :: 15 :: 180 :: 0 :: 48 :: 162 :: 0 :: 36 :: 42 :: 180 :: 0 :: 11 :: 28 :: 16 :: 99 :: 42 :: 180 :: 0 :: 11 :: 28 :: 46 :: 42 :: 180 :: 0 :: 15 :: 5 :: 28 :: 182 :: 0 :: 22 :: 96 :: 184 :: 0 :: 88 :: 79 :: 132 :: 2 :: 1 :: 167 :: 255 :: 215 :: 42 :: 180 :: 0 :: 11 :: 16 :: 43 :: 42 :: 180 :: 0 :: 11 :: 16 :: 43 :: 46 :: 17 :: 0 :: 137 :: 104 :: 16 :: dS_cX1_passDay_1
theorem dT_cX1_passDay_0 : cX1_passDay.data.toList.drop 0 = dS_cX1_passDay_0 := by decide +kernel
theorem dT_cX1_passDay_1 : cX1_passDay.data.toList.drop 64 = dS_cX1_passDay_1 := ck_nx dT_cX1_passDay_0 (by decide +kernel) rfl
theorem dT_cX1_passDay_2 : cX1_passDay.data.toList.drop 128 = dS_cX1_passDay_2 := ck_nx dT_cX1_passDay_1 (by decide +kernel) rfl
theorem dT_cX1_passDay_3 : cX1_passDay.data.toList.drop 192 = dS_cX1_passDay_3 := ck_nx dT_cX1_passDay_2 (by decide +kernel) rfl
theorem dg_cX1_passDay_1138 : ck1L dS_cX1_passDay_1 1 96 = true ∧ ck3sL dS_cX1_passDay_1 2 17 1000 = true ∧ ck1L dS_cX1_passDay_1 5 112 = true ∧ ck1L dS_cX1_passDay_1 6 79 = true ∧ ck1L dS_cX1_passDay_1 7 42 = true ∧ ck3L dS_cX1_passDay_1 8 180 11 = true ∧ ck2sL dS_cX1_passDay_1 11 16 43 = true ∧ ck1L dS_cX1_passDay_1 13 46 = true := by decide +kernel
theorem dX1_passDay_65 : decode cX1_passDay 65 = .ok (.iadd, 1) := dk_96 (ck1_s (r := 1) dT_cX1_passDay_1 rfl dg_cX1_passDay_1138.1)
theorem dX1_passDay_66 : decode cX1_passDay 66 = .ok (.sipush 1000, 3) := dk_17 (ck3s_s (r := 2) dT_cX1_passDay_1 rfl dg_cX1_passDay_1138.2.1)
theorem dX1_passDay_69 : decode cX1_passDay 69 = .ok (.irem, 1) := dk_112 (ck1_s (r := 5) dT_cX1_passDay_1 rfl dg_cX1_passDay_1138.2.2.1)
theorem dX1_passDay_70 : decode cX1_passDay 70 = .ok (.iastore, 1) := dk_79 (ck1_s (r := 6) dT_cX1_passDay_1 rfl dg_cX1_passDay_1138.2.2.2.1)
theorem dX1_passDay_71 : decode cX1_passDay 71 = .ok (.aload_n 0, 1) := dk_42 (ck1_s (r := 7) dT_cX1_passDay_1 rfl dg_cX1_passDay_1138.2.2.2.2.1)
theorem dX1_passDay_72 : decode cX1_passDay 72 = .ok (.getfield 11, 3) := dk_180 (ck3_s (r := 8) dT_cX1_passDay_1 rfl dg_cX1_passDay_1138.2.2.2.2.2.1)
theorem dX1_passDay_75 : decode cX1_passDay 75 = .ok (.bipush 43, 2) := dk_16 (ck2s_s (r := 11) dT_cX1_passDay_1 rfl dg_cX1_passDay_1138.2.2.2.2.2.2.1)
theorem dX1_passDay_77 : decode cX1_passDay 77 = .ok (.iaload, 1) := dk_46 (ck1_s (r := 13) dT_cX1_passDay_1 rfl dg_cX1_passDay_1138.2.2.2.2.2.2.2)
theorem dg_cX1_passDay_1139 : ck2sL dS_cX1_passDay_1 14 16 100 = true ∧ ck1L dS_cX1_passDay_1 16 112 = true ∧ ck1L dS_cX1_passDay_1 17 27 = true ∧ ck3sL dS_cX1_passDay_1 18 162 7 = true ∧ ck1L dS_cX1_passDay_1 21 4 = true ∧ ck3sL dS_cX1_passDay_1 22 167 4 = true ∧ ck1L dS_cX1_passDay_1 25 3 = true ∧ ck1L dS_cX1_passDay_1 26 61 = true := by decide +kernel
theorem dX1_passDay_78 : decode cX1_passDay 78 = .ok (.bipush 100, 2) := dk_16 (ck2s_s (r := 14) dT_cX1_passDay_1 rfl dg_cX1_passDay_1139.1)
theorem dX1_passDay_80 : decode cX1_passDay 80 = .ok (.irem, 1) := dk_112 (ck1_s (r := 16) dT_cX1_passDay_1 rfl dg_cX1_passDay_1139.2.1)
theorem dX1_passDay_81 : decode cX1_passDay 81 = .ok (.iload_n 1, 1) := dk_27 (ck1_s (r := 17) dT_cX1_passDay_1 rfl dg_cX1_passDay_1139.2.2.1)
theorem dX1_passDay_82 : decode cX1_passDay 82 = .ok (.if_icmp .ge 7, 3) := dk_162 (ck3s_s (r := 18) dT_cX1_passDay_1 rfl dg_cX1_passDay_1139.2.2.2.1)
theorem dX1_passDay_85 : decode cX1_passDay 85 = .ok (.iconst 1, 1) := dk_4 (ck1_s (r := 21) dT_cX1_passDay_1 rfl dg_cX1_passDay_1139.2.2.2.2.1)
theorem dX1_passDay_86 : decode cX1_passDay 86 = .ok (.goto 4, 3) := dk_167 (ck3s_s (r := 22) dT_cX1_passDay_1 rfl dg_cX1_passDay_1139.2.2.2.2.2.1)
theorem dX1_passDay_89 : decode cX1_passDay 89 = .ok (.iconst 0, 1) := dk_3 (ck1_s (r := 25) dT_cX1_passDay_1 rfl dg_cX1_passDay_1139.2.2.2.2.2.2.1)
theorem dX1_passDay_90 : decode cX1_passDay 90 = .ok (.istore_n 2, 1) := dk_61 (ck1_s (r := 26) dT_cX1_passDay_1 rfl dg_cX1_passDay_1139.2.2.2.2.2.2.2)
theorem dg_cX1_passDay_1140 : ck1L dS_cX1_passDay_1 27 3 = true ∧ ck1L dS_cX1_passDay_1 28 62 = true ∧ ck1L dS_cX1_passDay_1 29 29 = true ∧ ck1L dS_cX1_passDay_1 30 42 = true ∧ ck3L dS_cX1_passDay_1 31 180 15 = true ∧ ck3L dS_cX1_passDay_1 34 180 48 = true ∧ ck3sL dS_cX1_passDay_1 37 162 19 = true ∧ ck1L dS_cX1_passDay_1 40 42 = true := by decide +kernel
theorem dX1_passDay_91 : decode cX1_passDay 91 = .ok (.iconst 0, 1) := dk_3 (ck1_s (r := 27) dT_cX1_passDay_1 rfl dg_cX1_passDay_1140.1)
theorem dX1_passDay_92 : decode cX1_passDay 92 = .ok (.istore_n 3, 1) := dk_62 (ck1_s (r := 28) dT_cX1_passDay_1 rfl dg_cX1_passDay_1140.2.1)
theorem dX1_passDay_93 : decode cX1_passDay 93 = .ok (.iload_n 3, 1) := dk_29 (ck1_s (r := 29) dT_cX1_passDay_1 rfl dg_cX1_passDay_1140.2.2.1)
theorem dX1_passDay_94 : decode cX1_passDay 94 = .ok (.aload_n 0, 1) := dk_42 (ck1_s (r := 30) dT_cX1_passDay_1 rfl dg_cX1_passDay_1140.2.2.2.1)
theorem dX1_passDay_95 : decode cX1_passDay 95 = .ok (.getfield 15, 3) := dk_180 (ck3_s (r := 31) dT_cX1_passDay_1 rfl dg_cX1_passDay_1140.2.2.2.2.1)
theorem dX1_passDay_98 : decode cX1_passDay 98 = .ok (.getfield 48, 3) := dk_180 (ck3_s (r := 34) dT_cX1_passDay_1 rfl dg_cX1_passDay_1140.2.2.2.2.2.1)
theorem dX1_passDay_101 : decode cX1_passDay 101 = .ok (.if_icmp .ge 19, 3) := dk_162 (ck3s_s (r := 37) dT_cX1_passDay_1 rfl dg_cX1_passDay_1140.2.2.2.2.2.2.1)
theorem dX1_passDay_104 : decode cX1_passDay 104 = .ok (.aload_n 0, 1) := dk_42 (ck1_s (r := 40) dT_cX1_passDay_1 rfl dg_cX1_passDay_1140.2.2.2.2.2.2.2)
theorem dg_cX1_passDay_1141 : ck1L dS_cX1_passDay_1 41 42 = true ∧ ck1L dS_cX1_passDay_1 42 29 = true ∧ ck3L dS_cX1_passDay_1 43 182 51 = true ∧ ck1L dS_cX1_passDay_1 46 28 = true ∧ ck3L dS_cX1_passDay_1 47 182 93 = true ∧ ck3iL dS_cX1_passDay_1 50 132 3 1 = true ∧ ck3sL dS_cX1_passDay_1 53 167 (-24) = true ∧ ck1L dS_cX1_passDay_1 56 42 = true := by decide +kernel
theorem dX1_passDay_105 : decode cX1_passDay 105 = .ok (.aload_n 0, 1) := dk_42 (ck1_s (r := 41) dT_cX1_passDay_1 rfl dg_cX1_passDay_1141.1)
theorem dX1_passDay_106 : decode cX1_passDay 106 = .ok (.iload_n 3, 1) := dk_29 (ck1_s (r := 42) dT_cX1_passDay_1 rfl dg_cX1_passDay_1141.2.1)
theorem dX1_passDay_107 : decode cX1_passDay 107 = .ok (.invokevirtual 51, 3) := dk_182 (ck3_s (r := 43) dT_cX1_passDay_1 rfl dg_cX1_passDay_1141.2.2.1)
theorem dX1_passDay_110 : decode cX1_passDay 110 = .ok (.iload_n 2, 1) := dk_28 (ck1_s (r := 46) dT_cX1_passDay_1 rfl dg_cX1_passDay_1141.2.2.2.1)
theorem dX1_passDay_111 : decode cX1_passDay 111 = .ok (.invokevirtual 93, 3) := dk_182 (ck3_s (r := 47) dT_cX1_passDay_1 rfl dg_cX1_passDay_1141.2.2.2.2.1)
theorem dX1_passDay_114 : decode cX1_passDay 114 = .ok (.iinc 3 1, 3) := dk_132 (ck3i_s (r := 50) dT_cX1_passDay_1 rfl dg_cX1_passDay_1141.2.2.2.2.2.1)
theorem dX1_passDay_117 : decode cX1_passDay 117 = .ok (.goto (-24), 3) := dk_167 (ck3s_s (r := 53) dT_cX1_passDay_1 rfl dg_cX1_passDay_1141.2.2.2.2.2.2.1)
theorem dX1_passDay_120 : decode cX1_passDay 120 = .ok (.aload_n 0, 1) := dk_42 (ck1_s (r := 56) dT_cX1_passDay_1 rfl dg_cX1_passDay_1141.2.2.2.2.2.2.2)
theorem dg_cX1_passDay_1142 : ck3L dS_cX1_passDay_1 57 180 11 = true ∧ ck2sL dS_cX1_passDay_1 60 16 42 = true ∧ ck1L dS_cX1_passDay_1 62 92 = true ∧ ck1L dS_cX1_passDay_1 63 46 = true ∧ ck1L dS_cX1_passDay_2 0 4 = true ∧ ck1L dS_cX1_passDay_2 1 96 = true ∧ ck1L dS_cX1_passDay_2 2 79 = true ∧ ck1L dS_cX1_passDay_2 3 3 = true := by decide +kernel
theorem dX1_passDay_121 : decode cX1_passDay 121 = .ok (.getfield 11, 3) := dk_180 (ck3_s (r := 57) dT_cX1_passDay_1 rfl dg_cX1_passDay_1142.1)
theorem dX1_passDay_124 : decode cX1_passDay 124 = .ok (.bipush 42, 2) := dk_16 (ck2s_s (r := 60) dT_cX1_passDay_1 rfl dg_cX1_passDay_1142.2.1)
theorem dX1_passDay_126 : decode cX1_passDay 126 = .ok (.dup2, 1) := dk_92 (ck1_s (r := 62) dT_cX1_passDay_1 rfl dg_cX1_passDay_1142.2.2.1)
theorem dX1_passDay_127 : decode cX1_passDay 127 = .ok (.iaload, 1) := dk_46 (ck1_s (r := 63) dT_cX1_passDay_1 rfl dg_cX1_passDay_1142.2.2.2.1)
theorem dX1_passDay_128 : decode cX1_passDay 128 = .ok (.iconst 1, 1) := dk_4 (ck1_s (r := 0) dT_cX1_passDay_2 rfl dg_cX1_passDay_1142.2.2.2.2.1)
theorem dX1_passDay_129 : decode cX1_passDay 129 = .ok (.iadd, 1) := dk_96 (ck1_s (r := 1) dT_cX1_passDay_2 rfl dg_cX1_passDay_1142.2.2.2.2.2.1)
theorem dX1_passDay_130 : decode cX1_passDay 130 = .ok (.iastore, 1) := dk_79 (ck1_s (r := 2) dT_cX1_passDay_2 rfl dg_cX1_passDay_1142.2.2.2.2.2.2.1)
theorem dX1_passDay_131 : decode cX1_passDay 131 = .ok (.iconst 0, 1) := dk_3 (ck1_s (r := 3) dT_cX1_passDay_2 rfl dg_cX1_passDay_1142.2.2.2.2.2.2.2)
theorem dg_cX1_passDay_1143 : ck1L dS_cX1_passDay_2 4 62 = true ∧ ck1L dS_cX1_passDay_2 5 3 = true ∧ ck2L dS_cX1_passDay_2 6 54 4 = true ∧ ck2L dS_cX1_passDay_2 8 21 4 = true ∧ ck1L dS_cX1_passDay_2 10 42 = true ∧ ck3L dS_cX1_passDay_2 11 180 15 = true ∧ ck3L dS_cX1_passDay_2 14 180 48 = true ∧ ck3sL dS_cX1_passDay_2 17 162 48 = true := by decide +kernel
theorem dX1_passDay_132 : decode cX1_passDay 132 = .ok (.istore_n 3, 1) := dk_62 (ck1_s (r := 4) dT_cX1_passDay_2 rfl dg_cX1_passDay_1143.1)
theorem dX1_passDay_133 : decode cX1_passDay 133 = .ok (.iconst 0, 1) := dk_3 (ck1_s (r := 5) dT_cX1_passDay_2 rfl dg_cX1_passDay_1143.2.1)
theorem dX1_passDay_134 : decode cX1_passDay 134 = .ok (.istore 4, 2) := dk_54 (ck2_s (r := 6) dT_cX1_passDay_2 rfl dg_cX1_passDay_1143.2.2.1)
theorem dX1_passDay_136 : decode cX1_passDay 136 = .ok (.iload 4, 2) := dk_21 (ck2_s (r := 8) dT_cX1_passDay_2 rfl dg_cX1_passDay_1143.2.2.2.1)
theorem dX1_passDay_138 : decode cX1_passDay 138 = .ok (.aload_n 0, 1) := dk_42 (ck1_s (r := 10) dT_cX1_passDay_2 rfl dg_cX1_passDay_1143.2.2.2.2.1)
theorem dX1_passDay_139 : decode cX1_passDay 139 = .ok (.getfield 15, 3) := dk_180 (ck3_s (r := 11) dT_cX1_passDay_2 rfl dg_cX1_passDay_1143.2.2.2.2.2.1)
theorem dX1_passDay_142 : decode cX1_passDay 142 = .ok (.getfield 48, 3) := dk_180 (ck3_s (r := 14) dT_cX1_passDay_2 rfl dg_cX1_passDay_1143.2.2.2.2.2.2.1)
theorem dX1_passDay_145 : decode cX1_passDay 145 = .ok (.if_icmp .ge 48, 3) := dk_162 (ck3s_s (r := 17) dT_cX1_passDay_2 rfl dg_cX1_passDay_1143.2.2.2.2.2.2.2)
theorem dg_cX1_passDay_1144 : ck1L dS_cX1_passDay_2 20 42 = true ∧ ck2L dS_cX1_passDay_2 21 21 4 = true ∧ ck3L dS_cX1_passDay_2 23 182 51 = true ∧ ck1L dS_cX1_passDay_2 26 2 = true ∧ ck3sL dS_cX1_passDay_2 27 159 32 = true ∧ ck1L dS_cX1_passDay_2 30 42 = true ∧ ck2L dS_cX1_passDay_2 31 21 4 = true ∧ ck1L dS_cX1_passDay_2 33 42 = true := by decide +kernel
theorem dX1_passDay_148 : decode cX1_passDay 148 = .ok (.aload_n 0, 1) := dk_42 (ck1_s (r := 20) dT_cX1_passDay_2 rfl dg_cX1_passDay_1144.1)
theorem dX1_passDay_149 : decode cX1_passDay 149 = .ok (.iload 4, 2) := dk_21 (ck2_s (r := 21) dT_cX1_passDay_2 rfl dg_cX1_passDay_1144.2.1)
theorem dX1_passDay_151 : decode cX1_passDay 151 = .ok (.invokevirtual 51, 3) := dk_182 (ck3_s (r := 23) dT_cX1_passDay_2 rfl dg_cX1_passDay_1144.2.2.1)
theorem dX1_passDay_154 : decode cX1_passDay 154 = .ok (.iconst (-1), 1) := dk_2 (ck1_s (r := 26) dT_cX1_passDay_2 rfl dg_cX1_passDay_1144.2.2.2.1)
theorem dX1_passDay_155 : decode cX1_passDay 155 = .ok (.if_icmp .eq 32, 3) := dk_159 (ck3s_s (r := 27) dT_cX1_passDay_2 rfl dg_cX1_passDay_1144.2.2.2.2.1)
theorem dX1_passDay_158 : decode cX1_passDay 158 = .ok (.aload_n 0, 1) := dk_42 (ck1_s (r := 30) dT_cX1_passDay_2 rfl dg_cX1_passDay_1144.2.2.2.2.2.1)
theorem dX1_passDay_159 : decode cX1_passDay 159 = .ok (.iload 4, 2) := dk_21 (ck2_s (r := 31) dT_cX1_passDay_2 rfl dg_cX1_passDay_1144.2.2.2.2.2.2.1)
theorem dX1_passDay_161 : decode cX1_passDay 161 = .ok (.aload_n 0, 1) := dk_42 (ck1_s (r := 33) dT_cX1_passDay_2 rfl dg_cX1_passDay_1144.2.2.2.2.2.2.2)
theorem dg_cX1_passDay_1145 : ck2L dS_cX1_passDay_2 34 21 4 = true ∧ ck3L dS_cX1_passDay_2 36 182 51 = true ∧ ck3L dS_cX1_passDay_2 39 182 84 = true ∧ ck3sL dS_cX1_passDay_2 42 154 17 = true ∧ ck1L dS_cX1_passDay_2 45 42 = true ∧ ck2L dS_cX1_passDay_2 46 21 4 = true ∧ ck1L dS_cX1_passDay_2 48 2 = true ∧ ck3L dS_cX1_passDay_2 49 182 97 = true := by decide +kernel
theorem dX1_passDay_162 : decode cX1_passDay 162 = .ok (.iload 4, 2) := dk_21 (ck2_s (r := 34) dT_cX1_passDay_2 rfl dg_cX1_passDay_1145.1)
theorem dX1_passDay_164 : decode cX1_passDay 164 = .ok (.invokevirtual 51, 3) := dk_182 (ck3_s (r := 36) dT_cX1_passDay_2 rfl dg_cX1_passDay_1145.2.1)
theorem dX1_passDay_167 : decode cX1_passDay 167 = .ok (.invokevirtual 84, 3) := dk_182 (ck3_s (r := 39) dT_cX1_passDay_2 rfl dg_cX1_passDay_1145.2.2.1)
theorem dX1_passDay_170 : decode cX1_passDay 170 = .ok (.ifCond .ne 17, 3) := dk_154 (ck3s_s (r := 42) dT_cX1_passDay_2 rfl dg_cX1_passDay_1145.2.2.2.1)
theorem dX1_passDay_173 : decode cX1_passDay 173 = .ok (.aload_n 0, 1) := dk_42 (ck1_s (r := 45) dT_cX1_passDay_2 rfl dg_cX1_passDay_1145.2.2.2.2.1)
theorem dX1_passDay_174 : decode cX1_passDay 174 = .ok (.iload 4, 2) := dk_21 (ck2_s (r := 46) dT_cX1_passDay_2 rfl dg_cX1_passDay_1145.2.2.2.2.2.1)
theorem dX1_passDay_176 : decode cX1_passDay 176 = .ok (.iconst (-1), 1) := dk_2 (ck1_s (r := 48) dT_cX1_passDay_2 rfl dg_cX1_passDay_1145.2.2.2.2.2.2.1)
theorem dX1_passDay_177 : decode cX1_passDay 177 = .ok (.invokevirtual 97, 3) := dk_182 (ck3_s (r := 49) dT_cX1_passDay_2 rfl dg_cX1_passDay_1145.2.2.2.2.2.2.2)
theorem dg_cX1_passDay_1146 : ck1L dS_cX1_passDay_2 52 29 = true ∧ ck1L dS_cX1_passDay_2 53 4 = true ∧ ck2L dS_cX1_passDay_2 54 21 4 = true ∧ ck1L dS_cX1_passDay_2 56 120 = true ∧ ck1L dS_cX1_passDay_2 57 128 = true ∧ ck1L dS_cX1_passDay_2 58 62 = true ∧ ck3iL dS_cX1_passDay_2 59 132 4 1 = true ∧ ck3sL dS_cX1_passDay_2 62 167 (-54) = true := by decide +kernel
theorem dX1_passDay_180 : decode cX1_passDay 180 = .ok (.iload_n 3, 1) := dk_29 (ck1_s (r := 52) dT_cX1_passDay_2 rfl dg_cX1_passDay_1146.1)
theorem dX1_passDay_181 : decode cX1_passDay 181 = .ok (.iconst 1, 1) := dk_4 (ck1_s (r := 53) dT_cX1_passDay_2 rfl dg_cX1_passDay_1146.2.1)
theorem dX1_passDay_182 : decode cX1_passDay 182 = .ok (.iload 4, 2) := dk_21 (ck2_s (r := 54) dT_cX1_passDay_2 rfl dg_cX1_passDay_1146.2.2.1)
theorem dX1_passDay_184 : decode cX1_passDay 184 = .ok (.ishl, 1) := dk_120 (ck1_s (r := 56) dT_cX1_passDay_2 rfl dg_cX1_passDay_1146.2.2.2.1)
theorem dX1_passDay_185 : decode cX1_passDay 185 = .ok (.ior, 1) := dk_128 (ck1_s (r := 57) dT_cX1_passDay_2 rfl dg_cX1_passDay_1146.2.2.2.2.1)
theorem dX1_passDay_186 : decode cX1_passDay 186 = .ok (.istore_n 3, 1) := dk_62 (ck1_s (r := 58) dT_cX1_passDay_2 rfl dg_cX1_passDay_1146.2.2.2.2.2.1)
theorem dX1_passDay_187 : decode cX1_passDay 187 = .ok (.iinc 4 1, 3) := dk_132 (ck3i_s (r := 59) dT_cX1_passDay_2 rfl dg_cX1_passDay_1146.2.2.2.2.2.2.1)
theorem dX1_passDay_190 : decode cX1_passDay 190 = .ok (.goto (-54), 3) := dk_167 (ck3s_s (r := 62) dT_cX1_passDay_2 rfl dg_cX1_passDay_1146.2.2.2.2.2.2.2)
theorem dg_cX1_passDay_1147 : ck1L dS_cX1_passDay_3 1 29 = true ∧ ck1L dS_cX1_passDay_3 2 172 = true := by decide +kernel
theorem dX1_passDay_193 : decode cX1_passDay 193 = .ok (.iload_n 3, 1) := dk_29 (ck1_s (r := 1) dT_cX1_passDay_3 rfl dg_cX1_passDay_1147.1)
theorem dX1_passDay_194 : decode cX1_passDay 194 = .ok (.ireturn, 1) := dk_172 (ck1_s (r := 2) dT_cX1_passDay_3 rfl dg_cX1_passDay_1147.2)
theorem dg_cX1_saveTo_1148 : ck1 cX1_saveTo 0 28 = true ∧ ck3s cX1_saveTo 1 155 27 = true ∧ ck1 cX1_saveTo 4 28 = true ∧ ck1 cX1_saveTo 5 43 = true ∧ ck1 cX1_saveTo 6 190 = true ∧ ck2s cX1_saveTo 7 16 44 = true ∧ ck1 cX1_saveTo 9 108 = true ∧ ck3s cX1_saveTo 10 162 18 = true := by decide +kernel
theorem dX1_saveTo_0 : decode cX1_saveTo 0 = .ok (.iload_n 2, 1) := dk_28 dg_cX1_saveTo_1148.1
theorem dX1_saveTo_1 : decode cX1_saveTo 1 = .ok (.ifCond .lt 27, 3) := dk_155 dg_cX1_saveTo_1148.2.1
theorem dX1_saveTo_4 : decode cX1_saveTo 4 = .ok (.iload_n 2, 1) := dk_28 dg_cX1_saveTo_1148.2.2.1
theorem dX1_saveTo_5 : decode cX1_saveTo 5 = .ok (.aload_n 1, 1) := dk_43 dg_cX1_saveTo_1148.2.2.2.1
theorem dX1_saveTo_6 : decode cX1_saveTo 6 = .ok (.arraylength, 1) := dk_190 dg_cX1_saveTo_1148.2.2.2.2.1
theorem dX1_saveTo_7 : decode cX1_saveTo 7 = .ok (.bipush 44, 2) := dk_16 dg_cX1_saveTo_1148.2.2.2.2.2.1
theorem dX1_saveTo_9 : decode cX1_saveTo 9 = .ok (.idiv, 1) := dk_108 dg_cX1_saveTo_1148.2.2.2.2.2.2.1
theorem dX1_saveTo_10 : decode cX1_saveTo 10 = .ok (.if_icmp .ge 18, 3) := dk_162 dg_cX1_saveTo_1148.2.2.2.2.2.2.2
theorem dg_cX1_saveTo_1149 : ck1 cX1_saveTo 13 42 = true ∧ ck3 cX1_saveTo 14 180 11 = true ∧ ck1 cX1_saveTo 17 3 = true ∧ ck1 cX1_saveTo 18 43 = true ∧ ck1 cX1_saveTo 19 28 = true ∧ ck2s cX1_saveTo 20 16 44 = true ∧ ck1 cX1_saveTo 22 104 = true ∧ ck2s cX1_saveTo 23 16 44 = true := by decide +kernel
theorem dX1_saveTo_13 : decode cX1_saveTo 13 = .ok (.aload_n 0, 1) := dk_42 dg_cX1_saveTo_1149.1
theorem dX1_saveTo_14 : decode cX1_saveTo 14 = .ok (.getfield 11, 3) := dk_180 dg_cX1_saveTo_1149.2.1
theorem dX1_saveTo_17 : decode cX1_saveTo 17 = .ok (.iconst 0, 1) := dk_3 dg_cX1_saveTo_1149.2.2.1
theorem dX1_saveTo_18 : decode cX1_saveTo 18 = .ok (.aload_n 1, 1) := dk_43 dg_cX1_saveTo_1149.2.2.2.1
theorem dX1_saveTo_19 : decode cX1_saveTo 19 = .ok (.iload_n 2, 1) := dk_28 dg_cX1_saveTo_1149.2.2.2.2.1
theorem dX1_saveTo_20 : decode cX1_saveTo 20 = .ok (.bipush 44, 2) := dk_16 dg_cX1_saveTo_1149.2.2.2.2.2.1
theorem dX1_saveTo_22 : decode cX1_saveTo 22 = .ok (.imul, 1) := dk_104 dg_cX1_saveTo_1149.2.2.2.2.2.2.1
theorem dX1_saveTo_23 : decode cX1_saveTo 23 = .ok (.bipush 44, 2) := dk_16 dg_cX1_saveTo_1149.2.2.2.2.2.2.2
theorem dg_cX1_saveTo_1150 : ck3 cX1_saveTo 25 184 35 = true ∧ ck1 cX1_saveTo 28 177 = true := by decide +kernel
theorem dX1_saveTo_25 : decode cX1_saveTo 25 = .ok (.invokestatic 35, 3) := dk_184 dg_cX1_saveTo_1150.1
theorem dX1_saveTo_28 : decode cX1_saveTo 28 = .ok (.return_, 1) := dk_177 dg_cX1_saveTo_1150.2
theorem dg_cX1_seed_1151 : ck1 cX1_seed 0 42 = true ∧ ck3 cX1_seed 1 180 11 = true ∧ ck2s cX1_seed 4 16 43 = true ∧ ck1 cX1_seed 6 46 = true ∧ ck1 cX1_seed 7 172 = true := by decide +kernel
theorem dX1_seed_0 : decode cX1_seed 0 = .ok (.aload_n 0, 1) := dk_42 dg_cX1_seed_1151.1
theorem dX1_seed_1 : decode cX1_seed 1 = .ok (.getfield 11, 3) := dk_180 dg_cX1_seed_1151.2.1
theorem dX1_seed_4 : decode cX1_seed 4 = .ok (.bipush 43, 2) := dk_16 dg_cX1_seed_1151.2.2.1
theorem dX1_seed_6 : decode cX1_seed 6 = .ok (.iaload, 1) := dk_46 dg_cX1_seed_1151.2.2.2.1
theorem dX1_seed_7 : decode cX1_seed 7 = .ok (.ireturn, 1) := dk_172 dg_cX1_seed_1151.2.2.2.2
theorem dg_cX1_setPart_1152 : ck1 cX1_setPart 0 42 = true ∧ ck3 cX1_setPart 1 180 15 = true ∧ ck1 cX1_setPart 4 28 = true ∧ ck3 cX1_setPart 5 182 45 = true ∧ ck3s cX1_setPart 8 153 27 = true ∧ ck1 cX1_setPart 11 27 = true ∧ ck3s cX1_setPart 12 155 23 = true ∧ ck1 cX1_setPart 15 27 = true := by decide +kernel
theorem dX1_setPart_0 : decode cX1_setPart 0 = .ok (.aload_n 0, 1) := dk_42 dg_cX1_setPart_1152.1
theorem dX1_setPart_1 : decode cX1_setPart 1 = .ok (.getfield 15, 3) := dk_180 dg_cX1_setPart_1152.2.1
theorem dX1_setPart_4 : decode cX1_setPart 4 = .ok (.iload_n 2, 1) := dk_28 dg_cX1_setPart_1152.2.2.1
theorem dX1_setPart_5 : decode cX1_setPart 5 = .ok (.invokevirtual 45, 3) := dk_182 dg_cX1_setPart_1152.2.2.2.1
theorem dX1_setPart_8 : decode cX1_setPart 8 = .ok (.ifCond .eq 27, 3) := dk_153 dg_cX1_setPart_1152.2.2.2.2.1
theorem dX1_setPart_11 : decode cX1_setPart 11 = .ok (.iload_n 1, 1) := dk_27 dg_cX1_setPart_1152.2.2.2.2.2.1
theorem dX1_setPart_12 : decode cX1_setPart 12 = .ok (.ifCond .lt 23, 3) := dk_155 dg_cX1_setPart_1152.2.2.2.2.2.2.1
theorem dX1_setPart_15 : decode cX1_setPart 15 = .ok (.iload_n 1, 1) := dk_27 dg_cX1_setPart_1152.2.2.2.2.2.2.2
theorem dg_cX1_setPart_1153 : ck1 cX1_setPart 16 8 = true ∧ ck3s cX1_setPart 17 162 18 = true ∧ ck1 cX1_setPart 20 42 = true ∧ ck3 cX1_setPart 21 180 11 = true ∧ ck2s cX1_setPart 24 16 12 = true ∧ ck1 cX1_setPart 26 27 = true ∧ ck2s cX1_setPart 27 16 6 = true ∧ ck1 cX1_setPart 29 104 = true := by decide +kernel
theorem dX1_setPart_16 : decode cX1_setPart 16 = .ok (.iconst 5, 1) := dk_8 dg_cX1_setPart_1153.1
theorem dX1_setPart_17 : decode cX1_setPart 17 = .ok (.if_icmp .ge 18, 3) := dk_162 dg_cX1_setPart_1153.2.1
theorem dX1_setPart_20 : decode cX1_setPart 20 = .ok (.aload_n 0, 1) := dk_42 dg_cX1_setPart_1153.2.2.1
theorem dX1_setPart_21 : decode cX1_setPart 21 = .ok (.getfield 11, 3) := dk_180 dg_cX1_setPart_1153.2.2.2.1
theorem dX1_setPart_24 : decode cX1_setPart 24 = .ok (.bipush 12, 2) := dk_16 dg_cX1_setPart_1153.2.2.2.2.1
theorem dX1_setPart_26 : decode cX1_setPart 26 = .ok (.iload_n 1, 1) := dk_27 dg_cX1_setPart_1153.2.2.2.2.2.1
theorem dX1_setPart_27 : decode cX1_setPart 27 = .ok (.bipush 6, 2) := dk_16 dg_cX1_setPart_1153.2.2.2.2.2.2.1
theorem dX1_setPart_29 : decode cX1_setPart 29 = .ok (.imul, 1) := dk_104 dg_cX1_setPart_1153.2.2.2.2.2.2.2
theorem dg_cX1_setPart_1154 : ck1 cX1_setPart 30 96 = true ∧ ck1 cX1_setPart 31 28 = true ∧ ck1 cX1_setPart 32 96 = true ∧ ck1 cX1_setPart 33 29 = true ∧ ck1 cX1_setPart 34 79 = true ∧ ck1 cX1_setPart 35 177 = true := by decide +kernel
theorem dX1_setPart_30 : decode cX1_setPart 30 = .ok (.iadd, 1) := dk_96 dg_cX1_setPart_1154.1
theorem dX1_setPart_31 : decode cX1_setPart 31 = .ok (.iload_n 2, 1) := dk_28 dg_cX1_setPart_1154.2.1
theorem dX1_setPart_32 : decode cX1_setPart 32 = .ok (.iadd, 1) := dk_96 dg_cX1_setPart_1154.2.2.1
theorem dX1_setPart_33 : decode cX1_setPart 33 = .ok (.iload_n 3, 1) := dk_29 dg_cX1_setPart_1154.2.2.2.1
theorem dX1_setPart_34 : decode cX1_setPart 34 = .ok (.iastore, 1) := dk_79 dg_cX1_setPart_1154.2.2.2.2.1
theorem dX1_setPart_35 : decode cX1_setPart 35 = .ok (.return_, 1) := dk_177 dg_cX1_setPart_1154.2.2.2.2.2
theorem dg_cX1_setWears_1155 : ck1 cX1_setWears 0 42 = true ∧ ck3 cX1_setWears 1 180 15 = true ∧ ck1 cX1_setWears 4 27 = true ∧ ck3 cX1_setWears 5 182 41 = true ∧ ck3s cX1_setWears 8 153 13 = true ∧ ck1 cX1_setWears 11 42 = true ∧ ck3 cX1_setWears 12 180 11 = true ∧ ck2s cX1_setWears 15 16 6 = true := by decide +kernel
theorem dX1_setWears_0 : decode cX1_setWears 0 = .ok (.aload_n 0, 1) := dk_42 dg_cX1_setWears_1155.1
theorem dX1_setWears_1 : decode cX1_setWears 1 = .ok (.getfield 15, 3) := dk_180 dg_cX1_setWears_1155.2.1
theorem dX1_setWears_4 : decode cX1_setWears 4 = .ok (.iload_n 1, 1) := dk_27 dg_cX1_setWears_1155.2.2.1
theorem dX1_setWears_5 : decode cX1_setWears 5 = .ok (.invokevirtual 41, 3) := dk_182 dg_cX1_setWears_1155.2.2.2.1
theorem dX1_setWears_8 : decode cX1_setWears 8 = .ok (.ifCond .eq 13, 3) := dk_153 dg_cX1_setWears_1155.2.2.2.2.1
theorem dX1_setWears_11 : decode cX1_setWears 11 = .ok (.aload_n 0, 1) := dk_42 dg_cX1_setWears_1155.2.2.2.2.2.1
theorem dX1_setWears_12 : decode cX1_setWears 12 = .ok (.getfield 11, 3) := dk_180 dg_cX1_setWears_1155.2.2.2.2.2.2.1
theorem dX1_setWears_15 : decode cX1_setWears 15 = .ok (.bipush 6, 2) := dk_16 dg_cX1_setWears_1155.2.2.2.2.2.2.2
theorem dg_cX1_setWears_1156 : ck1 cX1_setWears 17 27 = true ∧ ck1 cX1_setWears 18 96 = true ∧ ck1 cX1_setWears 19 28 = true ∧ ck1 cX1_setWears 20 79 = true ∧ ck1 cX1_setWears 21 177 = true := by decide +kernel
theorem dX1_setWears_17 : decode cX1_setWears 17 = .ok (.iload_n 1, 1) := dk_27 dg_cX1_setWears_1156.1
theorem dX1_setWears_18 : decode cX1_setWears 18 = .ok (.iadd, 1) := dk_96 dg_cX1_setWears_1156.2.1
theorem dX1_setWears_19 : decode cX1_setWears 19 = .ok (.iload_n 2, 1) := dk_28 dg_cX1_setWears_1156.2.2.1
theorem dX1_setWears_20 : decode cX1_setWears 20 = .ok (.iastore, 1) := dk_79 dg_cX1_setWears_1156.2.2.2.1
theorem dX1_setWears_21 : decode cX1_setWears 21 = .ok (.return_, 1) := dk_177 dg_cX1_setWears_1156.2.2.2.2
theorem dg_cX1_today_1157 : ck1 cX1_today 0 42 = true ∧ ck3 cX1_today 1 180 11 = true ∧ ck2s cX1_today 4 16 42 = true ∧ ck1 cX1_today 6 46 = true ∧ ck1 cX1_today 7 172 = true := by decide +kernel
theorem dX1_today_0 : decode cX1_today 0 = .ok (.aload_n 0, 1) := dk_42 dg_cX1_today_1157.1
theorem dX1_today_1 : decode cX1_today 1 = .ok (.getfield 11, 3) := dk_180 dg_cX1_today_1157.2.1
theorem dX1_today_4 : decode cX1_today 4 = .ok (.bipush 42, 2) := dk_16 dg_cX1_today_1157.2.2.1
theorem dX1_today_6 : decode cX1_today 6 = .ok (.iaload, 1) := dk_46 dg_cX1_today_1157.2.2.2.1
theorem dX1_today_7 : decode cX1_today 7 = .ok (.ireturn, 1) := dk_172 dg_cX1_today_1157.2.2.2.2
theorem dg_cX1_wearer_1158 : ck1 cX1_wearer 0 3 = true ∧ ck1 cX1_wearer 1 61 = true ∧ ck1 cX1_wearer 2 28 = true ∧ ck1 cX1_wearer 3 42 = true ∧ ck3 cX1_wearer 4 180 15 = true ∧ ck3 cX1_wearer 7 180 48 = true ∧ ck3s cX1_wearer 10 162 20 = true ∧ ck1 cX1_wearer 13 42 = true := by decide +kernel
theorem dX1_wearer_0 : decode cX1_wearer 0 = .ok (.iconst 0, 1) := dk_3 dg_cX1_wearer_1158.1
theorem dX1_wearer_1 : decode cX1_wearer 1 = .ok (.istore_n 2, 1) := dk_61 dg_cX1_wearer_1158.2.1
theorem dX1_wearer_2 : decode cX1_wearer 2 = .ok (.iload_n 2, 1) := dk_28 dg_cX1_wearer_1158.2.2.1
theorem dX1_wearer_3 : decode cX1_wearer 3 = .ok (.aload_n 0, 1) := dk_42 dg_cX1_wearer_1158.2.2.2.1
theorem dX1_wearer_4 : decode cX1_wearer 4 = .ok (.getfield 15, 3) := dk_180 dg_cX1_wearer_1158.2.2.2.2.1
theorem dX1_wearer_7 : decode cX1_wearer 7 = .ok (.getfield 48, 3) := dk_180 dg_cX1_wearer_1158.2.2.2.2.2.1
theorem dX1_wearer_10 : decode cX1_wearer 10 = .ok (.if_icmp .ge 20, 3) := dk_162 dg_cX1_wearer_1158.2.2.2.2.2.2.1
theorem dX1_wearer_13 : decode cX1_wearer 13 = .ok (.aload_n 0, 1) := dk_42 dg_cX1_wearer_1158.2.2.2.2.2.2.2
theorem dg_cX1_wearer_1159 : ck1 cX1_wearer 14 28 = true ∧ ck3 cX1_wearer 15 182 51 = true ∧ ck1 cX1_wearer 18 27 = true ∧ ck3s cX1_wearer 19 160 5 = true ∧ ck1 cX1_wearer 22 28 = true ∧ ck1 cX1_wearer 23 172 = true ∧ ck3i cX1_wearer 24 132 2 1 = true ∧ ck3s cX1_wearer 27 167 (-25) = true := by decide +kernel
theorem dX1_wearer_14 : decode cX1_wearer 14 = .ok (.iload_n 2, 1) := dk_28 dg_cX1_wearer_1159.1
theorem dX1_wearer_15 : decode cX1_wearer 15 = .ok (.invokevirtual 51, 3) := dk_182 dg_cX1_wearer_1159.2.1
theorem dX1_wearer_18 : decode cX1_wearer 18 = .ok (.iload_n 1, 1) := dk_27 dg_cX1_wearer_1159.2.2.1
theorem dX1_wearer_19 : decode cX1_wearer 19 = .ok (.if_icmp .ne 5, 3) := dk_160 dg_cX1_wearer_1159.2.2.2.1
theorem dX1_wearer_22 : decode cX1_wearer 22 = .ok (.iload_n 2, 1) := dk_28 dg_cX1_wearer_1159.2.2.2.2.1
theorem dX1_wearer_23 : decode cX1_wearer 23 = .ok (.ireturn, 1) := dk_172 dg_cX1_wearer_1159.2.2.2.2.2.1
theorem dX1_wearer_24 : decode cX1_wearer 24 = .ok (.iinc 2 1, 3) := dk_132 dg_cX1_wearer_1159.2.2.2.2.2.2.1
theorem dX1_wearer_27 : decode cX1_wearer 27 = .ok (.goto (-25), 3) := dk_167 dg_cX1_wearer_1159.2.2.2.2.2.2.2
theorem dg_cX1_wearer_1160 : ck1 cX1_wearer 30 2 = true ∧ ck1 cX1_wearer 31 172 = true := by decide +kernel
theorem dX1_wearer_30 : decode cX1_wearer 30 = .ok (.iconst (-1), 1) := dk_2 dg_cX1_wearer_1160.1
theorem dX1_wearer_31 : decode cX1_wearer 31 = .ok (.ireturn, 1) := dk_172 dg_cX1_wearer_1160.2
theorem dg_cX1_wearers_1161 : ck1 cX1_wearers 0 3 = true ∧ ck1 cX1_wearers 1 60 = true ∧ ck1 cX1_wearers 2 3 = true ∧ ck1 cX1_wearers 3 61 = true ∧ ck1 cX1_wearers 4 28 = true ∧ ck1 cX1_wearers 5 42 = true ∧ ck3 cX1_wearers 6 180 15 = true ∧ ck3 cX1_wearers 9 180 48 = true := by decide +kernel
theorem dX1_wearers_0 : decode cX1_wearers 0 = .ok (.iconst 0, 1) := dk_3 dg_cX1_wearers_1161.1
theorem dX1_wearers_1 : decode cX1_wearers 1 = .ok (.istore_n 1, 1) := dk_60 dg_cX1_wearers_1161.2.1
theorem dX1_wearers_2 : decode cX1_wearers 2 = .ok (.iconst 0, 1) := dk_3 dg_cX1_wearers_1161.2.2.1
theorem dX1_wearers_3 : decode cX1_wearers 3 = .ok (.istore_n 2, 1) := dk_61 dg_cX1_wearers_1161.2.2.2.1
theorem dX1_wearers_4 : decode cX1_wearers 4 = .ok (.iload_n 2, 1) := dk_28 dg_cX1_wearers_1161.2.2.2.2.1
theorem dX1_wearers_5 : decode cX1_wearers 5 = .ok (.aload_n 0, 1) := dk_42 dg_cX1_wearers_1161.2.2.2.2.2.1
theorem dX1_wearers_6 : decode cX1_wearers 6 = .ok (.getfield 15, 3) := dk_180 dg_cX1_wearers_1161.2.2.2.2.2.2.1
theorem dX1_wearers_9 : decode cX1_wearers 9 = .ok (.getfield 48, 3) := dk_180 dg_cX1_wearers_1161.2.2.2.2.2.2.2
theorem dg_cX1_wearers_1162 : ck3s cX1_wearers 12 162 24 = true ∧ ck1 cX1_wearers 15 42 = true ∧ ck1 cX1_wearers 16 28 = true ∧ ck3 cX1_wearers 17 182 51 = true ∧ ck1 cX1_wearers 20 2 = true ∧ ck3s cX1_wearers 21 159 9 = true ∧ ck1 cX1_wearers 24 27 = true ∧ ck1 cX1_wearers 25 4 = true := by decide +kernel
theorem dX1_wearers_12 : decode cX1_wearers 12 = .ok (.if_icmp .ge 24, 3) := dk_162 dg_cX1_wearers_1162.1
theorem dX1_wearers_15 : decode cX1_wearers 15 = .ok (.aload_n 0, 1) := dk_42 dg_cX1_wearers_1162.2.1
theorem dX1_wearers_16 : decode cX1_wearers 16 = .ok (.iload_n 2, 1) := dk_28 dg_cX1_wearers_1162.2.2.1
theorem dX1_wearers_17 : decode cX1_wearers 17 = .ok (.invokevirtual 51, 3) := dk_182 dg_cX1_wearers_1162.2.2.2.1
theorem dX1_wearers_20 : decode cX1_wearers 20 = .ok (.iconst (-1), 1) := dk_2 dg_cX1_wearers_1162.2.2.2.2.1
theorem dX1_wearers_21 : decode cX1_wearers 21 = .ok (.if_icmp .eq 9, 3) := dk_159 dg_cX1_wearers_1162.2.2.2.2.2.1
theorem dX1_wearers_24 : decode cX1_wearers 24 = .ok (.iload_n 1, 1) := dk_27 dg_cX1_wearers_1162.2.2.2.2.2.2.1
theorem dX1_wearers_25 : decode cX1_wearers 25 = .ok (.iconst 1, 1) := dk_4 dg_cX1_wearers_1162.2.2.2.2.2.2.2
theorem dg_cX1_wearers_1163 : ck1 cX1_wearers 26 28 = true ∧ ck1 cX1_wearers 27 120 = true ∧ ck1 cX1_wearers 28 128 = true ∧ ck1 cX1_wearers 29 60 = true ∧ ck3i cX1_wearers 30 132 2 1 = true ∧ ck3s cX1_wearers 33 167 (-29) = true ∧ ck1 cX1_wearers 36 27 = true ∧ ck1 cX1_wearers 37 172 = true := by decide +kernel
theorem dX1_wearers_26 : decode cX1_wearers 26 = .ok (.iload_n 2, 1) := dk_28 dg_cX1_wearers_1163.1
theorem dX1_wearers_27 : decode cX1_wearers 27 = .ok (.ishl, 1) := dk_120 dg_cX1_wearers_1163.2.1
theorem dX1_wearers_28 : decode cX1_wearers 28 = .ok (.ior, 1) := dk_128 dg_cX1_wearers_1163.2.2.1
theorem dX1_wearers_29 : decode cX1_wearers 29 = .ok (.istore_n 1, 1) := dk_60 dg_cX1_wearers_1163.2.2.2.1
theorem dX1_wearers_30 : decode cX1_wearers 30 = .ok (.iinc 2 1, 3) := dk_132 dg_cX1_wearers_1163.2.2.2.2.1
theorem dX1_wearers_33 : decode cX1_wearers 33 = .ok (.goto (-29), 3) := dk_167 dg_cX1_wearers_1163.2.2.2.2.2.1
theorem dX1_wearers_36 : decode cX1_wearers 36 = .ok (.iload_n 1, 1) := dk_27 dg_cX1_wearers_1163.2.2.2.2.2.2.1
theorem dX1_wearers_37 : decode cX1_wearers 37 = .ok (.ireturn, 1) := dk_172 dg_cX1_wearers_1163.2.2.2.2.2.2.2
theorem dg_cX1_wears_1164 : ck1 cX1_wears 0 42 = true ∧ ck3 cX1_wears 1 180 15 = true ∧ ck1 cX1_wears 4 27 = true ∧ ck3 cX1_wears 5 182 41 = true ∧ ck3s cX1_wears 8 153 15 = true ∧ ck1 cX1_wears 11 42 = true ∧ ck3 cX1_wears 12 180 11 = true ∧ ck2s cX1_wears 15 16 6 = true := by decide +kernel
theorem dX1_wears_0 : decode cX1_wears 0 = .ok (.aload_n 0, 1) := dk_42 dg_cX1_wears_1164.1
theorem dX1_wears_1 : decode cX1_wears 1 = .ok (.getfield 15, 3) := dk_180 dg_cX1_wears_1164.2.1
theorem dX1_wears_4 : decode cX1_wears 4 = .ok (.iload_n 1, 1) := dk_27 dg_cX1_wears_1164.2.2.1
theorem dX1_wears_5 : decode cX1_wears 5 = .ok (.invokevirtual 41, 3) := dk_182 dg_cX1_wears_1164.2.2.2.1
theorem dX1_wears_8 : decode cX1_wears 8 = .ok (.ifCond .eq 15, 3) := dk_153 dg_cX1_wears_1164.2.2.2.2.1
theorem dX1_wears_11 : decode cX1_wears 11 = .ok (.aload_n 0, 1) := dk_42 dg_cX1_wears_1164.2.2.2.2.2.1
theorem dX1_wears_12 : decode cX1_wears 12 = .ok (.getfield 11, 3) := dk_180 dg_cX1_wears_1164.2.2.2.2.2.2.1
theorem dX1_wears_15 : decode cX1_wears 15 = .ok (.bipush 6, 2) := dk_16 dg_cX1_wears_1164.2.2.2.2.2.2.2
theorem dg_cX1_wears_1165 : ck1 cX1_wears 17 27 = true ∧ ck1 cX1_wears 18 96 = true ∧ ck1 cX1_wears 19 46 = true ∧ ck3s cX1_wears 20 167 4 = true ∧ ck1 cX1_wears 23 2 = true ∧ ck1 cX1_wears 24 172 = true := by decide +kernel
theorem dX1_wears_17 : decode cX1_wears 17 = .ok (.iload_n 1, 1) := dk_27 dg_cX1_wears_1165.1
theorem dX1_wears_18 : decode cX1_wears 18 = .ok (.iadd, 1) := dk_96 dg_cX1_wears_1165.2.1
theorem dX1_wears_19 : decode cX1_wears 19 = .ok (.iaload, 1) := dk_46 dg_cX1_wears_1165.2.2.1
theorem dX1_wears_20 : decode cX1_wears 20 = .ok (.goto 4, 3) := dk_167 dg_cX1_wears_1165.2.2.2.1
theorem dX1_wears_23 : decode cX1_wears 23 = .ok (.iconst (-1), 1) := dk_2 dg_cX1_wears_1165.2.2.2.2.1
theorem dX1_wears_24 : decode cX1_wears 24 = .ok (.ireturn, 1) := dk_172 dg_cX1_wears_1165.2.2.2.2.2
theorem dg_cX1_weather_1166 : ck1 cX1_weather 0 42 = true ∧ ck1 cX1_weather 1 6 = true ∧ ck1 cX1_weather 2 27 = true ∧ ck2s cX1_weather 3 16 99 = true ∧ ck1 cX1_weather 5 42 = true ∧ ck1 cX1_weather 6 6 = true ∧ ck1 cX1_weather 7 27 = true ∧ ck3 cX1_weather 8 182 62 = true := by decide +kernel
theorem dX1_weather_0 : decode cX1_weather 0 = .ok (.aload_n 0, 1) := dk_42 dg_cX1_weather_1166.1
theorem dX1_weather_1 : decode cX1_weather 1 = .ok (.iconst 3, 1) := dk_6 dg_cX1_weather_1166.2.1
theorem dX1_weather_2 : decode cX1_weather 2 = .ok (.iload_n 1, 1) := dk_27 dg_cX1_weather_1166.2.2.1
theorem dX1_weather_3 : decode cX1_weather 3 = .ok (.bipush 99, 2) := dk_16 dg_cX1_weather_1166.2.2.2.1
theorem dX1_weather_5 : decode cX1_weather 5 = .ok (.aload_n 0, 1) := dk_42 dg_cX1_weather_1166.2.2.2.2.1
theorem dX1_weather_6 : decode cX1_weather 6 = .ok (.iconst 3, 1) := dk_6 dg_cX1_weather_1166.2.2.2.2.2.1
theorem dX1_weather_7 : decode cX1_weather 7 = .ok (.iload_n 1, 1) := dk_27 dg_cX1_weather_1166.2.2.2.2.2.2.1
theorem dX1_weather_8 : decode cX1_weather 8 = .ok (.invokevirtual 62, 3) := dk_182 dg_cX1_weather_1166.2.2.2.2.2.2.2
theorem dg_cX1_weather_1167 : ck1 cX1_weather 11 4 = true ∧ ck1 cX1_weather 12 96 = true ∧ ck3 cX1_weather 13 184 88 = true ∧ ck3 cX1_weather 16 182 100 = true ∧ ck1 cX1_weather 19 42 = true ∧ ck1 cX1_weather 20 4 = true ∧ ck1 cX1_weather 21 27 = true ∧ ck1 cX1_weather 22 3 = true := by decide +kernel
theorem dX1_weather_11 : decode cX1_weather 11 = .ok (.iconst 1, 1) := dk_4 dg_cX1_weather_1167.1
theorem dX1_weather_12 : decode cX1_weather 12 = .ok (.iadd, 1) := dk_96 dg_cX1_weather_1167.2.1
theorem dX1_weather_13 : decode cX1_weather 13 = .ok (.invokestatic 88, 3) := dk_184 dg_cX1_weather_1167.2.2.1
theorem dX1_weather_16 : decode cX1_weather 16 = .ok (.invokevirtual 100, 3) := dk_182 dg_cX1_weather_1167.2.2.2.1
theorem dX1_weather_19 : decode cX1_weather 19 = .ok (.aload_n 0, 1) := dk_42 dg_cX1_weather_1167.2.2.2.2.1
theorem dX1_weather_20 : decode cX1_weather 20 = .ok (.iconst 1, 1) := dk_4 dg_cX1_weather_1167.2.2.2.2.2.1
theorem dX1_weather_21 : decode cX1_weather 21 = .ok (.iload_n 1, 1) := dk_27 dg_cX1_weather_1167.2.2.2.2.2.2.1
theorem dX1_weather_22 : decode cX1_weather 22 = .ok (.iconst 0, 1) := dk_3 dg_cX1_weather_1167.2.2.2.2.2.2.2
theorem dg_cX1_weather_1168 : ck1 cX1_weather 23 42 = true ∧ ck1 cX1_weather 24 4 = true ∧ ck1 cX1_weather 25 27 = true ∧ ck3 cX1_weather 26 182 62 = true ∧ ck1 cX1_weather 29 28 = true ∧ ck1 cX1_weather 30 100 = true ∧ ck3 cX1_weather 31 184 104 = true ∧ ck3 cX1_weather 34 182 100 = true := by decide +kernel
theorem dX1_weather_23 : decode cX1_weather 23 = .ok (.aload_n 0, 1) := dk_42 dg_cX1_weather_1168.1
theorem dX1_weather_24 : decode cX1_weather 24 = .ok (.iconst 1, 1) := dk_4 dg_cX1_weather_1168.2.1
theorem dX1_weather_25 : decode cX1_weather 25 = .ok (.iload_n 1, 1) := dk_27 dg_cX1_weather_1168.2.2.1
theorem dX1_weather_26 : decode cX1_weather 26 = .ok (.invokevirtual 62, 3) := dk_182 dg_cX1_weather_1168.2.2.2.1
theorem dX1_weather_29 : decode cX1_weather 29 = .ok (.iload_n 2, 1) := dk_28 dg_cX1_weather_1168.2.2.2.2.1
theorem dX1_weather_30 : decode cX1_weather 30 = .ok (.isub, 1) := dk_100 dg_cX1_weather_1168.2.2.2.2.2.1
theorem dX1_weather_31 : decode cX1_weather 31 = .ok (.invokestatic 104, 3) := dk_184 dg_cX1_weather_1168.2.2.2.2.2.2.1
theorem dX1_weather_34 : decode cX1_weather 34 = .ok (.invokevirtual 100, 3) := dk_182 dg_cX1_weather_1168.2.2.2.2.2.2.2
theorem dg_cX1_weather_1169 : ck1 cX1_weather 37 42 = true ∧ ck1 cX1_weather 38 3 = true ∧ ck1 cX1_weather 39 27 = true ∧ ck1 cX1_weather 40 3 = true ∧ ck1 cX1_weather 41 42 = true ∧ ck1 cX1_weather 42 3 = true ∧ ck1 cX1_weather 43 27 = true ∧ ck3 cX1_weather 44 182 62 = true := by decide +kernel
theorem dX1_weather_37 : decode cX1_weather 37 = .ok (.aload_n 0, 1) := dk_42 dg_cX1_weather_1169.1
theorem dX1_weather_38 : decode cX1_weather 38 = .ok (.iconst 0, 1) := dk_3 dg_cX1_weather_1169.2.1
theorem dX1_weather_39 : decode cX1_weather 39 = .ok (.iload_n 1, 1) := dk_27 dg_cX1_weather_1169.2.2.1
theorem dX1_weather_40 : decode cX1_weather 40 = .ok (.iconst 0, 1) := dk_3 dg_cX1_weather_1169.2.2.2.1
theorem dX1_weather_41 : decode cX1_weather 41 = .ok (.aload_n 0, 1) := dk_42 dg_cX1_weather_1169.2.2.2.2.1
theorem dX1_weather_42 : decode cX1_weather 42 = .ok (.iconst 0, 1) := dk_3 dg_cX1_weather_1169.2.2.2.2.2.1
theorem dX1_weather_43 : decode cX1_weather 43 = .ok (.iload_n 1, 1) := dk_27 dg_cX1_weather_1169.2.2.2.2.2.2.1
theorem dX1_weather_44 : decode cX1_weather 44 = .ok (.invokevirtual 62, 3) := dk_182 dg_cX1_weather_1169.2.2.2.2.2.2.2
theorem dg_cX1_weather_1170 : ck1 cX1_weather 47 28 = true ∧ ck1 cX1_weather 48 100 = true ∧ ck3 cX1_weather 49 184 104 = true ∧ ck3 cX1_weather 52 182 100 = true ∧ ck1 cX1_weather 55 177 = true := by decide +kernel
theorem dX1_weather_47 : decode cX1_weather 47 = .ok (.iload_n 2, 1) := dk_28 dg_cX1_weather_1170.1
theorem dX1_weather_48 : decode cX1_weather 48 = .ok (.isub, 1) := dk_100 dg_cX1_weather_1170.2.1
theorem dX1_weather_49 : decode cX1_weather 49 = .ok (.invokestatic 104, 3) := dk_184 dg_cX1_weather_1170.2.2.1
theorem dX1_weather_52 : decode cX1_weather 52 = .ok (.invokevirtual 100, 3) := dk_182 dg_cX1_weather_1170.2.2.2.1
theorem dX1_weather_55 : decode cX1_weather 55 = .ok (.return_, 1) := dk_177 dg_cX1_weather_1170.2.2.2.2
theorem dg_cX2_difference_1171 : ck1 cX2_difference 0 42 = true ∧ ck1 cX2_difference 1 42 = true ∧ ck3 cX2_difference 2 180 19 = true ∧ ck3 cX2_difference 5 182 39 = true ∧ ck3 cX2_difference 8 182 48 = true ∧ ck1 cX2_difference 11 5 = true ∧ ck1 cX2_difference 12 42 = true ∧ ck1 cX2_difference 13 27 = true := by decide +kernel
theorem dX2_difference_0 : decode cX2_difference 0 = .ok (.aload_n 0, 1) := dk_42 dg_cX2_difference_1171.1
theorem dX2_difference_1 : decode cX2_difference 1 = .ok (.aload_n 0, 1) := dk_42 dg_cX2_difference_1171.2.1
theorem dX2_difference_2 : decode cX2_difference 2 = .ok (.getfield 19, 3) := dk_180 dg_cX2_difference_1171.2.2.1
theorem dX2_difference_5 : decode cX2_difference 5 = .ok (.invokevirtual 39, 3) := dk_182 dg_cX2_difference_1171.2.2.2.1
theorem dX2_difference_8 : decode cX2_difference 8 = .ok (.invokevirtual 48, 3) := dk_182 dg_cX2_difference_1171.2.2.2.2.1
theorem dX2_difference_11 : decode cX2_difference 11 = .ok (.iconst 2, 1) := dk_5 dg_cX2_difference_1171.2.2.2.2.2.1
theorem dX2_difference_12 : decode cX2_difference 12 = .ok (.aload_n 0, 1) := dk_42 dg_cX2_difference_1171.2.2.2.2.2.2.1
theorem dX2_difference_13 : decode cX2_difference 13 = .ok (.iload_n 1, 1) := dk_27 dg_cX2_difference_1171.2.2.2.2.2.2.2
theorem dg_cX2_difference_1172 : ck3 cX2_difference 14 182 48 = true ∧ ck1 cX2_difference 17 104 = true ∧ ck1 cX2_difference 18 100 = true ∧ ck3 cX2_difference 19 184 61 = true ∧ ck1 cX2_difference 22 172 = true := by decide +kernel
theorem dX2_difference_14 : decode cX2_difference 14 = .ok (.invokevirtual 48, 3) := dk_182 dg_cX2_difference_1172.1
theorem dX2_difference_17 : decode cX2_difference 17 = .ok (.imul, 1) := dk_104 dg_cX2_difference_1172.2.1
theorem dX2_difference_18 : decode cX2_difference 18 = .ok (.isub, 1) := dk_100 dg_cX2_difference_1172.2.2.1
theorem dX2_difference_19 : decode cX2_difference 19 = .ok (.invokestatic 61, 3) := dk_184 dg_cX2_difference_1172.2.2.2.1
theorem dX2_difference_22 : decode cX2_difference 22 = .ok (.ireturn, 1) := dk_172 dg_cX2_difference_1172.2.2.2.2
theorem dg_cX2_frontOf_1173 : ck1 cX2_frontOf 0 2 = true ∧ ck1 cX2_frontOf 1 61 = true ∧ ck1 cX2_frontOf 2 42 = true ∧ ck3 cX2_frontOf 3 180 19 = true ∧ ck3 cX2_frontOf 6 182 39 = true ∧ ck1 cX2_frontOf 9 2 = true ∧ ck1 cX2_frontOf 10 130 = true ∧ ck1 cX2_frontOf 11 62 = true := by decide +kernel
theorem dX2_frontOf_0 : decode cX2_frontOf 0 = .ok (.iconst (-1), 1) := dk_2 dg_cX2_frontOf_1173.1
theorem dX2_frontOf_1 : decode cX2_frontOf 1 = .ok (.istore_n 2, 1) := dk_61 dg_cX2_frontOf_1173.2.1
theorem dX2_frontOf_2 : decode cX2_frontOf 2 = .ok (.aload_n 0, 1) := dk_42 dg_cX2_frontOf_1173.2.2.1
theorem dX2_frontOf_3 : decode cX2_frontOf 3 = .ok (.getfield 19, 3) := dk_180 dg_cX2_frontOf_1173.2.2.2.1
theorem dX2_frontOf_6 : decode cX2_frontOf 6 = .ok (.invokevirtual 39, 3) := dk_182 dg_cX2_frontOf_1173.2.2.2.2.1
theorem dX2_frontOf_9 : decode cX2_frontOf 9 = .ok (.iconst (-1), 1) := dk_2 dg_cX2_frontOf_1173.2.2.2.2.2.1
theorem dX2_frontOf_10 : decode cX2_frontOf 10 = .ok (.ixor, 1) := dk_130 dg_cX2_frontOf_1173.2.2.2.2.2.2.1
theorem dX2_frontOf_11 : decode cX2_frontOf 11 = .ok (.istore_n 3, 1) := dk_62 dg_cX2_frontOf_1173.2.2.2.2.2.2.2
theorem dg_cX2_frontOf_1174 : ck1 cX2_frontOf 12 3 = true ∧ ck2 cX2_frontOf 13 54 4 = true ∧ ck2 cX2_frontOf 15 21 4 = true ∧ ck2s cX2_frontOf 17 16 64 = true ∧ ck3s cX2_frontOf 19 162 58 = true ∧ ck1 cX2_frontOf 22 28 = true ∧ ck1 cX2_frontOf 23 2 = true ∧ ck3s cX2_frontOf 24 159 15 = true := by decide +kernel
theorem dX2_frontOf_12 : decode cX2_frontOf 12 = .ok (.iconst 0, 1) := dk_3 dg_cX2_frontOf_1174.1
theorem dX2_frontOf_13 : decode cX2_frontOf 13 = .ok (.istore 4, 2) := dk_54 dg_cX2_frontOf_1174.2.1
theorem dX2_frontOf_15 : decode cX2_frontOf 15 = .ok (.iload 4, 2) := dk_21 dg_cX2_frontOf_1174.2.2.1
theorem dX2_frontOf_17 : decode cX2_frontOf 17 = .ok (.bipush 64, 2) := dk_16 dg_cX2_frontOf_1174.2.2.2.1
theorem dX2_frontOf_19 : decode cX2_frontOf 19 = .ok (.if_icmp .ge 58, 3) := dk_162 dg_cX2_frontOf_1174.2.2.2.2.1
theorem dX2_frontOf_22 : decode cX2_frontOf 22 = .ok (.iload_n 2, 1) := dk_28 dg_cX2_frontOf_1174.2.2.2.2.2.1
theorem dX2_frontOf_23 : decode cX2_frontOf 23 = .ok (.iconst (-1), 1) := dk_2 dg_cX2_frontOf_1174.2.2.2.2.2.2.1
theorem dX2_frontOf_24 : decode cX2_frontOf 24 = .ok (.if_icmp .eq 15, 3) := dk_159 dg_cX2_frontOf_1174.2.2.2.2.2.2.2
theorem dg_cX2_frontOf_1175 : ck2 cX2_frontOf 27 21 4 = true ∧ ck3 cX2_frontOf 29 184 43 = true ∧ ck1 cX2_frontOf 32 28 = true ∧ ck3 cX2_frontOf 33 184 43 = true ∧ ck3s cX2_frontOf 36 162 7 = true ∧ ck1 cX2_frontOf 39 4 = true ∧ ck3s cX2_frontOf 40 167 4 = true ∧ ck1 cX2_frontOf 43 3 = true := by decide +kernel
theorem dX2_frontOf_27 : decode cX2_frontOf 27 = .ok (.iload 4, 2) := dk_21 dg_cX2_frontOf_1175.1
theorem dX2_frontOf_29 : decode cX2_frontOf 29 = .ok (.invokestatic 43, 3) := dk_184 dg_cX2_frontOf_1175.2.1
theorem dX2_frontOf_32 : decode cX2_frontOf 32 = .ok (.iload_n 2, 1) := dk_28 dg_cX2_frontOf_1175.2.2.1
theorem dX2_frontOf_33 : decode cX2_frontOf 33 = .ok (.invokestatic 43, 3) := dk_184 dg_cX2_frontOf_1175.2.2.2.1
theorem dX2_frontOf_36 : decode cX2_frontOf 36 = .ok (.if_icmp .ge 7, 3) := dk_162 dg_cX2_frontOf_1175.2.2.2.2.1
theorem dX2_frontOf_39 : decode cX2_frontOf 39 = .ok (.iconst 1, 1) := dk_4 dg_cX2_frontOf_1175.2.2.2.2.2.1
theorem dX2_frontOf_40 : decode cX2_frontOf 40 = .ok (.goto 4, 3) := dk_167 dg_cX2_frontOf_1175.2.2.2.2.2.2.1
theorem dX2_frontOf_43 : decode cX2_frontOf 43 = .ok (.iconst 0, 1) := dk_3 dg_cX2_frontOf_1175.2.2.2.2.2.2.2
theorem dg_cX2_frontOf_1176 : ck2 cX2_frontOf 44 54 5 = true ∧ ck2 cX2_frontOf 46 21 4 = true ∧ ck1 cX2_frontOf 48 29 = true ∧ ck1 cX2_frontOf 49 126 = true ∧ ck3s cX2_frontOf 50 154 21 = true ∧ ck2 cX2_frontOf 53 21 5 = true ∧ ck3s cX2_frontOf 55 153 16 = true ∧ ck1 cX2_frontOf 58 42 = true := by decide +kernel
theorem dX2_frontOf_44 : decode cX2_frontOf 44 = .ok (.istore 5, 2) := dk_54 dg_cX2_frontOf_1176.1
theorem dX2_frontOf_46 : decode cX2_frontOf 46 = .ok (.iload 4, 2) := dk_21 dg_cX2_frontOf_1176.2.1
theorem dX2_frontOf_48 : decode cX2_frontOf 48 = .ok (.iload_n 3, 1) := dk_29 dg_cX2_frontOf_1176.2.2.1
theorem dX2_frontOf_49 : decode cX2_frontOf 49 = .ok (.iand, 1) := dk_126 dg_cX2_frontOf_1176.2.2.2.1
theorem dX2_frontOf_50 : decode cX2_frontOf 50 = .ok (.ifCond .ne 21, 3) := dk_154 dg_cX2_frontOf_1176.2.2.2.2.1
theorem dX2_frontOf_53 : decode cX2_frontOf 53 = .ok (.iload 5, 2) := dk_21 dg_cX2_frontOf_1176.2.2.2.2.2.1
theorem dX2_frontOf_55 : decode cX2_frontOf 55 = .ok (.ifCond .eq 16, 3) := dk_153 dg_cX2_frontOf_1176.2.2.2.2.2.2.1
theorem dX2_frontOf_58 : decode cX2_frontOf 58 = .ok (.aload_n 0, 1) := dk_42 dg_cX2_frontOf_1176.2.2.2.2.2.2.2
theorem dg_cX2_frontOf_1177 : ck2 cX2_frontOf 59 21 4 = true ∧ ck3 cX2_frontOf 61 182 48 = true := by decide +kernel
theorem dX2_frontOf_59 : decode cX2_frontOf 59 = .ok (.iload 4, 2) := dk_21 dg_cX2_frontOf_1177.1
theorem dX2_frontOf_61 : decode cX2_frontOf 61 = .ok (.invokevirtual 48, 3) := dk_182 dg_cX2_frontOf_1177.2
def dS_cX2_frontOf_1 : List UInt8 := 27 :: 161 :: 0 :: 6 :: 21 :: 4 :: 61 :: 132 :: 4 :: 1 :: 167 :: 255 :: 197 :: 28 :: 172 :: []
def dS_cX2_frontOf_0 : List UInt8 := 2 :: 61 :: 42 :: 180 :: 0 :: 19 :: 182 :: 0 :: 39 :: 2 :: 130 :: 62 :: 3 :: 54 :: 4 :: 21 :: 4 :: 16 :: 64 :: 162 :: 0 :: 58 :: 28 :: 2 :: 159 :: 0 :: 15 :: 21 :: 4 :: 184 :: 0 :: 43 :: 28 :: 184 :: 0 :: 43 :: 162 :: 0 :: 7 :: 4 :: 167 :: 0 :: 4 :: 3 :: 54 :: 5 :: 21 :: 4 :: 29 :: 126 :: 154 :: 0 :: 21 :: 21 :: 5 :: 153 :: 0 :: 16 :: 42 :: 21 :: 4 :: 182 :: 0 :: 48 :: dS_cX2_frontOf_1
theorem dT_cX2_frontOf_0 : cX2_frontOf.data.toList.drop 0 = dS_cX2_frontOf_0 := by decide +kernel
theorem dT_cX2_frontOf_1 : cX2_frontOf.data.toList.drop 64 = dS_cX2_frontOf_1 := ck_nx dT_cX2_frontOf_0 (by decide +kernel) rfl
theorem dg_cX2_frontOf_1178 : ck1L dS_cX2_frontOf_1 0 27 = true ∧ ck3sL dS_cX2_frontOf_1 1 161 6 = true ∧ ck2L dS_cX2_frontOf_1 4 21 4 = true ∧ ck1L dS_cX2_frontOf_1 6 61 = true ∧ ck3iL dS_cX2_frontOf_1 7 132 4 1 = true ∧ ck3sL dS_cX2_frontOf_1 10 167 (-59) = true ∧ ck1L dS_cX2_frontOf_1 13 28 = true ∧ ck1L dS_cX2_frontOf_1 14 172 = true := by decide +kernel
theorem dX2_frontOf_64 : decode cX2_frontOf 64 = .ok (.iload_n 1, 1) := dk_27 (ck1_s (r := 0) dT_cX2_frontOf_1 rfl dg_cX2_frontOf_1178.1)
theorem dX2_frontOf_65 : decode cX2_frontOf 65 = .ok (.if_icmp .lt 6, 3) := dk_161 (ck3s_s (r := 1) dT_cX2_frontOf_1 rfl dg_cX2_frontOf_1178.2.1)
theorem dX2_frontOf_68 : decode cX2_frontOf 68 = .ok (.iload 4, 2) := dk_21 (ck2_s (r := 4) dT_cX2_frontOf_1 rfl dg_cX2_frontOf_1178.2.2.1)
theorem dX2_frontOf_70 : decode cX2_frontOf 70 = .ok (.istore_n 2, 1) := dk_61 (ck1_s (r := 6) dT_cX2_frontOf_1 rfl dg_cX2_frontOf_1178.2.2.2.1)
theorem dX2_frontOf_71 : decode cX2_frontOf 71 = .ok (.iinc 4 1, 3) := dk_132 (ck3i_s (r := 7) dT_cX2_frontOf_1 rfl dg_cX2_frontOf_1178.2.2.2.2.1)
theorem dX2_frontOf_74 : decode cX2_frontOf 74 = .ok (.goto (-59), 3) := dk_167 (ck3s_s (r := 10) dT_cX2_frontOf_1 rfl dg_cX2_frontOf_1178.2.2.2.2.2.1)
theorem dX2_frontOf_77 : decode cX2_frontOf 77 = .ok (.iload_n 2, 1) := dk_28 (ck1_s (r := 13) dT_cX2_frontOf_1 rfl dg_cX2_frontOf_1178.2.2.2.2.2.2.1)
theorem dX2_frontOf_78 : decode cX2_frontOf 78 = .ok (.ireturn, 1) := dk_172 (ck1_s (r := 14) dT_cX2_frontOf_1 rfl dg_cX2_frontOf_1178.2.2.2.2.2.2.2)
theorem dg_cX2_init_1179 : ck1 cX2_init 0 42 = true ∧ ck3 cX2_init 1 183 3 = true ∧ ck1 cX2_init 4 42 = true ∧ ck2s cX2_init 5 16 64 = true := by decide +kernel
theorem dX2_init_0 : decode cX2_init 0 = .ok (.aload_n 0, 1) := dk_42 dg_cX2_init_1179.1
theorem dX2_init_1 : decode cX2_init 1 = .ok (.invokespecial 3, 3) := dk_183 dg_cX2_init_1179.2.1
theorem dX2_init_4 : decode cX2_init 4 = .ok (.aload_n 0, 1) := dk_42 dg_cX2_init_1179.2.2.1
theorem dX2_init_5 : decode cX2_init 5 = .ok (.bipush 64, 2) := dk_16 dg_cX2_init_1179.2.2.2
theorem dX2_init_7 : decode cX2_init 7 = .ok (.newarray .int, 2) := by decide +kernel
theorem dg_cX2_init_1180 : ck3 cX2_init 9 181 9 = true ∧ ck1 cX2_init 12 42 = true ∧ ck1 cX2_init 13 43 = true ∧ ck3 cX2_init 14 181 15 = true ∧ ck1 cX2_init 17 42 = true ∧ ck1 cX2_init 18 44 = true ∧ ck3 cX2_init 19 181 19 = true ∧ ck1 cX2_init 22 177 = true := by decide +kernel
theorem dX2_init_9 : decode cX2_init 9 = .ok (.putfield 9, 3) := dk_181 dg_cX2_init_1180.1
theorem dX2_init_12 : decode cX2_init 12 = .ok (.aload_n 0, 1) := dk_42 dg_cX2_init_1180.2.1
theorem dX2_init_13 : decode cX2_init 13 = .ok (.aload_n 1, 1) := dk_43 dg_cX2_init_1180.2.2.1
theorem dX2_init_14 : decode cX2_init 14 = .ok (.putfield 15, 3) := dk_181 dg_cX2_init_1180.2.2.2.1
theorem dX2_init_17 : decode cX2_init 17 = .ok (.aload_n 0, 1) := dk_42 dg_cX2_init_1180.2.2.2.2.1
theorem dX2_init_18 : decode cX2_init 18 = .ok (.aload_n 2, 1) := dk_44 dg_cX2_init_1180.2.2.2.2.2.1
theorem dX2_init_19 : decode cX2_init 19 = .ok (.putfield 19, 3) := dk_181 dg_cX2_init_1180.2.2.2.2.2.2.1
theorem dX2_init_22 : decode cX2_init 22 = .ok (.return_, 1) := dk_177 dg_cX2_init_1180.2.2.2.2.2.2.2
theorem dg_cX2_isEvener_1181 : ck1 cX2_isEvener 0 42 = true ∧ ck1 cX2_isEvener 1 27 = true ∧ ck3 cX2_isEvener 2 182 58 = true ∧ ck1 cX2_isEvener 5 42 = true ∧ ck1 cX2_isEvener 6 28 = true ∧ ck3 cX2_isEvener 7 182 58 = true ∧ ck1 cX2_isEvener 10 100 = true ∧ ck1 cX2_isEvener 11 62 = true := by decide +kernel
theorem dX2_isEvener_0 : decode cX2_isEvener 0 = .ok (.aload_n 0, 1) := dk_42 dg_cX2_isEvener_1181.1
theorem dX2_isEvener_1 : decode cX2_isEvener 1 = .ok (.iload_n 1, 1) := dk_27 dg_cX2_isEvener_1181.2.1
theorem dX2_isEvener_2 : decode cX2_isEvener 2 = .ok (.invokevirtual 58, 3) := dk_182 dg_cX2_isEvener_1181.2.2.1
theorem dX2_isEvener_5 : decode cX2_isEvener 5 = .ok (.aload_n 0, 1) := dk_42 dg_cX2_isEvener_1181.2.2.2.1
theorem dX2_isEvener_6 : decode cX2_isEvener 6 = .ok (.iload_n 2, 1) := dk_28 dg_cX2_isEvener_1181.2.2.2.2.1
theorem dX2_isEvener_7 : decode cX2_isEvener 7 = .ok (.invokevirtual 58, 3) := dk_182 dg_cX2_isEvener_1181.2.2.2.2.2.1
theorem dX2_isEvener_10 : decode cX2_isEvener 10 = .ok (.isub, 1) := dk_100 dg_cX2_isEvener_1181.2.2.2.2.2.2.1
theorem dX2_isEvener_11 : decode cX2_isEvener 11 = .ok (.istore_n 3, 1) := dk_62 dg_cX2_isEvener_1181.2.2.2.2.2.2.2
theorem dg_cX2_isEvener_1182 : ck1 cX2_isEvener 12 29 = true ∧ ck3s cX2_isEvener 13 155 12 = true ∧ ck1 cX2_isEvener 16 29 = true ∧ ck3s cX2_isEvener 17 154 12 = true ∧ ck1 cX2_isEvener 20 27 = true ∧ ck1 cX2_isEvener 21 28 = true ∧ ck3s cX2_isEvener 22 162 7 = true ∧ ck1 cX2_isEvener 25 4 = true := by decide +kernel
theorem dX2_isEvener_12 : decode cX2_isEvener 12 = .ok (.iload_n 3, 1) := dk_29 dg_cX2_isEvener_1182.1
theorem dX2_isEvener_13 : decode cX2_isEvener 13 = .ok (.ifCond .lt 12, 3) := dk_155 dg_cX2_isEvener_1182.2.1
theorem dX2_isEvener_16 : decode cX2_isEvener 16 = .ok (.iload_n 3, 1) := dk_29 dg_cX2_isEvener_1182.2.2.1
theorem dX2_isEvener_17 : decode cX2_isEvener 17 = .ok (.ifCond .ne 12, 3) := dk_154 dg_cX2_isEvener_1182.2.2.2.1
theorem dX2_isEvener_20 : decode cX2_isEvener 20 = .ok (.iload_n 1, 1) := dk_27 dg_cX2_isEvener_1182.2.2.2.2.1
theorem dX2_isEvener_21 : decode cX2_isEvener 21 = .ok (.iload_n 2, 1) := dk_28 dg_cX2_isEvener_1182.2.2.2.2.2.1
theorem dX2_isEvener_22 : decode cX2_isEvener 22 = .ok (.if_icmp .ge 7, 3) := dk_162 dg_cX2_isEvener_1182.2.2.2.2.2.2.1
theorem dX2_isEvener_25 : decode cX2_isEvener 25 = .ok (.iconst 1, 1) := dk_4 dg_cX2_isEvener_1182.2.2.2.2.2.2.2
theorem dg_cX2_isEvener_1183 : ck3s cX2_isEvener 26 167 4 = true ∧ ck1 cX2_isEvener 29 3 = true ∧ ck1 cX2_isEvener 30 172 = true := by decide +kernel
theorem dX2_isEvener_26 : decode cX2_isEvener 26 = .ok (.goto 4, 3) := dk_167 dg_cX2_isEvener_1183.1
theorem dX2_isEvener_29 : decode cX2_isEvener 29 = .ok (.iconst 0, 1) := dk_3 dg_cX2_isEvener_1183.2.1
theorem dX2_isEvener_30 : decode cX2_isEvener 30 = .ok (.ireturn, 1) := dk_172 dg_cX2_isEvener_1183.2.2
theorem dg_cX2_leastCloth_1184 : ck1 cX2_leastCloth 0 4 = true ∧ ck1 cX2_leastCloth 1 42 = true ∧ ck3 cX2_leastCloth 2 180 15 = true ∧ ck3 cX2_leastCloth 5 180 66 = true ∧ ck1 cX2_leastCloth 8 120 = true ∧ ck1 cX2_leastCloth 9 4 = true ∧ ck1 cX2_leastCloth 10 100 = true ∧ ck1 cX2_leastCloth 11 60 = true := by decide +kernel
theorem dX2_leastCloth_0 : decode cX2_leastCloth 0 = .ok (.iconst 1, 1) := dk_4 dg_cX2_leastCloth_1184.1
theorem dX2_leastCloth_1 : decode cX2_leastCloth 1 = .ok (.aload_n 0, 1) := dk_42 dg_cX2_leastCloth_1184.2.1
theorem dX2_leastCloth_2 : decode cX2_leastCloth 2 = .ok (.getfield 15, 3) := dk_180 dg_cX2_leastCloth_1184.2.2.1
theorem dX2_leastCloth_5 : decode cX2_leastCloth 5 = .ok (.getfield 66, 3) := dk_180 dg_cX2_leastCloth_1184.2.2.2.1
theorem dX2_leastCloth_8 : decode cX2_leastCloth 8 = .ok (.ishl, 1) := dk_120 dg_cX2_leastCloth_1184.2.2.2.2.1
theorem dX2_leastCloth_9 : decode cX2_leastCloth 9 = .ok (.iconst 1, 1) := dk_4 dg_cX2_leastCloth_1184.2.2.2.2.2.1
theorem dX2_leastCloth_10 : decode cX2_leastCloth 10 = .ok (.isub, 1) := dk_100 dg_cX2_leastCloth_1184.2.2.2.2.2.2.1
theorem dX2_leastCloth_11 : decode cX2_leastCloth 11 = .ok (.istore_n 1, 1) := dk_60 dg_cX2_leastCloth_1184.2.2.2.2.2.2.2
theorem dg_cX2_leastCloth_1185 : ck1 cX2_leastCloth 12 3 = true ∧ ck1 cX2_leastCloth 13 61 = true ∧ ck1 cX2_leastCloth 14 28 = true ∧ ck1 cX2_leastCloth 15 42 = true ∧ ck3 cX2_leastCloth 16 180 15 = true ∧ ck3 cX2_leastCloth 19 180 66 = true ∧ ck3s cX2_leastCloth 22 162 30 = true ∧ ck1 cX2_leastCloth 25 42 = true := by decide +kernel
theorem dX2_leastCloth_12 : decode cX2_leastCloth 12 = .ok (.iconst 0, 1) := dk_3 dg_cX2_leastCloth_1185.1
theorem dX2_leastCloth_13 : decode cX2_leastCloth 13 = .ok (.istore_n 2, 1) := dk_61 dg_cX2_leastCloth_1185.2.1
theorem dX2_leastCloth_14 : decode cX2_leastCloth 14 = .ok (.iload_n 2, 1) := dk_28 dg_cX2_leastCloth_1185.2.2.1
theorem dX2_leastCloth_15 : decode cX2_leastCloth 15 = .ok (.aload_n 0, 1) := dk_42 dg_cX2_leastCloth_1185.2.2.2.1
theorem dX2_leastCloth_16 : decode cX2_leastCloth 16 = .ok (.getfield 15, 3) := dk_180 dg_cX2_leastCloth_1185.2.2.2.2.1
theorem dX2_leastCloth_19 : decode cX2_leastCloth 19 = .ok (.getfield 66, 3) := dk_180 dg_cX2_leastCloth_1185.2.2.2.2.2.1
theorem dX2_leastCloth_22 : decode cX2_leastCloth 22 = .ok (.if_icmp .ge 30, 3) := dk_162 dg_cX2_leastCloth_1185.2.2.2.2.2.2.1
theorem dX2_leastCloth_25 : decode cX2_leastCloth 25 = .ok (.aload_n 0, 1) := dk_42 dg_cX2_leastCloth_1185.2.2.2.2.2.2.2
theorem dg_cX2_leastCloth_1186 : ck3 cX2_leastCloth 26 180 19 = true ∧ ck1 cX2_leastCloth 29 4 = true ∧ ck1 cX2_leastCloth 30 28 = true ∧ ck3 cX2_leastCloth 31 182 35 = true ∧ ck1 cX2_leastCloth 34 42 = true ∧ ck3 cX2_leastCloth 35 180 15 = true ∧ ck3 cX2_leastCloth 38 180 69 = true ∧ ck3s cX2_leastCloth 41 164 5 = true := by decide +kernel
theorem dX2_leastCloth_26 : decode cX2_leastCloth 26 = .ok (.getfield 19, 3) := dk_180 dg_cX2_leastCloth_1186.1
theorem dX2_leastCloth_29 : decode cX2_leastCloth 29 = .ok (.iconst 1, 1) := dk_4 dg_cX2_leastCloth_1186.2.1
theorem dX2_leastCloth_30 : decode cX2_leastCloth 30 = .ok (.iload_n 2, 1) := dk_28 dg_cX2_leastCloth_1186.2.2.1
theorem dX2_leastCloth_31 : decode cX2_leastCloth 31 = .ok (.invokevirtual 35, 3) := dk_182 dg_cX2_leastCloth_1186.2.2.2.1
theorem dX2_leastCloth_34 : decode cX2_leastCloth 34 = .ok (.aload_n 0, 1) := dk_42 dg_cX2_leastCloth_1186.2.2.2.2.1
theorem dX2_leastCloth_35 : decode cX2_leastCloth 35 = .ok (.getfield 15, 3) := dk_180 dg_cX2_leastCloth_1186.2.2.2.2.2.1
theorem dX2_leastCloth_38 : decode cX2_leastCloth 38 = .ok (.getfield 69, 3) := dk_180 dg_cX2_leastCloth_1186.2.2.2.2.2.2.1
theorem dX2_leastCloth_41 : decode cX2_leastCloth 41 = .ok (.if_icmp .le 5, 3) := dk_164 dg_cX2_leastCloth_1186.2.2.2.2.2.2.2
theorem dg_cX2_leastCloth_1187 : ck1 cX2_leastCloth 44 2 = true ∧ ck1 cX2_leastCloth 45 172 = true ∧ ck3i cX2_leastCloth 46 132 2 1 = true ∧ ck3s cX2_leastCloth 49 167 (-35) = true ∧ ck1 cX2_leastCloth 52 42 = true ∧ ck3 cX2_leastCloth 53 180 9 = true ∧ ck1 cX2_leastCloth 56 3 = true ∧ ck1 cX2_leastCloth 57 3 = true := by decide +kernel
theorem dX2_leastCloth_44 : decode cX2_leastCloth 44 = .ok (.iconst (-1), 1) := dk_2 dg_cX2_leastCloth_1187.1
theorem dX2_leastCloth_45 : decode cX2_leastCloth 45 = .ok (.ireturn, 1) := dk_172 dg_cX2_leastCloth_1187.2.1
theorem dX2_leastCloth_46 : decode cX2_leastCloth 46 = .ok (.iinc 2 1, 3) := dk_132 dg_cX2_leastCloth_1187.2.2.1
theorem dX2_leastCloth_49 : decode cX2_leastCloth 49 = .ok (.goto (-35), 3) := dk_167 dg_cX2_leastCloth_1187.2.2.2.1
theorem dX2_leastCloth_52 : decode cX2_leastCloth 52 = .ok (.aload_n 0, 1) := dk_42 dg_cX2_leastCloth_1187.2.2.2.2.1
theorem dX2_leastCloth_53 : decode cX2_leastCloth 53 = .ok (.getfield 9, 3) := dk_180 dg_cX2_leastCloth_1187.2.2.2.2.2.1
theorem dX2_leastCloth_56 : decode cX2_leastCloth 56 = .ok (.iconst 0, 1) := dk_3 dg_cX2_leastCloth_1187.2.2.2.2.2.2.1
theorem dX2_leastCloth_57 : decode cX2_leastCloth 57 = .ok (.iconst 0, 1) := dk_3 dg_cX2_leastCloth_1187.2.2.2.2.2.2.2
theorem dg_cX2_leastCloth_1188 : ck1 cX2_leastCloth 58 79 = true ∧ ck1 cX2_leastCloth 59 4 = true ∧ ck1 cX2_leastCloth 60 61 = true ∧ ck1 cX2_leastCloth 61 28 = true ∧ ck1 cX2_leastCloth 62 27 = true ∧ ck3s cX2_leastCloth 63 163 26 = true := by decide +kernel
theorem dX2_leastCloth_58 : decode cX2_leastCloth 58 = .ok (.iastore, 1) := dk_79 dg_cX2_leastCloth_1188.1
theorem dX2_leastCloth_59 : decode cX2_leastCloth 59 = .ok (.iconst 1, 1) := dk_4 dg_cX2_leastCloth_1188.2.1
theorem dX2_leastCloth_60 : decode cX2_leastCloth 60 = .ok (.istore_n 2, 1) := dk_61 dg_cX2_leastCloth_1188.2.2.1
theorem dX2_leastCloth_61 : decode cX2_leastCloth 61 = .ok (.iload_n 2, 1) := dk_28 dg_cX2_leastCloth_1188.2.2.2.1
theorem dX2_leastCloth_62 : decode cX2_leastCloth 62 = .ok (.iload_n 1, 1) := dk_27 dg_cX2_leastCloth_1188.2.2.2.2.1
theorem dX2_leastCloth_63 : decode cX2_leastCloth 63 = .ok (.if_icmp .gt 26, 3) := dk_163 dg_cX2_leastCloth_1188.2.2.2.2.2
def dS_cX2_leastCloth_1 : List UInt8 := 0 :: 26 :: 28 :: 16 :: 64 :: 162 :: 0 :: 20 :: 42 :: 180 :: 0 :: 9 :: 28 :: 42 :: 28 :: 182 :: 0 :: 72 :: 79 :: 132 :: 2 :: 1 :: 167 :: 255 :: 231 :: 27 :: 155 :: 0 :: 18 :: 27 :: 16 :: 64 :: 162 :: 0 :: 12 :: 42 :: 180 :: 0 :: 9 :: 27 :: 46 :: 167 :: 0 :: 4 :: 2 :: 172 :: []
def dS_cX2_leastCloth_0 : List UInt8 := 4 :: 42 :: 180 :: 0 :: 15 :: 180 :: 0 :: 66 :: 120 :: 4 :: 100 :: 60 :: 3 :: 61 :: 28 :: 42 :: 180 :: 0 :: 15 :: 180 :: 0 :: 66 :: 162 :: 0 :: 30 :: 42 :: 180 :: 0 :: 19 :: 4 :: 28 :: 182 :: 0 :: 35 :: 42 :: 180 :: 0 :: 15 :: 180 :: 0 :: 69 :: 164 :: 0 :: 5 :: 2 :: 172 :: 132 :: 2 :: 1 :: 167 :: 255 :: 221 :: 42 :: 180 :: 0 :: 9 :: 3 :: 3 :: 79 :: 4 :: 61 :: 28 :: 27 :: 163 :: dS_cX2_leastCloth_1
theorem dT_cX2_leastCloth_0 : cX2_leastCloth.data.toList.drop 0 = dS_cX2_leastCloth_0 := by decide +kernel
theorem dT_cX2_leastCloth_1 : cX2_leastCloth.data.toList.drop 64 = dS_cX2_leastCloth_1 := ck_nx dT_cX2_leastCloth_0 (by decide +kernel) rfl
theorem dg_cX2_leastCloth_1189 : ck1L dS_cX2_leastCloth_1 2 28 = true ∧ ck2sL dS_cX2_leastCloth_1 3 16 64 = true ∧ ck3sL dS_cX2_leastCloth_1 5 162 20 = true ∧ ck1L dS_cX2_leastCloth_1 8 42 = true ∧ ck3L dS_cX2_leastCloth_1 9 180 9 = true ∧ ck1L dS_cX2_leastCloth_1 12 28 = true ∧ ck1L dS_cX2_leastCloth_1 13 42 = true ∧ ck1L dS_cX2_leastCloth_1 14 28 = true := by decide +kernel
theorem dX2_leastCloth_66 : decode cX2_leastCloth 66 = .ok (.iload_n 2, 1) := dk_28 (ck1_s (r := 2) dT_cX2_leastCloth_1 rfl dg_cX2_leastCloth_1189.1)
theorem dX2_leastCloth_67 : decode cX2_leastCloth 67 = .ok (.bipush 64, 2) := dk_16 (ck2s_s (r := 3) dT_cX2_leastCloth_1 rfl dg_cX2_leastCloth_1189.2.1)
theorem dX2_leastCloth_69 : decode cX2_leastCloth 69 = .ok (.if_icmp .ge 20, 3) := dk_162 (ck3s_s (r := 5) dT_cX2_leastCloth_1 rfl dg_cX2_leastCloth_1189.2.2.1)
theorem dX2_leastCloth_72 : decode cX2_leastCloth 72 = .ok (.aload_n 0, 1) := dk_42 (ck1_s (r := 8) dT_cX2_leastCloth_1 rfl dg_cX2_leastCloth_1189.2.2.2.1)
theorem dX2_leastCloth_73 : decode cX2_leastCloth 73 = .ok (.getfield 9, 3) := dk_180 (ck3_s (r := 9) dT_cX2_leastCloth_1 rfl dg_cX2_leastCloth_1189.2.2.2.2.1)
theorem dX2_leastCloth_76 : decode cX2_leastCloth 76 = .ok (.iload_n 2, 1) := dk_28 (ck1_s (r := 12) dT_cX2_leastCloth_1 rfl dg_cX2_leastCloth_1189.2.2.2.2.2.1)
theorem dX2_leastCloth_77 : decode cX2_leastCloth 77 = .ok (.aload_n 0, 1) := dk_42 (ck1_s (r := 13) dT_cX2_leastCloth_1 rfl dg_cX2_leastCloth_1189.2.2.2.2.2.2.1)
theorem dX2_leastCloth_78 : decode cX2_leastCloth 78 = .ok (.iload_n 2, 1) := dk_28 (ck1_s (r := 14) dT_cX2_leastCloth_1 rfl dg_cX2_leastCloth_1189.2.2.2.2.2.2.2)
theorem dg_cX2_leastCloth_1190 : ck3L dS_cX2_leastCloth_1 15 182 72 = true ∧ ck1L dS_cX2_leastCloth_1 18 79 = true ∧ ck3iL dS_cX2_leastCloth_1 19 132 2 1 = true ∧ ck3sL dS_cX2_leastCloth_1 22 167 (-25) = true ∧ ck1L dS_cX2_leastCloth_1 25 27 = true ∧ ck3sL dS_cX2_leastCloth_1 26 155 18 = true ∧ ck1L dS_cX2_leastCloth_1 29 27 = true ∧ ck2sL dS_cX2_leastCloth_1 30 16 64 = true := by decide +kernel
theorem dX2_leastCloth_79 : decode cX2_leastCloth 79 = .ok (.invokevirtual 72, 3) := dk_182 (ck3_s (r := 15) dT_cX2_leastCloth_1 rfl dg_cX2_leastCloth_1190.1)
theorem dX2_leastCloth_82 : decode cX2_leastCloth 82 = .ok (.iastore, 1) := dk_79 (ck1_s (r := 18) dT_cX2_leastCloth_1 rfl dg_cX2_leastCloth_1190.2.1)
theorem dX2_leastCloth_83 : decode cX2_leastCloth 83 = .ok (.iinc 2 1, 3) := dk_132 (ck3i_s (r := 19) dT_cX2_leastCloth_1 rfl dg_cX2_leastCloth_1190.2.2.1)
theorem dX2_leastCloth_86 : decode cX2_leastCloth 86 = .ok (.goto (-25), 3) := dk_167 (ck3s_s (r := 22) dT_cX2_leastCloth_1 rfl dg_cX2_leastCloth_1190.2.2.2.1)
theorem dX2_leastCloth_89 : decode cX2_leastCloth 89 = .ok (.iload_n 1, 1) := dk_27 (ck1_s (r := 25) dT_cX2_leastCloth_1 rfl dg_cX2_leastCloth_1190.2.2.2.2.1)
theorem dX2_leastCloth_90 : decode cX2_leastCloth 90 = .ok (.ifCond .lt 18, 3) := dk_155 (ck3s_s (r := 26) dT_cX2_leastCloth_1 rfl dg_cX2_leastCloth_1190.2.2.2.2.2.1)
theorem dX2_leastCloth_93 : decode cX2_leastCloth 93 = .ok (.iload_n 1, 1) := dk_27 (ck1_s (r := 29) dT_cX2_leastCloth_1 rfl dg_cX2_leastCloth_1190.2.2.2.2.2.2.1)
theorem dX2_leastCloth_94 : decode cX2_leastCloth 94 = .ok (.bipush 64, 2) := dk_16 (ck2s_s (r := 30) dT_cX2_leastCloth_1 rfl dg_cX2_leastCloth_1190.2.2.2.2.2.2.2)
theorem dg_cX2_leastCloth_1191 : ck3sL dS_cX2_leastCloth_1 32 162 12 = true ∧ ck1L dS_cX2_leastCloth_1 35 42 = true ∧ ck3L dS_cX2_leastCloth_1 36 180 9 = true ∧ ck1L dS_cX2_leastCloth_1 39 27 = true ∧ ck1L dS_cX2_leastCloth_1 40 46 = true ∧ ck3sL dS_cX2_leastCloth_1 41 167 4 = true ∧ ck1L dS_cX2_leastCloth_1 44 2 = true ∧ ck1L dS_cX2_leastCloth_1 45 172 = true := by decide +kernel
theorem dX2_leastCloth_96 : decode cX2_leastCloth 96 = .ok (.if_icmp .ge 12, 3) := dk_162 (ck3s_s (r := 32) dT_cX2_leastCloth_1 rfl dg_cX2_leastCloth_1191.1)
theorem dX2_leastCloth_99 : decode cX2_leastCloth 99 = .ok (.aload_n 0, 1) := dk_42 (ck1_s (r := 35) dT_cX2_leastCloth_1 rfl dg_cX2_leastCloth_1191.2.1)
theorem dX2_leastCloth_100 : decode cX2_leastCloth 100 = .ok (.getfield 9, 3) := dk_180 (ck3_s (r := 36) dT_cX2_leastCloth_1 rfl dg_cX2_leastCloth_1191.2.2.1)
theorem dX2_leastCloth_103 : decode cX2_leastCloth 103 = .ok (.iload_n 1, 1) := dk_27 (ck1_s (r := 39) dT_cX2_leastCloth_1 rfl dg_cX2_leastCloth_1191.2.2.2.1)
theorem dX2_leastCloth_104 : decode cX2_leastCloth 104 = .ok (.iaload, 1) := dk_46 (ck1_s (r := 40) dT_cX2_leastCloth_1 rfl dg_cX2_leastCloth_1191.2.2.2.2.1)
theorem dX2_leastCloth_105 : decode cX2_leastCloth 105 = .ok (.goto 4, 3) := dk_167 (ck3s_s (r := 41) dT_cX2_leastCloth_1 rfl dg_cX2_leastCloth_1191.2.2.2.2.2.1)
theorem dX2_leastCloth_108 : decode cX2_leastCloth 108 = .ok (.iconst (-1), 1) := dk_2 (ck1_s (r := 44) dT_cX2_leastCloth_1 rfl dg_cX2_leastCloth_1191.2.2.2.2.2.2.1)
theorem dX2_leastCloth_109 : decode cX2_leastCloth 109 = .ok (.ireturn, 1) := dk_172 (ck1_s (r := 45) dT_cX2_leastCloth_1 rfl dg_cX2_leastCloth_1191.2.2.2.2.2.2.2)
theorem dg_cX2_leastLength_1192 : ck3s cX2_leastLength 0 17 1000 = true ∧ ck1 cX2_leastLength 3 61 = true ∧ ck1 cX2_leastLength 4 27 = true ∧ ck3 cX2_leastLength 5 184 51 = true ∧ ck1 cX2_leastLength 8 62 = true ∧ ck1 cX2_leastLength 9 29 = true ∧ ck2 cX2_leastLength 10 54 4 = true ∧ ck2 cX2_leastLength 12 21 4 = true := by decide +kernel
theorem dX2_leastLength_0 : decode cX2_leastLength 0 = .ok (.sipush 1000, 3) := dk_17 dg_cX2_leastLength_1192.1
theorem dX2_leastLength_3 : decode cX2_leastLength 3 = .ok (.istore_n 2, 1) := dk_61 dg_cX2_leastLength_1192.2.1
theorem dX2_leastLength_4 : decode cX2_leastLength 4 = .ok (.iload_n 1, 1) := dk_27 dg_cX2_leastLength_1192.2.2.1
theorem dX2_leastLength_5 : decode cX2_leastLength 5 = .ok (.invokestatic 51, 3) := dk_184 dg_cX2_leastLength_1192.2.2.2.1
theorem dX2_leastLength_8 : decode cX2_leastLength 8 = .ok (.istore_n 3, 1) := dk_62 dg_cX2_leastLength_1192.2.2.2.2.1
theorem dX2_leastLength_9 : decode cX2_leastLength 9 = .ok (.iload_n 3, 1) := dk_29 dg_cX2_leastLength_1192.2.2.2.2.2.1
theorem dX2_leastLength_10 : decode cX2_leastLength 10 = .ok (.istore 4, 2) := dk_54 dg_cX2_leastLength_1192.2.2.2.2.2.2.1
theorem dX2_leastLength_12 : decode cX2_leastLength 12 = .ok (.iload 4, 2) := dk_21 dg_cX2_leastLength_1192.2.2.2.2.2.2.2
theorem dg_cX2_leastLength_1193 : ck1 cX2_leastLength 14 27 = true ∧ ck3s cX2_leastLength 15 163 61 = true ∧ ck2 cX2_leastLength 18 21 4 = true ∧ ck1 cX2_leastLength 20 27 = true ∧ ck1 cX2_leastLength 21 2 = true ∧ ck1 cX2_leastLength 22 130 = true ∧ ck1 cX2_leastLength 23 126 = true ∧ ck3s cX2_leastLength 24 154 46 = true := by decide +kernel
theorem dX2_leastLength_14 : decode cX2_leastLength 14 = .ok (.iload_n 1, 1) := dk_27 dg_cX2_leastLength_1193.1
theorem dX2_leastLength_15 : decode cX2_leastLength 15 = .ok (.if_icmp .gt 61, 3) := dk_163 dg_cX2_leastLength_1193.2.1
theorem dX2_leastLength_18 : decode cX2_leastLength 18 = .ok (.iload 4, 2) := dk_21 dg_cX2_leastLength_1193.2.2.1
theorem dX2_leastLength_20 : decode cX2_leastLength 20 = .ok (.iload_n 1, 1) := dk_27 dg_cX2_leastLength_1193.2.2.2.1
theorem dX2_leastLength_21 : decode cX2_leastLength 21 = .ok (.iconst (-1), 1) := dk_2 dg_cX2_leastLength_1193.2.2.2.2.1
theorem dX2_leastLength_22 : decode cX2_leastLength 22 = .ok (.ixor, 1) := dk_130 dg_cX2_leastLength_1193.2.2.2.2.2.1
theorem dX2_leastLength_23 : decode cX2_leastLength 23 = .ok (.iand, 1) := dk_126 dg_cX2_leastLength_1193.2.2.2.2.2.2.1
theorem dX2_leastLength_24 : decode cX2_leastLength 24 = .ok (.ifCond .ne 46, 3) := dk_154 dg_cX2_leastLength_1193.2.2.2.2.2.2.2
theorem dg_cX2_leastLength_1194 : ck2 cX2_leastLength 27 21 4 = true ∧ ck1 cX2_leastLength 29 29 = true ∧ ck1 cX2_leastLength 30 126 = true ∧ ck3s cX2_leastLength 31 153 39 = true ∧ ck1 cX2_leastLength 34 42 = true ∧ ck2 cX2_leastLength 35 21 4 = true ∧ ck3 cX2_leastLength 37 182 75 = true ∧ ck2 cX2_leastLength 40 54 5 = true := by decide +kernel
theorem dX2_leastLength_27 : decode cX2_leastLength 27 = .ok (.iload 4, 2) := dk_21 dg_cX2_leastLength_1194.1
theorem dX2_leastLength_29 : decode cX2_leastLength 29 = .ok (.iload_n 3, 1) := dk_29 dg_cX2_leastLength_1194.2.1
theorem dX2_leastLength_30 : decode cX2_leastLength 30 = .ok (.iand, 1) := dk_126 dg_cX2_leastLength_1194.2.2.1
theorem dX2_leastLength_31 : decode cX2_leastLength 31 = .ok (.ifCond .eq 39, 3) := dk_153 dg_cX2_leastLength_1194.2.2.2.1
theorem dX2_leastLength_34 : decode cX2_leastLength 34 = .ok (.aload_n 0, 1) := dk_42 dg_cX2_leastLength_1194.2.2.2.2.1
theorem dX2_leastLength_35 : decode cX2_leastLength 35 = .ok (.iload 4, 2) := dk_21 dg_cX2_leastLength_1194.2.2.2.2.2.1
theorem dX2_leastLength_37 : decode cX2_leastLength 37 = .ok (.invokevirtual 75, 3) := dk_182 dg_cX2_leastLength_1194.2.2.2.2.2.2.1
theorem dX2_leastLength_40 : decode cX2_leastLength 40 = .ok (.istore 5, 2) := dk_54 dg_cX2_leastLength_1194.2.2.2.2.2.2.2
theorem dg_cX2_leastLength_1195 : ck2 cX2_leastLength 42 21 5 = true ∧ ck1 cX2_leastLength 44 2 = true ∧ ck3s cX2_leastLength 45 159 25 = true ∧ ck1 cX2_leastLength 48 28 = true ∧ ck2 cX2_leastLength 49 21 5 = true ∧ ck1 cX2_leastLength 51 42 = true ∧ ck3 cX2_leastLength 52 180 9 = true ∧ ck1 cX2_leastLength 55 27 = true := by decide +kernel
theorem dX2_leastLength_42 : decode cX2_leastLength 42 = .ok (.iload 5, 2) := dk_21 dg_cX2_leastLength_1195.1
theorem dX2_leastLength_44 : decode cX2_leastLength 44 = .ok (.iconst (-1), 1) := dk_2 dg_cX2_leastLength_1195.2.1
theorem dX2_leastLength_45 : decode cX2_leastLength 45 = .ok (.if_icmp .eq 25, 3) := dk_159 dg_cX2_leastLength_1195.2.2.1
theorem dX2_leastLength_48 : decode cX2_leastLength 48 = .ok (.iload_n 2, 1) := dk_28 dg_cX2_leastLength_1195.2.2.2.1
theorem dX2_leastLength_49 : decode cX2_leastLength 49 = .ok (.iload 5, 2) := dk_21 dg_cX2_leastLength_1195.2.2.2.2.1
theorem dX2_leastLength_51 : decode cX2_leastLength 51 = .ok (.aload_n 0, 1) := dk_42 dg_cX2_leastLength_1195.2.2.2.2.2.1
theorem dX2_leastLength_52 : decode cX2_leastLength 52 = .ok (.getfield 9, 3) := dk_180 dg_cX2_leastLength_1195.2.2.2.2.2.2.1
theorem dX2_leastLength_55 : decode cX2_leastLength 55 = .ok (.iload_n 1, 1) := dk_27 dg_cX2_leastLength_1195.2.2.2.2.2.2.2
theorem dg_cX2_leastLength_1196 : ck2 cX2_leastLength 56 21 4 = true ∧ ck1 cX2_leastLength 58 2 = true ∧ ck1 cX2_leastLength 59 130 = true ∧ ck1 cX2_leastLength 60 126 = true ∧ ck2s cX2_leastLength 61 16 63 = true ∧ ck1 cX2_leastLength 63 126 = true := by decide +kernel
theorem dX2_leastLength_56 : decode cX2_leastLength 56 = .ok (.iload 4, 2) := dk_21 dg_cX2_leastLength_1196.1
theorem dX2_leastLength_58 : decode cX2_leastLength 58 = .ok (.iconst (-1), 1) := dk_2 dg_cX2_leastLength_1196.2.1
theorem dX2_leastLength_59 : decode cX2_leastLength 59 = .ok (.ixor, 1) := dk_130 dg_cX2_leastLength_1196.2.2.1
theorem dX2_leastLength_60 : decode cX2_leastLength 60 = .ok (.iand, 1) := dk_126 dg_cX2_leastLength_1196.2.2.2.1
theorem dX2_leastLength_61 : decode cX2_leastLength 61 = .ok (.bipush 63, 2) := dk_16 dg_cX2_leastLength_1196.2.2.2.2.1
theorem dX2_leastLength_63 : decode cX2_leastLength 63 = .ok (.iand, 1) := dk_126 dg_cX2_leastLength_1196.2.2.2.2.2
def dS_cX2_leastLength_1 : List UInt8 := 46 :: 96 :: 184 :: 0 :: 78 :: 61 :: 132 :: 4 :: 1 :: 167 :: 255 :: 195 :: 28 :: 172 :: []
def dS_cX2_leastLength_0 : List UInt8 := 17 :: 3 :: 232 :: 61 :: 27 :: 184 :: 0 :: 51 :: 62 :: 29 :: 54 :: 4 :: 21 :: 4 :: 27 :: 163 :: 0 :: 61 :: 21 :: 4 :: 27 :: 2 :: 130 :: 126 :: 154 :: 0 :: 46 :: 21 :: 4 :: 29 :: 126 :: 153 :: 0 :: 39 :: 42 :: 21 :: 4 :: 182 :: 0 :: 75 :: 54 :: 5 :: 21 :: 5 :: 2 :: 159 :: 0 :: 25 :: 28 :: 21 :: 5 :: 42 :: 180 :: 0 :: 9 :: 27 :: 21 :: 4 :: 2 :: 130 :: 126 :: 16 :: 63 :: 126 :: dS_cX2_leastLength_1
theorem dT_cX2_leastLength_0 : cX2_leastLength.data.toList.drop 0 = dS_cX2_leastLength_0 := by decide +kernel
theorem dT_cX2_leastLength_1 : cX2_leastLength.data.toList.drop 64 = dS_cX2_leastLength_1 := ck_nx dT_cX2_leastLength_0 (by decide +kernel) rfl
theorem dg_cX2_leastLength_1197 : ck1L dS_cX2_leastLength_1 0 46 = true ∧ ck1L dS_cX2_leastLength_1 1 96 = true ∧ ck3L dS_cX2_leastLength_1 2 184 78 = true ∧ ck1L dS_cX2_leastLength_1 5 61 = true ∧ ck3iL dS_cX2_leastLength_1 6 132 4 1 = true ∧ ck3sL dS_cX2_leastLength_1 9 167 (-61) = true ∧ ck1L dS_cX2_leastLength_1 12 28 = true ∧ ck1L dS_cX2_leastLength_1 13 172 = true := by decide +kernel
theorem dX2_leastLength_64 : decode cX2_leastLength 64 = .ok (.iaload, 1) := dk_46 (ck1_s (r := 0) dT_cX2_leastLength_1 rfl dg_cX2_leastLength_1197.1)
theorem dX2_leastLength_65 : decode cX2_leastLength 65 = .ok (.iadd, 1) := dk_96 (ck1_s (r := 1) dT_cX2_leastLength_1 rfl dg_cX2_leastLength_1197.2.1)
theorem dX2_leastLength_66 : decode cX2_leastLength 66 = .ok (.invokestatic 78, 3) := dk_184 (ck3_s (r := 2) dT_cX2_leastLength_1 rfl dg_cX2_leastLength_1197.2.2.1)
theorem dX2_leastLength_69 : decode cX2_leastLength 69 = .ok (.istore_n 2, 1) := dk_61 (ck1_s (r := 5) dT_cX2_leastLength_1 rfl dg_cX2_leastLength_1197.2.2.2.1)
theorem dX2_leastLength_70 : decode cX2_leastLength 70 = .ok (.iinc 4 1, 3) := dk_132 (ck3i_s (r := 6) dT_cX2_leastLength_1 rfl dg_cX2_leastLength_1197.2.2.2.2.1)
theorem dX2_leastLength_73 : decode cX2_leastLength 73 = .ok (.goto (-61), 3) := dk_167 (ck3s_s (r := 9) dT_cX2_leastLength_1 rfl dg_cX2_leastLength_1197.2.2.2.2.2.1)
theorem dX2_leastLength_76 : decode cX2_leastLength 76 = .ok (.iload_n 2, 1) := dk_28 (ck1_s (r := 12) dT_cX2_leastLength_1 rfl dg_cX2_leastLength_1197.2.2.2.2.2.2.1)
theorem dX2_leastLength_77 : decode cX2_leastLength 77 = .ok (.ireturn, 1) := dk_172 (ck1_s (r := 13) dT_cX2_leastLength_1 rfl dg_cX2_leastLength_1197.2.2.2.2.2.2.2)
theorem dg_cX2_leftWing_1198 : ck1 cX2_leftWing 0 42 = true ∧ ck3 cX2_leftWing 1 180 19 = true ∧ ck3 cX2_leftWing 4 182 39 = true ∧ ck1 cX2_leftWing 7 60 = true ∧ ck1 cX2_leftWing 8 27 = true ∧ ck3 cX2_leftWing 9 184 51 = true ∧ ck1 cX2_leftWing 12 61 = true ∧ ck1 cX2_leftWing 13 27 = true := by decide +kernel
theorem dX2_leftWing_0 : decode cX2_leftWing 0 = .ok (.aload_n 0, 1) := dk_42 dg_cX2_leftWing_1198.1
theorem dX2_leftWing_1 : decode cX2_leftWing 1 = .ok (.getfield 19, 3) := dk_180 dg_cX2_leftWing_1198.2.1
theorem dX2_leftWing_4 : decode cX2_leftWing 4 = .ok (.invokevirtual 39, 3) := dk_182 dg_cX2_leftWing_1198.2.2.1
theorem dX2_leftWing_7 : decode cX2_leftWing 7 = .ok (.istore_n 1, 1) := dk_60 dg_cX2_leftWing_1198.2.2.2.1
theorem dX2_leftWing_8 : decode cX2_leftWing 8 = .ok (.iload_n 1, 1) := dk_27 dg_cX2_leftWing_1198.2.2.2.2.1
theorem dX2_leftWing_9 : decode cX2_leftWing 9 = .ok (.invokestatic 51, 3) := dk_184 dg_cX2_leftWing_1198.2.2.2.2.2.1
theorem dX2_leftWing_12 : decode cX2_leftWing 12 = .ok (.istore_n 2, 1) := dk_61 dg_cX2_leftWing_1198.2.2.2.2.2.2.1
theorem dX2_leftWing_13 : decode cX2_leftWing 13 = .ok (.iload_n 1, 1) := dk_27 dg_cX2_leftWing_1198.2.2.2.2.2.2.2
theorem dg_cX2_leftWing_1199 : ck1 cX2_leftWing 14 62 = true ∧ ck1 cX2_leftWing 15 3 = true ∧ ck2 cX2_leftWing 16 54 4 = true ∧ ck2 cX2_leftWing 18 21 4 = true ∧ ck2s cX2_leftWing 20 16 64 = true ∧ ck3s cX2_leftWing 22 162 51 = true ∧ ck2 cX2_leftWing 25 21 4 = true ∧ ck1 cX2_leftWing 27 27 = true := by decide +kernel
theorem dX2_leftWing_14 : decode cX2_leftWing 14 = .ok (.istore_n 3, 1) := dk_62 dg_cX2_leftWing_1199.1
theorem dX2_leftWing_15 : decode cX2_leftWing 15 = .ok (.iconst 0, 1) := dk_3 dg_cX2_leftWing_1199.2.1
theorem dX2_leftWing_16 : decode cX2_leftWing 16 = .ok (.istore 4, 2) := dk_54 dg_cX2_leftWing_1199.2.2.1
theorem dX2_leftWing_18 : decode cX2_leftWing 18 = .ok (.iload 4, 2) := dk_21 dg_cX2_leftWing_1199.2.2.2.1
theorem dX2_leftWing_20 : decode cX2_leftWing 20 = .ok (.bipush 64, 2) := dk_16 dg_cX2_leftWing_1199.2.2.2.2.1
theorem dX2_leftWing_22 : decode cX2_leftWing 22 = .ok (.if_icmp .ge 51, 3) := dk_162 dg_cX2_leftWing_1199.2.2.2.2.2.1
theorem dX2_leftWing_25 : decode cX2_leftWing 25 = .ok (.iload 4, 2) := dk_21 dg_cX2_leftWing_1199.2.2.2.2.2.2.1
theorem dX2_leftWing_27 : decode cX2_leftWing 27 = .ok (.iload_n 1, 1) := dk_27 dg_cX2_leftWing_1199.2.2.2.2.2.2.2
theorem dg_cX2_leftWing_1200 : ck1 cX2_leftWing 28 2 = true ∧ ck1 cX2_leftWing 29 130 = true ∧ ck1 cX2_leftWing 30 126 = true ∧ ck3s cX2_leftWing 31 154 15 = true ∧ ck2 cX2_leftWing 34 21 4 = true ∧ ck1 cX2_leftWing 36 28 = true ∧ ck1 cX2_leftWing 37 126 = true ∧ ck1 cX2_leftWing 38 28 = true := by decide +kernel
theorem dX2_leftWing_28 : decode cX2_leftWing 28 = .ok (.iconst (-1), 1) := dk_2 dg_cX2_leftWing_1200.1
theorem dX2_leftWing_29 : decode cX2_leftWing 29 = .ok (.ixor, 1) := dk_130 dg_cX2_leftWing_1200.2.1
theorem dX2_leftWing_30 : decode cX2_leftWing 30 = .ok (.iand, 1) := dk_126 dg_cX2_leftWing_1200.2.2.1
theorem dX2_leftWing_31 : decode cX2_leftWing 31 = .ok (.ifCond .ne 15, 3) := dk_154 dg_cX2_leftWing_1200.2.2.2.1
theorem dX2_leftWing_34 : decode cX2_leftWing 34 = .ok (.iload 4, 2) := dk_21 dg_cX2_leftWing_1200.2.2.2.2.1
theorem dX2_leftWing_36 : decode cX2_leftWing 36 = .ok (.iload_n 2, 1) := dk_28 dg_cX2_leftWing_1200.2.2.2.2.2.1
theorem dX2_leftWing_37 : decode cX2_leftWing 37 = .ok (.iand, 1) := dk_126 dg_cX2_leftWing_1200.2.2.2.2.2.2.1
theorem dX2_leftWing_38 : decode cX2_leftWing 38 = .ok (.iload_n 2, 1) := dk_28 dg_cX2_leftWing_1200.2.2.2.2.2.2.2
theorem dg_cX2_leftWing_1201 : ck3s cX2_leftWing 39 160 7 = true ∧ ck1 cX2_leftWing 42 4 = true ∧ ck3s cX2_leftWing 43 167 4 = true ∧ ck1 cX2_leftWing 46 3 = true ∧ ck2 cX2_leftWing 47 54 5 = true ∧ ck2 cX2_leftWing 49 21 5 = true ∧ ck3s cX2_leftWing 51 153 16 = true ∧ ck1 cX2_leftWing 54 42 = true := by decide +kernel
theorem dX2_leftWing_39 : decode cX2_leftWing 39 = .ok (.if_icmp .ne 7, 3) := dk_160 dg_cX2_leftWing_1201.1
theorem dX2_leftWing_42 : decode cX2_leftWing 42 = .ok (.iconst 1, 1) := dk_4 dg_cX2_leftWing_1201.2.1
theorem dX2_leftWing_43 : decode cX2_leftWing 43 = .ok (.goto 4, 3) := dk_167 dg_cX2_leftWing_1201.2.2.1
theorem dX2_leftWing_46 : decode cX2_leftWing 46 = .ok (.iconst 0, 1) := dk_3 dg_cX2_leftWing_1201.2.2.2.1
theorem dX2_leftWing_47 : decode cX2_leftWing 47 = .ok (.istore 5, 2) := dk_54 dg_cX2_leftWing_1201.2.2.2.2.1
theorem dX2_leftWing_49 : decode cX2_leftWing 49 = .ok (.iload 5, 2) := dk_21 dg_cX2_leftWing_1201.2.2.2.2.2.1
theorem dX2_leftWing_51 : decode cX2_leftWing 51 = .ok (.ifCond .eq 16, 3) := dk_153 dg_cX2_leftWing_1201.2.2.2.2.2.2.1
theorem dX2_leftWing_54 : decode cX2_leftWing 54 = .ok (.aload_n 0, 1) := dk_42 dg_cX2_leftWing_1201.2.2.2.2.2.2.2
theorem dg_cX2_leftWing_1202 : ck2 cX2_leftWing 55 21 4 = true ∧ ck1 cX2_leftWing 57 29 = true ∧ ck3 cX2_leftWing 58 182 54 = true ∧ ck3s cX2_leftWing 61 153 6 = true := by decide +kernel
theorem dX2_leftWing_55 : decode cX2_leftWing 55 = .ok (.iload 4, 2) := dk_21 dg_cX2_leftWing_1202.1
theorem dX2_leftWing_57 : decode cX2_leftWing 57 = .ok (.iload_n 3, 1) := dk_29 dg_cX2_leftWing_1202.2.1
theorem dX2_leftWing_58 : decode cX2_leftWing 58 = .ok (.invokevirtual 54, 3) := dk_182 dg_cX2_leftWing_1202.2.2.1
theorem dX2_leftWing_61 : decode cX2_leftWing 61 = .ok (.ifCond .eq 6, 3) := dk_153 dg_cX2_leftWing_1202.2.2.2
def dS_cX2_leftWing_1 : List UInt8 := 21 :: 4 :: 62 :: 132 :: 4 :: 1 :: 167 :: 255 :: 204 :: 29 :: 172 :: []
def dS_cX2_leftWing_0 : List UInt8 := 42 :: 180 :: 0 :: 19 :: 182 :: 0 :: 39 :: 60 :: 27 :: 184 :: 0 :: 51 :: 61 :: 27 :: 62 :: 3 :: 54 :: 4 :: 21 :: 4 :: 16 :: 64 :: 162 :: 0 :: 51 :: 21 :: 4 :: 27 :: 2 :: 130 :: 126 :: 154 :: 0 :: 15 :: 21 :: 4 :: 28 :: 126 :: 28 :: 160 :: 0 :: 7 :: 4 :: 167 :: 0 :: 4 :: 3 :: 54 :: 5 :: 21 :: 5 :: 153 :: 0 :: 16 :: 42 :: 21 :: 4 :: 29 :: 182 :: 0 :: 54 :: 153 :: 0 :: 6 :: dS_cX2_leftWing_1
theorem dT_cX2_leftWing_0 : cX2_leftWing.data.toList.drop 0 = dS_cX2_leftWing_0 := by decide +kernel
theorem dT_cX2_leftWing_1 : cX2_leftWing.data.toList.drop 64 = dS_cX2_leftWing_1 := ck_nx dT_cX2_leftWing_0 (by decide +kernel) rfl
theorem dg_cX2_leftWing_1203 : ck2L dS_cX2_leftWing_1 0 21 4 = true ∧ ck1L dS_cX2_leftWing_1 2 62 = true ∧ ck3iL dS_cX2_leftWing_1 3 132 4 1 = true ∧ ck3sL dS_cX2_leftWing_1 6 167 (-52) = true ∧ ck1L dS_cX2_leftWing_1 9 29 = true ∧ ck1L dS_cX2_leftWing_1 10 172 = true := by decide +kernel
theorem dX2_leftWing_64 : decode cX2_leftWing 64 = .ok (.iload 4, 2) := dk_21 (ck2_s (r := 0) dT_cX2_leftWing_1 rfl dg_cX2_leftWing_1203.1)
theorem dX2_leftWing_66 : decode cX2_leftWing 66 = .ok (.istore_n 3, 1) := dk_62 (ck1_s (r := 2) dT_cX2_leftWing_1 rfl dg_cX2_leftWing_1203.2.1)
theorem dX2_leftWing_67 : decode cX2_leftWing 67 = .ok (.iinc 4 1, 3) := dk_132 (ck3i_s (r := 3) dT_cX2_leftWing_1 rfl dg_cX2_leftWing_1203.2.2.1)
theorem dX2_leftWing_70 : decode cX2_leftWing 70 = .ok (.goto (-52), 3) := dk_167 (ck3s_s (r := 6) dT_cX2_leftWing_1 rfl dg_cX2_leftWing_1203.2.2.2.1)
theorem dX2_leftWing_73 : decode cX2_leftWing 73 = .ok (.iload_n 3, 1) := dk_29 (ck1_s (r := 9) dT_cX2_leftWing_1 rfl dg_cX2_leftWing_1203.2.2.2.2.1)
theorem dX2_leftWing_74 : decode cX2_leftWing 74 = .ok (.ireturn, 1) := dk_172 (ck1_s (r := 10) dT_cX2_leftWing_1 rfl dg_cX2_leftWing_1203.2.2.2.2.2)
theorem dg_cX2_rowLength_1204 : ck1 cX2_rowLength 0 3 = true ∧ ck1 cX2_rowLength 1 61 = true ∧ ck1 cX2_rowLength 2 3 = true ∧ ck1 cX2_rowLength 3 62 = true ∧ ck1 cX2_rowLength 4 3 = true ∧ ck2 cX2_rowLength 5 54 4 = true ∧ ck2 cX2_rowLength 7 21 4 = true ∧ ck1 cX2_rowLength 9 42 = true := by decide +kernel
theorem dX2_rowLength_0 : decode cX2_rowLength 0 = .ok (.iconst 0, 1) := dk_3 dg_cX2_rowLength_1204.1
theorem dX2_rowLength_1 : decode cX2_rowLength 1 = .ok (.istore_n 2, 1) := dk_61 dg_cX2_rowLength_1204.2.1
theorem dX2_rowLength_2 : decode cX2_rowLength 2 = .ok (.iconst 0, 1) := dk_3 dg_cX2_rowLength_1204.2.2.1
theorem dX2_rowLength_3 : decode cX2_rowLength 3 = .ok (.istore_n 3, 1) := dk_62 dg_cX2_rowLength_1204.2.2.2.1
theorem dX2_rowLength_4 : decode cX2_rowLength 4 = .ok (.iconst 0, 1) := dk_3 dg_cX2_rowLength_1204.2.2.2.2.1
theorem dX2_rowLength_5 : decode cX2_rowLength 5 = .ok (.istore 4, 2) := dk_54 dg_cX2_rowLength_1204.2.2.2.2.2.1
theorem dX2_rowLength_7 : decode cX2_rowLength 7 = .ok (.iload 4, 2) := dk_21 dg_cX2_rowLength_1204.2.2.2.2.2.2.1
theorem dX2_rowLength_9 : decode cX2_rowLength 9 = .ok (.aload_n 0, 1) := dk_42 dg_cX2_rowLength_1204.2.2.2.2.2.2.2
theorem dg_cX2_rowLength_1205 : ck3 cX2_rowLength 10 180 15 = true ∧ ck3 cX2_rowLength 13 180 66 = true ∧ ck3s cX2_rowLength 16 162 46 = true ∧ ck1 cX2_rowLength 19 27 = true ∧ ck2 cX2_rowLength 20 21 4 = true ∧ ck1 cX2_rowLength 22 122 = true ∧ ck1 cX2_rowLength 23 4 = true ∧ ck1 cX2_rowLength 24 126 = true := by decide +kernel
theorem dX2_rowLength_10 : decode cX2_rowLength 10 = .ok (.getfield 15, 3) := dk_180 dg_cX2_rowLength_1205.1
theorem dX2_rowLength_13 : decode cX2_rowLength 13 = .ok (.getfield 66, 3) := dk_180 dg_cX2_rowLength_1205.2.1
theorem dX2_rowLength_16 : decode cX2_rowLength 16 = .ok (.if_icmp .ge 46, 3) := dk_162 dg_cX2_rowLength_1205.2.2.1
theorem dX2_rowLength_19 : decode cX2_rowLength 19 = .ok (.iload_n 1, 1) := dk_27 dg_cX2_rowLength_1205.2.2.2.1
theorem dX2_rowLength_20 : decode cX2_rowLength 20 = .ok (.iload 4, 2) := dk_21 dg_cX2_rowLength_1205.2.2.2.2.1
theorem dX2_rowLength_22 : decode cX2_rowLength 22 = .ok (.ishr, 1) := dk_122 dg_cX2_rowLength_1205.2.2.2.2.2.1
theorem dX2_rowLength_23 : decode cX2_rowLength 23 = .ok (.iconst 1, 1) := dk_4 dg_cX2_rowLength_1205.2.2.2.2.2.2.1
theorem dX2_rowLength_24 : decode cX2_rowLength 24 = .ok (.iand, 1) := dk_126 dg_cX2_rowLength_1205.2.2.2.2.2.2.2
theorem dg_cX2_rowLength_1206 : ck3s cX2_rowLength 25 153 31 = true ∧ ck1 cX2_rowLength 28 28 = true ∧ ck1 cX2_rowLength 29 42 = true ∧ ck3 cX2_rowLength 30 180 19 = true ∧ ck1 cX2_rowLength 33 4 = true ∧ ck2 cX2_rowLength 34 21 4 = true ∧ ck3 cX2_rowLength 36 182 35 = true ∧ ck1 cX2_rowLength 39 96 = true := by decide +kernel
theorem dX2_rowLength_25 : decode cX2_rowLength 25 = .ok (.ifCond .eq 31, 3) := dk_153 dg_cX2_rowLength_1206.1
theorem dX2_rowLength_28 : decode cX2_rowLength 28 = .ok (.iload_n 2, 1) := dk_28 dg_cX2_rowLength_1206.2.1
theorem dX2_rowLength_29 : decode cX2_rowLength 29 = .ok (.aload_n 0, 1) := dk_42 dg_cX2_rowLength_1206.2.2.1
theorem dX2_rowLength_30 : decode cX2_rowLength 30 = .ok (.getfield 19, 3) := dk_180 dg_cX2_rowLength_1206.2.2.2.1
theorem dX2_rowLength_33 : decode cX2_rowLength 33 = .ok (.iconst 1, 1) := dk_4 dg_cX2_rowLength_1206.2.2.2.2.1
theorem dX2_rowLength_34 : decode cX2_rowLength 34 = .ok (.iload 4, 2) := dk_21 dg_cX2_rowLength_1206.2.2.2.2.2.1
theorem dX2_rowLength_36 : decode cX2_rowLength 36 = .ok (.invokevirtual 35, 3) := dk_182 dg_cX2_rowLength_1206.2.2.2.2.2.2.1
theorem dX2_rowLength_39 : decode cX2_rowLength 39 = .ok (.iadd, 1) := dk_96 dg_cX2_rowLength_1206.2.2.2.2.2.2.2
theorem dg_cX2_rowLength_1207 : ck1 cX2_rowLength 40 61 = true ∧ ck1 cX2_rowLength 41 29 = true ∧ ck1 cX2_rowLength 42 42 = true ∧ ck3 cX2_rowLength 43 180 19 = true ∧ ck1 cX2_rowLength 46 3 = true ∧ ck2 cX2_rowLength 47 21 4 = true ∧ ck3 cX2_rowLength 49 182 35 = true ∧ ck3 cX2_rowLength 52 184 81 = true := by decide +kernel
theorem dX2_rowLength_40 : decode cX2_rowLength 40 = .ok (.istore_n 2, 1) := dk_61 dg_cX2_rowLength_1207.1
theorem dX2_rowLength_41 : decode cX2_rowLength 41 = .ok (.iload_n 3, 1) := dk_29 dg_cX2_rowLength_1207.2.1
theorem dX2_rowLength_42 : decode cX2_rowLength 42 = .ok (.aload_n 0, 1) := dk_42 dg_cX2_rowLength_1207.2.2.1
theorem dX2_rowLength_43 : decode cX2_rowLength 43 = .ok (.getfield 19, 3) := dk_180 dg_cX2_rowLength_1207.2.2.2.1
theorem dX2_rowLength_46 : decode cX2_rowLength 46 = .ok (.iconst 0, 1) := dk_3 dg_cX2_rowLength_1207.2.2.2.2.1
theorem dX2_rowLength_47 : decode cX2_rowLength 47 = .ok (.iload 4, 2) := dk_21 dg_cX2_rowLength_1207.2.2.2.2.2.1
theorem dX2_rowLength_49 : decode cX2_rowLength 49 = .ok (.invokevirtual 35, 3) := dk_182 dg_cX2_rowLength_1207.2.2.2.2.2.2.1
theorem dX2_rowLength_52 : decode cX2_rowLength 52 = .ok (.invokestatic 81, 3) := dk_184 dg_cX2_rowLength_1207.2.2.2.2.2.2.2
theorem dg_cX2_rowLength_1208 : ck1 cX2_rowLength 55 62 = true ∧ ck3i cX2_rowLength 56 132 4 1 = true ∧ ck3s cX2_rowLength 59 167 (-52) = true ∧ ck1 cX2_rowLength 62 28 = true ∧ ck1 cX2_rowLength 63 42 = true := by decide +kernel
theorem dX2_rowLength_55 : decode cX2_rowLength 55 = .ok (.istore_n 3, 1) := dk_62 dg_cX2_rowLength_1208.1
theorem dX2_rowLength_56 : decode cX2_rowLength 56 = .ok (.iinc 4 1, 3) := dk_132 dg_cX2_rowLength_1208.2.1
theorem dX2_rowLength_59 : decode cX2_rowLength 59 = .ok (.goto (-52), 3) := dk_167 dg_cX2_rowLength_1208.2.2.1
theorem dX2_rowLength_62 : decode cX2_rowLength 62 = .ok (.iload_n 2, 1) := dk_28 dg_cX2_rowLength_1208.2.2.2.1
theorem dX2_rowLength_63 : decode cX2_rowLength 63 = .ok (.aload_n 0, 1) := dk_42 dg_cX2_rowLength_1208.2.2.2.2
def dS_cX2_rowLength_1 : List UInt8 := 180 :: 0 :: 15 :: 180 :: 0 :: 69 :: 164 :: 0 :: 7 :: 2 :: 167 :: 0 :: 4 :: 29 :: 172 :: []
def dS_cX2_rowLength_0 : List UInt8 := 3 :: 61 :: 3 :: 62 :: 3 :: 54 :: 4 :: 21 :: 4 :: 42 :: 180 :: 0 :: 15 :: 180 :: 0 :: 66 :: 162 :: 0 :: 46 :: 27 :: 21 :: 4 :: 122 :: 4 :: 126 :: 153 :: 0 :: 31 :: 28 :: 42 :: 180 :: 0 :: 19 :: 4 :: 21 :: 4 :: 182 :: 0 :: 35 :: 96 :: 61 :: 29 :: 42 :: 180 :: 0 :: 19 :: 3 :: 21 :: 4 :: 182 :: 0 :: 35 :: 184 :: 0 :: 81 :: 62 :: 132 :: 4 :: 1 :: 167 :: 255 :: 204 :: 28 :: 42 :: dS_cX2_rowLength_1
theorem dT_cX2_rowLength_0 : cX2_rowLength.data.toList.drop 0 = dS_cX2_rowLength_0 := by decide +kernel
theorem dT_cX2_rowLength_1 : cX2_rowLength.data.toList.drop 64 = dS_cX2_rowLength_1 := ck_nx dT_cX2_rowLength_0 (by decide +kernel) rfl
theorem dg_cX2_rowLength_1209 : ck3L dS_cX2_rowLength_1 0 180 15 = true ∧ ck3L dS_cX2_rowLength_1 3 180 69 = true ∧ ck3sL dS_cX2_rowLength_1 6 164 7 = true ∧ ck1L dS_cX2_rowLength_1 9 2 = true ∧ ck3sL dS_cX2_rowLength_1 10 167 4 = true ∧ ck1L dS_cX2_rowLength_1 13 29 = true ∧ ck1L dS_cX2_rowLength_1 14 172 = true := by decide +kernel
theorem dX2_rowLength_64 : decode cX2_rowLength 64 = .ok (.getfield 15, 3) := dk_180 (ck3_s (r := 0) dT_cX2_rowLength_1 rfl dg_cX2_rowLength_1209.1)
theorem dX2_rowLength_67 : decode cX2_rowLength 67 = .ok (.getfield 69, 3) := dk_180 (ck3_s (r := 3) dT_cX2_rowLength_1 rfl dg_cX2_rowLength_1209.2.1)
theorem dX2_rowLength_70 : decode cX2_rowLength 70 = .ok (.if_icmp .le 7, 3) := dk_164 (ck3s_s (r := 6) dT_cX2_rowLength_1 rfl dg_cX2_rowLength_1209.2.2.1)
theorem dX2_rowLength_73 : decode cX2_rowLength 73 = .ok (.iconst (-1), 1) := dk_2 (ck1_s (r := 9) dT_cX2_rowLength_1 rfl dg_cX2_rowLength_1209.2.2.2.1)
theorem dX2_rowLength_74 : decode cX2_rowLength 74 = .ok (.goto 4, 3) := dk_167 (ck3s_s (r := 10) dT_cX2_rowLength_1 rfl dg_cX2_rowLength_1209.2.2.2.2.1)
theorem dX2_rowLength_77 : decode cX2_rowLength 77 = .ok (.iload_n 3, 1) := dk_29 (ck1_s (r := 13) dT_cX2_rowLength_1 rfl dg_cX2_rowLength_1209.2.2.2.2.2.1)
theorem dX2_rowLength_78 : decode cX2_rowLength 78 = .ok (.ireturn, 1) := dk_172 (ck1_s (r := 14) dT_cX2_rowLength_1 rfl dg_cX2_rowLength_1209.2.2.2.2.2.2)
theorem dg_cX2_wideTogether_1210 : ck1 cX2_wideTogether 0 3 = true ∧ ck1 cX2_wideTogether 1 61 = true ∧ ck1 cX2_wideTogether 2 3 = true ∧ ck1 cX2_wideTogether 3 62 = true ∧ ck1 cX2_wideTogether 4 29 = true ∧ ck1 cX2_wideTogether 5 42 = true ∧ ck3 cX2_wideTogether 6 180 15 = true ∧ ck3 cX2_wideTogether 9 180 23 = true := by decide +kernel
theorem dX2_wideTogether_0 : decode cX2_wideTogether 0 = .ok (.iconst 0, 1) := dk_3 dg_cX2_wideTogether_1210.1
theorem dX2_wideTogether_1 : decode cX2_wideTogether 1 = .ok (.istore_n 2, 1) := dk_61 dg_cX2_wideTogether_1210.2.1
theorem dX2_wideTogether_2 : decode cX2_wideTogether 2 = .ok (.iconst 0, 1) := dk_3 dg_cX2_wideTogether_1210.2.2.1
theorem dX2_wideTogether_3 : decode cX2_wideTogether 3 = .ok (.istore_n 3, 1) := dk_62 dg_cX2_wideTogether_1210.2.2.2.1
theorem dX2_wideTogether_4 : decode cX2_wideTogether 4 = .ok (.iload_n 3, 1) := dk_29 dg_cX2_wideTogether_1210.2.2.2.2.1
theorem dX2_wideTogether_5 : decode cX2_wideTogether 5 = .ok (.aload_n 0, 1) := dk_42 dg_cX2_wideTogether_1210.2.2.2.2.2.1
theorem dX2_wideTogether_6 : decode cX2_wideTogether 6 = .ok (.getfield 15, 3) := dk_180 dg_cX2_wideTogether_1210.2.2.2.2.2.2.1
theorem dX2_wideTogether_9 : decode cX2_wideTogether 9 = .ok (.getfield 23, 3) := dk_180 dg_cX2_wideTogether_1210.2.2.2.2.2.2.2
theorem dg_cX2_wideTogether_1211 : ck3s cX2_wideTogether 12 162 36 = true ∧ ck1 cX2_wideTogether 15 27 = true ∧ ck1 cX2_wideTogether 16 29 = true ∧ ck1 cX2_wideTogether 17 122 = true ∧ ck1 cX2_wideTogether 18 4 = true ∧ ck1 cX2_wideTogether 19 126 = true ∧ ck3s cX2_wideTogether 20 153 22 = true ∧ ck1 cX2_wideTogether 23 28 = true := by decide +kernel
theorem dX2_wideTogether_12 : decode cX2_wideTogether 12 = .ok (.if_icmp .ge 36, 3) := dk_162 dg_cX2_wideTogether_1211.1
theorem dX2_wideTogether_15 : decode cX2_wideTogether 15 = .ok (.iload_n 1, 1) := dk_27 dg_cX2_wideTogether_1211.2.1
theorem dX2_wideTogether_16 : decode cX2_wideTogether 16 = .ok (.iload_n 3, 1) := dk_29 dg_cX2_wideTogether_1211.2.2.1
theorem dX2_wideTogether_17 : decode cX2_wideTogether 17 = .ok (.ishr, 1) := dk_122 dg_cX2_wideTogether_1211.2.2.2.1
theorem dX2_wideTogether_18 : decode cX2_wideTogether 18 = .ok (.iconst 1, 1) := dk_4 dg_cX2_wideTogether_1211.2.2.2.2.1
theorem dX2_wideTogether_19 : decode cX2_wideTogether 19 = .ok (.iand, 1) := dk_126 dg_cX2_wideTogether_1211.2.2.2.2.2.1
theorem dX2_wideTogether_20 : decode cX2_wideTogether 20 = .ok (.ifCond .eq 22, 3) := dk_153 dg_cX2_wideTogether_1211.2.2.2.2.2.2.1
theorem dX2_wideTogether_23 : decode cX2_wideTogether 23 = .ok (.iload_n 2, 1) := dk_28 dg_cX2_wideTogether_1211.2.2.2.2.2.2.2
theorem dg_cX2_wideTogether_1212 : ck1 cX2_wideTogether 24 42 = true ∧ ck3 cX2_wideTogether 25 180 19 = true ∧ ck1 cX2_wideTogether 28 4 = true ∧ ck1 cX2_wideTogether 29 42 = true ∧ ck3 cX2_wideTogether 30 180 19 = true ∧ ck1 cX2_wideTogether 33 29 = true ∧ ck3 cX2_wideTogether 34 182 29 = true ∧ ck3 cX2_wideTogether 37 182 35 = true := by decide +kernel
theorem dX2_wideTogether_24 : decode cX2_wideTogether 24 = .ok (.aload_n 0, 1) := dk_42 dg_cX2_wideTogether_1212.1
theorem dX2_wideTogether_25 : decode cX2_wideTogether 25 = .ok (.getfield 19, 3) := dk_180 dg_cX2_wideTogether_1212.2.1
theorem dX2_wideTogether_28 : decode cX2_wideTogether 28 = .ok (.iconst 1, 1) := dk_4 dg_cX2_wideTogether_1212.2.2.1
theorem dX2_wideTogether_29 : decode cX2_wideTogether 29 = .ok (.aload_n 0, 1) := dk_42 dg_cX2_wideTogether_1212.2.2.2.1
theorem dX2_wideTogether_30 : decode cX2_wideTogether 30 = .ok (.getfield 19, 3) := dk_180 dg_cX2_wideTogether_1212.2.2.2.2.1
theorem dX2_wideTogether_33 : decode cX2_wideTogether 33 = .ok (.iload_n 3, 1) := dk_29 dg_cX2_wideTogether_1212.2.2.2.2.2.1
theorem dX2_wideTogether_34 : decode cX2_wideTogether 34 = .ok (.invokevirtual 29, 3) := dk_182 dg_cX2_wideTogether_1212.2.2.2.2.2.2.1
theorem dX2_wideTogether_37 : decode cX2_wideTogether 37 = .ok (.invokevirtual 35, 3) := dk_182 dg_cX2_wideTogether_1212.2.2.2.2.2.2.2
theorem dg_cX2_wideTogether_1213 : ck1 cX2_wideTogether 40 96 = true ∧ ck1 cX2_wideTogether 41 61 = true ∧ ck3i cX2_wideTogether 42 132 3 1 = true ∧ ck3s cX2_wideTogether 45 167 (-41) = true ∧ ck1 cX2_wideTogether 48 28 = true ∧ ck1 cX2_wideTogether 49 172 = true := by decide +kernel
theorem dX2_wideTogether_40 : decode cX2_wideTogether 40 = .ok (.iadd, 1) := dk_96 dg_cX2_wideTogether_1213.1
theorem dX2_wideTogether_41 : decode cX2_wideTogether 41 = .ok (.istore_n 2, 1) := dk_61 dg_cX2_wideTogether_1213.2.1
theorem dX2_wideTogether_42 : decode cX2_wideTogether 42 = .ok (.iinc 3 1, 3) := dk_132 dg_cX2_wideTogether_1213.2.2.1
theorem dX2_wideTogether_45 : decode cX2_wideTogether 45 = .ok (.goto (-41), 3) := dk_167 dg_cX2_wideTogether_1213.2.2.2.1
theorem dX2_wideTogether_48 : decode cX2_wideTogether 48 = .ok (.iload_n 2, 1) := dk_28 dg_cX2_wideTogether_1213.2.2.2.2.1
theorem dX2_wideTogether_49 : decode cX2_wideTogether 49 = .ok (.ireturn, 1) := dk_172 dg_cX2_wideTogether_1213.2.2.2.2.2
theorem dg_cX3_bestTurning_1214 : ck1 cX3_bestTurning 0 2 = true ∧ ck1 cX3_bestTurning 1 60 = true ∧ ck1 cX3_bestTurning 2 2 = true ∧ ck1 cX3_bestTurning 3 61 = true ∧ ck1 cX3_bestTurning 4 3 = true ∧ ck1 cX3_bestTurning 5 62 = true ∧ ck1 cX3_bestTurning 6 29 = true ∧ ck1 cX3_bestTurning 7 42 = true := by decide +kernel
theorem dX3_bestTurning_0 : decode cX3_bestTurning 0 = .ok (.iconst (-1), 1) := dk_2 dg_cX3_bestTurning_1214.1
theorem dX3_bestTurning_1 : decode cX3_bestTurning 1 = .ok (.istore_n 1, 1) := dk_60 dg_cX3_bestTurning_1214.2.1
theorem dX3_bestTurning_2 : decode cX3_bestTurning 2 = .ok (.iconst (-1), 1) := dk_2 dg_cX3_bestTurning_1214.2.2.1
theorem dX3_bestTurning_3 : decode cX3_bestTurning 3 = .ok (.istore_n 2, 1) := dk_61 dg_cX3_bestTurning_1214.2.2.2.1
theorem dX3_bestTurning_4 : decode cX3_bestTurning 4 = .ok (.iconst 0, 1) := dk_3 dg_cX3_bestTurning_1214.2.2.2.2.1
theorem dX3_bestTurning_5 : decode cX3_bestTurning 5 = .ok (.istore_n 3, 1) := dk_62 dg_cX3_bestTurning_1214.2.2.2.2.2.1
theorem dX3_bestTurning_6 : decode cX3_bestTurning 6 = .ok (.iload_n 3, 1) := dk_29 dg_cX3_bestTurning_1214.2.2.2.2.2.2.1
theorem dX3_bestTurning_7 : decode cX3_bestTurning 7 = .ok (.aload_n 0, 1) := dk_42 dg_cX3_bestTurning_1214.2.2.2.2.2.2.2
theorem dg_cX3_bestTurning_1215 : ck3 cX3_bestTurning 8 180 9 = true ∧ ck3 cX3_bestTurning 11 180 122 = true ∧ ck3s cX3_bestTurning 14 162 65 = true ∧ ck1 cX3_bestTurning 17 42 = true ∧ ck3 cX3_bestTurning 18 180 24 = true ∧ ck1 cX3_bestTurning 21 42 = true ∧ ck3 cX3_bestTurning 22 180 15 = true ∧ ck3 cX3_bestTurning 25 182 27 = true := by decide +kernel
theorem dX3_bestTurning_8 : decode cX3_bestTurning 8 = .ok (.getfield 9, 3) := dk_180 dg_cX3_bestTurning_1215.1
theorem dX3_bestTurning_11 : decode cX3_bestTurning 11 = .ok (.getfield 122, 3) := dk_180 dg_cX3_bestTurning_1215.2.1
theorem dX3_bestTurning_14 : decode cX3_bestTurning 14 = .ok (.if_icmp .ge 65, 3) := dk_162 dg_cX3_bestTurning_1215.2.2.1
theorem dX3_bestTurning_17 : decode cX3_bestTurning 17 = .ok (.aload_n 0, 1) := dk_42 dg_cX3_bestTurning_1215.2.2.2.1
theorem dX3_bestTurning_18 : decode cX3_bestTurning 18 = .ok (.getfield 24, 3) := dk_180 dg_cX3_bestTurning_1215.2.2.2.2.1
theorem dX3_bestTurning_21 : decode cX3_bestTurning 21 = .ok (.aload_n 0, 1) := dk_42 dg_cX3_bestTurning_1215.2.2.2.2.2.1
theorem dX3_bestTurning_22 : decode cX3_bestTurning 22 = .ok (.getfield 15, 3) := dk_180 dg_cX3_bestTurning_1215.2.2.2.2.2.2.1
theorem dX3_bestTurning_25 : decode cX3_bestTurning 25 = .ok (.invokevirtual 27, 3) := dk_182 dg_cX3_bestTurning_1215.2.2.2.2.2.2.2
theorem dg_cX3_bestTurning_1216 : ck1 cX3_bestTurning 28 42 = true ∧ ck3 cX3_bestTurning 29 180 24 = true ∧ ck1 cX3_bestTurning 32 6 = true ∧ ck1 cX3_bestTurning 33 29 = true ∧ ck1 cX3_bestTurning 34 3 = true ∧ ck3 cX3_bestTurning 35 182 125 = true ∧ ck1 cX3_bestTurning 38 42 = true ∧ ck3 cX3_bestTurning 39 180 24 = true := by decide +kernel
theorem dX3_bestTurning_28 : decode cX3_bestTurning 28 = .ok (.aload_n 0, 1) := dk_42 dg_cX3_bestTurning_1216.1
theorem dX3_bestTurning_29 : decode cX3_bestTurning 29 = .ok (.getfield 24, 3) := dk_180 dg_cX3_bestTurning_1216.2.1
theorem dX3_bestTurning_32 : decode cX3_bestTurning 32 = .ok (.iconst 3, 1) := dk_6 dg_cX3_bestTurning_1216.2.2.1
theorem dX3_bestTurning_33 : decode cX3_bestTurning 33 = .ok (.iload_n 3, 1) := dk_29 dg_cX3_bestTurning_1216.2.2.2.1
theorem dX3_bestTurning_34 : decode cX3_bestTurning 34 = .ok (.iconst 0, 1) := dk_3 dg_cX3_bestTurning_1216.2.2.2.2.1
theorem dX3_bestTurning_35 : decode cX3_bestTurning 35 = .ok (.invokevirtual 125, 3) := dk_182 dg_cX3_bestTurning_1216.2.2.2.2.2.1
theorem dX3_bestTurning_38 : decode cX3_bestTurning 38 = .ok (.aload_n 0, 1) := dk_42 dg_cX3_bestTurning_1216.2.2.2.2.2.2.1
theorem dX3_bestTurning_39 : decode cX3_bestTurning 39 = .ok (.getfield 24, 3) := dk_180 dg_cX3_bestTurning_1216.2.2.2.2.2.2.2
theorem dg_cX3_bestTurning_1217 : ck3 cX3_bestTurning 42 182 102 = true ∧ ck3 cX3_bestTurning 45 184 105 = true ∧ ck2 cX3_bestTurning 48 54 4 = true ∧ ck1 cX3_bestTurning 50 42 = true ∧ ck3 cX3_bestTurning 51 180 15 = true ∧ ck1 cX3_bestTurning 54 7 = true ∧ ck1 cX3_bestTurning 55 29 = true ∧ ck3 cX3_bestTurning 56 182 52 = true := by decide +kernel
theorem dX3_bestTurning_42 : decode cX3_bestTurning 42 = .ok (.invokevirtual 102, 3) := dk_182 dg_cX3_bestTurning_1217.1
theorem dX3_bestTurning_45 : decode cX3_bestTurning 45 = .ok (.invokestatic 105, 3) := dk_184 dg_cX3_bestTurning_1217.2.1
theorem dX3_bestTurning_48 : decode cX3_bestTurning 48 = .ok (.istore 4, 2) := dk_54 dg_cX3_bestTurning_1217.2.2.1
theorem dX3_bestTurning_50 : decode cX3_bestTurning 50 = .ok (.aload_n 0, 1) := dk_42 dg_cX3_bestTurning_1217.2.2.2.1
theorem dX3_bestTurning_51 : decode cX3_bestTurning 51 = .ok (.getfield 15, 3) := dk_180 dg_cX3_bestTurning_1217.2.2.2.2.1
theorem dX3_bestTurning_54 : decode cX3_bestTurning 54 = .ok (.iconst 4, 1) := dk_7 dg_cX3_bestTurning_1217.2.2.2.2.2.1
theorem dX3_bestTurning_55 : decode cX3_bestTurning 55 = .ok (.iload_n 3, 1) := dk_29 dg_cX3_bestTurning_1217.2.2.2.2.2.2.1
theorem dX3_bestTurning_56 : decode cX3_bestTurning 56 = .ok (.invokevirtual 52, 3) := dk_182 dg_cX3_bestTurning_1217.2.2.2.2.2.2.2
theorem dg_cX3_bestTurning_1218 : ck3s cX3_bestTurning 59 154 14 = true ∧ ck2 cX3_bestTurning 62 21 4 = true := by decide +kernel
theorem dX3_bestTurning_59 : decode cX3_bestTurning 59 = .ok (.ifCond .ne 14, 3) := dk_154 dg_cX3_bestTurning_1218.1
theorem dX3_bestTurning_62 : decode cX3_bestTurning 62 = .ok (.iload 4, 2) := dk_21 dg_cX3_bestTurning_1218.2
def dS_cX3_bestTurning_1 : List UInt8 := 28 :: 164 :: 0 :: 8 :: 29 :: 60 :: 21 :: 4 :: 61 :: 132 :: 3 :: 1 :: 167 :: 255 :: 186 :: 27 :: 172 :: []
def dS_cX3_bestTurning_0 : List UInt8 := 2 :: 60 :: 2 :: 61 :: 3 :: 62 :: 29 :: 42 :: 180 :: 0 :: 9 :: 180 :: 0 :: 122 :: 162 :: 0 :: 65 :: 42 :: 180 :: 0 :: 24 :: 42 :: 180 :: 0 :: 15 :: 182 :: 0 :: 27 :: 42 :: 180 :: 0 :: 24 :: 6 :: 29 :: 3 :: 182 :: 0 :: 125 :: 42 :: 180 :: 0 :: 24 :: 182 :: 0 :: 102 :: 184 :: 0 :: 105 :: 54 :: 4 :: 42 :: 180 :: 0 :: 15 :: 7 :: 29 :: 182 :: 0 :: 52 :: 154 :: 0 :: 14 :: 21 :: 4 :: dS_cX3_bestTurning_1
theorem dT_cX3_bestTurning_0 : cX3_bestTurning.data.toList.drop 0 = dS_cX3_bestTurning_0 := by decide +kernel
theorem dT_cX3_bestTurning_1 : cX3_bestTurning.data.toList.drop 64 = dS_cX3_bestTurning_1 := ck_nx dT_cX3_bestTurning_0 (by decide +kernel) rfl
theorem dg_cX3_bestTurning_1219 : ck1L dS_cX3_bestTurning_1 0 28 = true ∧ ck3sL dS_cX3_bestTurning_1 1 164 8 = true ∧ ck1L dS_cX3_bestTurning_1 4 29 = true ∧ ck1L dS_cX3_bestTurning_1 5 60 = true ∧ ck2L dS_cX3_bestTurning_1 6 21 4 = true ∧ ck1L dS_cX3_bestTurning_1 8 61 = true ∧ ck3iL dS_cX3_bestTurning_1 9 132 3 1 = true ∧ ck3sL dS_cX3_bestTurning_1 12 167 (-70) = true := by decide +kernel
theorem dX3_bestTurning_64 : decode cX3_bestTurning 64 = .ok (.iload_n 2, 1) := dk_28 (ck1_s (r := 0) dT_cX3_bestTurning_1 rfl dg_cX3_bestTurning_1219.1)
theorem dX3_bestTurning_65 : decode cX3_bestTurning 65 = .ok (.if_icmp .le 8, 3) := dk_164 (ck3s_s (r := 1) dT_cX3_bestTurning_1 rfl dg_cX3_bestTurning_1219.2.1)
theorem dX3_bestTurning_68 : decode cX3_bestTurning 68 = .ok (.iload_n 3, 1) := dk_29 (ck1_s (r := 4) dT_cX3_bestTurning_1 rfl dg_cX3_bestTurning_1219.2.2.1)
theorem dX3_bestTurning_69 : decode cX3_bestTurning 69 = .ok (.istore_n 1, 1) := dk_60 (ck1_s (r := 5) dT_cX3_bestTurning_1 rfl dg_cX3_bestTurning_1219.2.2.2.1)
theorem dX3_bestTurning_70 : decode cX3_bestTurning 70 = .ok (.iload 4, 2) := dk_21 (ck2_s (r := 6) dT_cX3_bestTurning_1 rfl dg_cX3_bestTurning_1219.2.2.2.2.1)
theorem dX3_bestTurning_72 : decode cX3_bestTurning 72 = .ok (.istore_n 2, 1) := dk_61 (ck1_s (r := 8) dT_cX3_bestTurning_1 rfl dg_cX3_bestTurning_1219.2.2.2.2.2.1)
theorem dX3_bestTurning_73 : decode cX3_bestTurning 73 = .ok (.iinc 3 1, 3) := dk_132 (ck3i_s (r := 9) dT_cX3_bestTurning_1 rfl dg_cX3_bestTurning_1219.2.2.2.2.2.2.1)
theorem dX3_bestTurning_76 : decode cX3_bestTurning 76 = .ok (.goto (-70), 3) := dk_167 (ck3s_s (r := 12) dT_cX3_bestTurning_1 rfl dg_cX3_bestTurning_1219.2.2.2.2.2.2.2)
theorem dg_cX3_bestTurning_1220 : ck1L dS_cX3_bestTurning_1 15 27 = true ∧ ck1L dS_cX3_bestTurning_1 16 172 = true := by decide +kernel
theorem dX3_bestTurning_79 : decode cX3_bestTurning 79 = .ok (.iload_n 1, 1) := dk_27 (ck1_s (r := 15) dT_cX3_bestTurning_1 rfl dg_cX3_bestTurning_1220.1)
theorem dX3_bestTurning_80 : decode cX3_bestTurning 80 = .ok (.ireturn, 1) := dk_172 (ck1_s (r := 16) dT_cX3_bestTurning_1 rfl dg_cX3_bestTurning_1220.2)
theorem dg_cX3_changedCount_1221 : ck1 cX3_changedCount 0 3 = true ∧ ck1 cX3_changedCount 1 62 = true ∧ ck1 cX3_changedCount 2 3 = true ∧ ck2 cX3_changedCount 3 54 4 = true ∧ ck2 cX3_changedCount 5 21 4 = true ∧ ck1 cX3_changedCount 7 42 = true ∧ ck3 cX3_changedCount 8 180 9 = true ∧ ck3 cX3_changedCount 11 180 92 = true := by decide +kernel
theorem dX3_changedCount_0 : decode cX3_changedCount 0 = .ok (.iconst 0, 1) := dk_3 dg_cX3_changedCount_1221.1
theorem dX3_changedCount_1 : decode cX3_changedCount 1 = .ok (.istore_n 3, 1) := dk_62 dg_cX3_changedCount_1221.2.1
theorem dX3_changedCount_2 : decode cX3_changedCount 2 = .ok (.iconst 0, 1) := dk_3 dg_cX3_changedCount_1221.2.2.1
theorem dX3_changedCount_3 : decode cX3_changedCount 3 = .ok (.istore 4, 2) := dk_54 dg_cX3_changedCount_1221.2.2.2.1
theorem dX3_changedCount_5 : decode cX3_changedCount 5 = .ok (.iload 4, 2) := dk_21 dg_cX3_changedCount_1221.2.2.2.2.1
theorem dX3_changedCount_7 : decode cX3_changedCount 7 = .ok (.aload_n 0, 1) := dk_42 dg_cX3_changedCount_1221.2.2.2.2.2.1
theorem dX3_changedCount_8 : decode cX3_changedCount 8 = .ok (.getfield 9, 3) := dk_180 dg_cX3_changedCount_1221.2.2.2.2.2.2.1
theorem dX3_changedCount_11 : decode cX3_changedCount 11 = .ok (.getfield 92, 3) := dk_180 dg_cX3_changedCount_1221.2.2.2.2.2.2.2
theorem dg_cX3_changedCount_1222 : ck3s cX3_changedCount 14 162 57 = true ∧ ck2 cX3_changedCount 17 21 4 = true ∧ ck1 cX3_changedCount 19 27 = true ∧ ck3s cX3_changedCount 20 160 7 = true ∧ ck1 cX3_changedCount 23 28 = true ∧ ck3s cX3_changedCount 24 167 15 = true ∧ ck2 cX3_changedCount 27 21 4 = true ∧ ck1 cX3_changedCount 29 28 = true := by decide +kernel
theorem dX3_changedCount_14 : decode cX3_changedCount 14 = .ok (.if_icmp .ge 57, 3) := dk_162 dg_cX3_changedCount_1222.1
theorem dX3_changedCount_17 : decode cX3_changedCount 17 = .ok (.iload 4, 2) := dk_21 dg_cX3_changedCount_1222.2.1
theorem dX3_changedCount_19 : decode cX3_changedCount 19 = .ok (.iload_n 1, 1) := dk_27 dg_cX3_changedCount_1222.2.2.1
theorem dX3_changedCount_20 : decode cX3_changedCount 20 = .ok (.if_icmp .ne 7, 3) := dk_160 dg_cX3_changedCount_1222.2.2.2.1
theorem dX3_changedCount_23 : decode cX3_changedCount 23 = .ok (.iload_n 2, 1) := dk_28 dg_cX3_changedCount_1222.2.2.2.2.1
theorem dX3_changedCount_24 : decode cX3_changedCount 24 = .ok (.goto 15, 3) := dk_167 dg_cX3_changedCount_1222.2.2.2.2.2.1
theorem dX3_changedCount_27 : decode cX3_changedCount 27 = .ok (.iload 4, 2) := dk_21 dg_cX3_changedCount_1222.2.2.2.2.2.2.1
theorem dX3_changedCount_29 : decode cX3_changedCount 29 = .ok (.iload_n 2, 1) := dk_28 dg_cX3_changedCount_1222.2.2.2.2.2.2.2
theorem dg_cX3_changedCount_1223 : ck3s cX3_changedCount 30 160 7 = true ∧ ck1 cX3_changedCount 33 27 = true ∧ ck3s cX3_changedCount 34 167 5 = true ∧ ck2 cX3_changedCount 37 21 4 = true ∧ ck2 cX3_changedCount 39 54 5 = true ∧ ck1 cX3_changedCount 41 42 = true ∧ ck3 cX3_changedCount 42 180 15 = true ∧ ck2 cX3_changedCount 45 21 4 = true := by decide +kernel
theorem dX3_changedCount_30 : decode cX3_changedCount 30 = .ok (.if_icmp .ne 7, 3) := dk_160 dg_cX3_changedCount_1223.1
theorem dX3_changedCount_33 : decode cX3_changedCount 33 = .ok (.iload_n 1, 1) := dk_27 dg_cX3_changedCount_1223.2.1
theorem dX3_changedCount_34 : decode cX3_changedCount 34 = .ok (.goto 5, 3) := dk_167 dg_cX3_changedCount_1223.2.2.1
theorem dX3_changedCount_37 : decode cX3_changedCount 37 = .ok (.iload 4, 2) := dk_21 dg_cX3_changedCount_1223.2.2.2.1
theorem dX3_changedCount_39 : decode cX3_changedCount 39 = .ok (.istore 5, 2) := dk_54 dg_cX3_changedCount_1223.2.2.2.2.1
theorem dX3_changedCount_41 : decode cX3_changedCount 41 = .ok (.aload_n 0, 1) := dk_42 dg_cX3_changedCount_1223.2.2.2.2.2.1
theorem dX3_changedCount_42 : decode cX3_changedCount 42 = .ok (.getfield 15, 3) := dk_180 dg_cX3_changedCount_1223.2.2.2.2.2.2.1
theorem dX3_changedCount_45 : decode cX3_changedCount 45 = .ok (.iload 4, 2) := dk_21 dg_cX3_changedCount_1223.2.2.2.2.2.2.2
theorem dg_cX3_changedCount_1224 : ck1 cX3_changedCount 47 42 = true ∧ ck3 cX3_changedCount 48 180 15 = true ∧ ck2 cX3_changedCount 51 21 5 = true ∧ ck3 cX3_changedCount 53 182 35 = true ∧ ck3 cX3_changedCount 56 182 98 = true ∧ ck3s cX3_changedCount 59 153 6 = true ∧ ck3i cX3_changedCount 62 132 3 1 = true := by decide +kernel
theorem dX3_changedCount_47 : decode cX3_changedCount 47 = .ok (.aload_n 0, 1) := dk_42 dg_cX3_changedCount_1224.1
theorem dX3_changedCount_48 : decode cX3_changedCount 48 = .ok (.getfield 15, 3) := dk_180 dg_cX3_changedCount_1224.2.1
theorem dX3_changedCount_51 : decode cX3_changedCount 51 = .ok (.iload 5, 2) := dk_21 dg_cX3_changedCount_1224.2.2.1
theorem dX3_changedCount_53 : decode cX3_changedCount 53 = .ok (.invokevirtual 35, 3) := dk_182 dg_cX3_changedCount_1224.2.2.2.1
theorem dX3_changedCount_56 : decode cX3_changedCount 56 = .ok (.invokevirtual 98, 3) := dk_182 dg_cX3_changedCount_1224.2.2.2.2.1
theorem dX3_changedCount_59 : decode cX3_changedCount 59 = .ok (.ifCond .eq 6, 3) := dk_153 dg_cX3_changedCount_1224.2.2.2.2.2.1
theorem dX3_changedCount_62 : decode cX3_changedCount 62 = .ok (.iinc 3 1, 3) := dk_132 dg_cX3_changedCount_1224.2.2.2.2.2.2
def dS_cX3_changedCount_1 : List UInt8 := 1 :: 132 :: 4 :: 1 :: 167 :: 255 :: 193 :: 29 :: 172 :: []
def dS_cX3_changedCount_0 : List UInt8 := 3 :: 62 :: 3 :: 54 :: 4 :: 21 :: 4 :: 42 :: 180 :: 0 :: 9 :: 180 :: 0 :: 92 :: 162 :: 0 :: 57 :: 21 :: 4 :: 27 :: 160 :: 0 :: 7 :: 28 :: 167 :: 0 :: 15 :: 21 :: 4 :: 28 :: 160 :: 0 :: 7 :: 27 :: 167 :: 0 :: 5 :: 21 :: 4 :: 54 :: 5 :: 42 :: 180 :: 0 :: 15 :: 21 :: 4 :: 42 :: 180 :: 0 :: 15 :: 21 :: 5 :: 182 :: 0 :: 35 :: 182 :: 0 :: 98 :: 153 :: 0 :: 6 :: 132 :: 3 :: dS_cX3_changedCount_1
theorem dT_cX3_changedCount_0 : cX3_changedCount.data.toList.drop 0 = dS_cX3_changedCount_0 := by decide +kernel
theorem dT_cX3_changedCount_1 : cX3_changedCount.data.toList.drop 64 = dS_cX3_changedCount_1 := ck_nx dT_cX3_changedCount_0 (by decide +kernel) rfl
theorem dg_cX3_changedCount_1225 : ck3iL dS_cX3_changedCount_1 1 132 4 1 = true ∧ ck3sL dS_cX3_changedCount_1 4 167 (-63) = true ∧ ck1L dS_cX3_changedCount_1 7 29 = true ∧ ck1L dS_cX3_changedCount_1 8 172 = true := by decide +kernel
theorem dX3_changedCount_65 : decode cX3_changedCount 65 = .ok (.iinc 4 1, 3) := dk_132 (ck3i_s (r := 1) dT_cX3_changedCount_1 rfl dg_cX3_changedCount_1225.1)
theorem dX3_changedCount_68 : decode cX3_changedCount 68 = .ok (.goto (-63), 3) := dk_167 (ck3s_s (r := 4) dT_cX3_changedCount_1 rfl dg_cX3_changedCount_1225.2.1)
theorem dX3_changedCount_71 : decode cX3_changedCount 71 = .ok (.iload_n 3, 1) := dk_29 (ck1_s (r := 7) dT_cX3_changedCount_1 rfl dg_cX3_changedCount_1225.2.2.1)
theorem dX3_changedCount_72 : decode cX3_changedCount 72 = .ok (.ireturn, 1) := dk_172 (ck1_s (r := 8) dT_cX3_changedCount_1 rfl dg_cX3_changedCount_1225.2.2.2)
theorem dg_cX3_coatBehind_1226 : ck1 cX3_coatBehind 0 42 = true ∧ ck3 cX3_coatBehind 1 180 24 = true ∧ ck1 cX3_coatBehind 4 42 = true ∧ ck3 cX3_coatBehind 5 180 15 = true ∧ ck3 cX3_coatBehind 8 182 27 = true ∧ ck1 cX3_coatBehind 11 3 = true ∧ ck2 cX3_coatBehind 12 54 4 = true ∧ ck2 cX3_coatBehind 14 21 4 = true := by decide +kernel
theorem dX3_coatBehind_0 : decode cX3_coatBehind 0 = .ok (.aload_n 0, 1) := dk_42 dg_cX3_coatBehind_1226.1
theorem dX3_coatBehind_1 : decode cX3_coatBehind 1 = .ok (.getfield 24, 3) := dk_180 dg_cX3_coatBehind_1226.2.1
theorem dX3_coatBehind_4 : decode cX3_coatBehind 4 = .ok (.aload_n 0, 1) := dk_42 dg_cX3_coatBehind_1226.2.2.1
theorem dX3_coatBehind_5 : decode cX3_coatBehind 5 = .ok (.getfield 15, 3) := dk_180 dg_cX3_coatBehind_1226.2.2.2.1
theorem dX3_coatBehind_8 : decode cX3_coatBehind 8 = .ok (.invokevirtual 27, 3) := dk_182 dg_cX3_coatBehind_1226.2.2.2.2.1
theorem dX3_coatBehind_11 : decode cX3_coatBehind 11 = .ok (.iconst 0, 1) := dk_3 dg_cX3_coatBehind_1226.2.2.2.2.2.1
theorem dX3_coatBehind_12 : decode cX3_coatBehind 12 = .ok (.istore 4, 2) := dk_54 dg_cX3_coatBehind_1226.2.2.2.2.2.2.1
theorem dX3_coatBehind_14 : decode cX3_coatBehind 14 = .ok (.iload 4, 2) := dk_21 dg_cX3_coatBehind_1226.2.2.2.2.2.2.2
theorem dg_cX3_coatBehind_1227 : ck1 cX3_coatBehind 16 28 = true ∧ ck3s cX3_coatBehind 17 162 18 = true ∧ ck1 cX3_coatBehind 20 42 = true ∧ ck3 cX3_coatBehind 21 180 24 = true ∧ ck1 cX3_coatBehind 24 29 = true ∧ ck3 cX3_coatBehind 25 182 31 = true ∧ ck1 cX3_coatBehind 28 87 = true ∧ ck3i cX3_coatBehind 29 132 4 1 = true := by decide +kernel
theorem dX3_coatBehind_16 : decode cX3_coatBehind 16 = .ok (.iload_n 2, 1) := dk_28 dg_cX3_coatBehind_1227.1
theorem dX3_coatBehind_17 : decode cX3_coatBehind 17 = .ok (.if_icmp .ge 18, 3) := dk_162 dg_cX3_coatBehind_1227.2.1
theorem dX3_coatBehind_20 : decode cX3_coatBehind 20 = .ok (.aload_n 0, 1) := dk_42 dg_cX3_coatBehind_1227.2.2.1
theorem dX3_coatBehind_21 : decode cX3_coatBehind 21 = .ok (.getfield 24, 3) := dk_180 dg_cX3_coatBehind_1227.2.2.2.1
theorem dX3_coatBehind_24 : decode cX3_coatBehind 24 = .ok (.iload_n 3, 1) := dk_29 dg_cX3_coatBehind_1227.2.2.2.2.1
theorem dX3_coatBehind_25 : decode cX3_coatBehind 25 = .ok (.invokevirtual 31, 3) := dk_182 dg_cX3_coatBehind_1227.2.2.2.2.2.1
theorem dX3_coatBehind_28 : decode cX3_coatBehind 28 = .ok (.pop, 1) := dk_87 dg_cX3_coatBehind_1227.2.2.2.2.2.2.1
theorem dX3_coatBehind_29 : decode cX3_coatBehind 29 = .ok (.iinc 4 1, 3) := dk_132 dg_cX3_coatBehind_1227.2.2.2.2.2.2.2
theorem dg_cX3_coatBehind_1228 : ck3s cX3_coatBehind 32 167 (-18) = true ∧ ck1 cX3_coatBehind 35 42 = true ∧ ck3 cX3_coatBehind 36 180 24 = true ∧ ck1 cX3_coatBehind 39 27 = true ∧ ck3 cX3_coatBehind 40 182 35 = true ∧ ck1 cX3_coatBehind 43 172 = true := by decide +kernel
theorem dX3_coatBehind_32 : decode cX3_coatBehind 32 = .ok (.goto (-18), 3) := dk_167 dg_cX3_coatBehind_1228.1
theorem dX3_coatBehind_35 : decode cX3_coatBehind 35 = .ok (.aload_n 0, 1) := dk_42 dg_cX3_coatBehind_1228.2.1
theorem dX3_coatBehind_36 : decode cX3_coatBehind 36 = .ok (.getfield 24, 3) := dk_180 dg_cX3_coatBehind_1228.2.2.1
theorem dX3_coatBehind_39 : decode cX3_coatBehind 39 = .ok (.iload_n 1, 1) := dk_27 dg_cX3_coatBehind_1228.2.2.2.1
theorem dX3_coatBehind_40 : decode cX3_coatBehind 40 = .ok (.invokevirtual 35, 3) := dk_182 dg_cX3_coatBehind_1228.2.2.2.2.1
theorem dX3_coatBehind_43 : decode cX3_coatBehind 43 = .ok (.ireturn, 1) := dk_172 dg_cX3_coatBehind_1228.2.2.2.2.2
theorem dg_cX3_daysTillOut_1229 : ck1 cX3_daysTillOut 0 42 = true ∧ ck3 cX3_daysTillOut 1 180 24 = true ∧ ck1 cX3_daysTillOut 4 42 = true ∧ ck3 cX3_daysTillOut 5 180 15 = true ∧ ck3 cX3_daysTillOut 8 182 27 = true ∧ ck1 cX3_daysTillOut 11 3 = true ∧ ck1 cX3_daysTillOut 12 61 = true ∧ ck1 cX3_daysTillOut 13 28 = true := by decide +kernel
theorem dX3_daysTillOut_0 : decode cX3_daysTillOut 0 = .ok (.aload_n 0, 1) := dk_42 dg_cX3_daysTillOut_1229.1
theorem dX3_daysTillOut_1 : decode cX3_daysTillOut 1 = .ok (.getfield 24, 3) := dk_180 dg_cX3_daysTillOut_1229.2.1
theorem dX3_daysTillOut_4 : decode cX3_daysTillOut 4 = .ok (.aload_n 0, 1) := dk_42 dg_cX3_daysTillOut_1229.2.2.1
theorem dX3_daysTillOut_5 : decode cX3_daysTillOut 5 = .ok (.getfield 15, 3) := dk_180 dg_cX3_daysTillOut_1229.2.2.2.1
theorem dX3_daysTillOut_8 : decode cX3_daysTillOut 8 = .ok (.invokevirtual 27, 3) := dk_182 dg_cX3_daysTillOut_1229.2.2.2.2.1
theorem dX3_daysTillOut_11 : decode cX3_daysTillOut 11 = .ok (.iconst 0, 1) := dk_3 dg_cX3_daysTillOut_1229.2.2.2.2.2.1
theorem dX3_daysTillOut_12 : decode cX3_daysTillOut 12 = .ok (.istore_n 2, 1) := dk_61 dg_cX3_daysTillOut_1229.2.2.2.2.2.2.1
theorem dX3_daysTillOut_13 : decode cX3_daysTillOut 13 = .ok (.iload_n 2, 1) := dk_28 dg_cX3_daysTillOut_1229.2.2.2.2.2.2.2
theorem dg_cX3_daysTillOut_1230 : ck2s cX3_daysTillOut 14 16 60 = true ∧ ck3s cX3_daysTillOut 16 163 32 = true ∧ ck1 cX3_daysTillOut 19 42 = true ∧ ck3 cX3_daysTillOut 20 180 24 = true ∧ ck1 cX3_daysTillOut 23 27 = true ∧ ck3 cX3_daysTillOut 24 182 35 = true ∧ ck1 cX3_daysTillOut 27 2 = true ∧ ck3s cX3_daysTillOut 28 160 5 = true := by decide +kernel
theorem dX3_daysTillOut_14 : decode cX3_daysTillOut 14 = .ok (.bipush 60, 2) := dk_16 dg_cX3_daysTillOut_1230.1
theorem dX3_daysTillOut_16 : decode cX3_daysTillOut 16 = .ok (.if_icmp .gt 32, 3) := dk_163 dg_cX3_daysTillOut_1230.2.1
theorem dX3_daysTillOut_19 : decode cX3_daysTillOut 19 = .ok (.aload_n 0, 1) := dk_42 dg_cX3_daysTillOut_1230.2.2.1
theorem dX3_daysTillOut_20 : decode cX3_daysTillOut 20 = .ok (.getfield 24, 3) := dk_180 dg_cX3_daysTillOut_1230.2.2.2.1
theorem dX3_daysTillOut_23 : decode cX3_daysTillOut 23 = .ok (.iload_n 1, 1) := dk_27 dg_cX3_daysTillOut_1230.2.2.2.2.1
theorem dX3_daysTillOut_24 : decode cX3_daysTillOut 24 = .ok (.invokevirtual 35, 3) := dk_182 dg_cX3_daysTillOut_1230.2.2.2.2.2.1
theorem dX3_daysTillOut_27 : decode cX3_daysTillOut 27 = .ok (.iconst (-1), 1) := dk_2 dg_cX3_daysTillOut_1230.2.2.2.2.2.2.1
theorem dX3_daysTillOut_28 : decode cX3_daysTillOut 28 = .ok (.if_icmp .ne 5, 3) := dk_160 dg_cX3_daysTillOut_1230.2.2.2.2.2.2.2
theorem dg_cX3_daysTillOut_1231 : ck1 cX3_daysTillOut 31 28 = true ∧ ck1 cX3_daysTillOut 32 172 = true ∧ ck1 cX3_daysTillOut 33 42 = true ∧ ck3 cX3_daysTillOut 34 180 24 = true ∧ ck1 cX3_daysTillOut 37 3 = true ∧ ck3 cX3_daysTillOut 38 182 31 = true ∧ ck1 cX3_daysTillOut 41 87 = true ∧ ck3i cX3_daysTillOut 42 132 2 1 = true := by decide +kernel
theorem dX3_daysTillOut_31 : decode cX3_daysTillOut 31 = .ok (.iload_n 2, 1) := dk_28 dg_cX3_daysTillOut_1231.1
theorem dX3_daysTillOut_32 : decode cX3_daysTillOut 32 = .ok (.ireturn, 1) := dk_172 dg_cX3_daysTillOut_1231.2.1
theorem dX3_daysTillOut_33 : decode cX3_daysTillOut 33 = .ok (.aload_n 0, 1) := dk_42 dg_cX3_daysTillOut_1231.2.2.1
theorem dX3_daysTillOut_34 : decode cX3_daysTillOut 34 = .ok (.getfield 24, 3) := dk_180 dg_cX3_daysTillOut_1231.2.2.2.1
theorem dX3_daysTillOut_37 : decode cX3_daysTillOut 37 = .ok (.iconst 0, 1) := dk_3 dg_cX3_daysTillOut_1231.2.2.2.2.1
theorem dX3_daysTillOut_38 : decode cX3_daysTillOut 38 = .ok (.invokevirtual 31, 3) := dk_182 dg_cX3_daysTillOut_1231.2.2.2.2.2.1
theorem dX3_daysTillOut_41 : decode cX3_daysTillOut 41 = .ok (.pop, 1) := dk_87 dg_cX3_daysTillOut_1231.2.2.2.2.2.2.1
theorem dX3_daysTillOut_42 : decode cX3_daysTillOut 42 = .ok (.iinc 2 1, 3) := dk_132 dg_cX3_daysTillOut_1231.2.2.2.2.2.2.2
theorem dg_cX3_daysTillOut_1232 : ck3s cX3_daysTillOut 45 167 (-32) = true ∧ ck1 cX3_daysTillOut 48 2 = true ∧ ck1 cX3_daysTillOut 49 172 = true := by decide +kernel
theorem dX3_daysTillOut_45 : decode cX3_daysTillOut 45 = .ok (.goto (-32), 3) := dk_167 dg_cX3_daysTillOut_1232.1
theorem dX3_daysTillOut_48 : decode cX3_daysTillOut 48 = .ok (.iconst (-1), 1) := dk_2 dg_cX3_daysTillOut_1232.2.1
theorem dX3_daysTillOut_49 : decode cX3_daysTillOut 49 = .ok (.ireturn, 1) := dk_172 dg_cX3_daysTillOut_1232.2.2
theorem dg_cX3_daysTillRout_1233 : ck1 cX3_daysTillRout 0 42 = true ∧ ck3 cX3_daysTillRout 1 180 24 = true ∧ ck1 cX3_daysTillRout 4 42 = true ∧ ck3 cX3_daysTillRout 5 180 15 = true ∧ ck3 cX3_daysTillRout 8 182 27 = true ∧ ck1 cX3_daysTillRout 11 3 = true ∧ ck1 cX3_daysTillRout 12 60 = true ∧ ck1 cX3_daysTillRout 13 27 = true := by decide +kernel
theorem dX3_daysTillRout_0 : decode cX3_daysTillRout 0 = .ok (.aload_n 0, 1) := dk_42 dg_cX3_daysTillRout_1233.1
theorem dX3_daysTillRout_1 : decode cX3_daysTillRout 1 = .ok (.getfield 24, 3) := dk_180 dg_cX3_daysTillRout_1233.2.1
theorem dX3_daysTillRout_4 : decode cX3_daysTillRout 4 = .ok (.aload_n 0, 1) := dk_42 dg_cX3_daysTillRout_1233.2.2.1
theorem dX3_daysTillRout_5 : decode cX3_daysTillRout 5 = .ok (.getfield 15, 3) := dk_180 dg_cX3_daysTillRout_1233.2.2.2.1
theorem dX3_daysTillRout_8 : decode cX3_daysTillRout 8 = .ok (.invokevirtual 27, 3) := dk_182 dg_cX3_daysTillRout_1233.2.2.2.2.1
theorem dX3_daysTillRout_11 : decode cX3_daysTillRout 11 = .ok (.iconst 0, 1) := dk_3 dg_cX3_daysTillRout_1233.2.2.2.2.2.1
theorem dX3_daysTillRout_12 : decode cX3_daysTillRout 12 = .ok (.istore_n 1, 1) := dk_60 dg_cX3_daysTillRout_1233.2.2.2.2.2.2.1
theorem dX3_daysTillRout_13 : decode cX3_daysTillRout 13 = .ok (.iload_n 1, 1) := dk_27 dg_cX3_daysTillRout_1233.2.2.2.2.2.2.2
theorem dg_cX3_daysTillRout_1234 : ck2s cX3_daysTillRout 14 16 60 = true ∧ ck3s cX3_daysTillRout 16 163 30 = true ∧ ck1 cX3_daysTillRout 19 42 = true ∧ ck3 cX3_daysTillRout 20 180 24 = true ∧ ck3 cX3_daysTillRout 23 182 38 = true ∧ ck3s cX3_daysTillRout 26 154 5 = true ∧ ck1 cX3_daysTillRout 29 27 = true ∧ ck1 cX3_daysTillRout 30 172 = true := by decide +kernel
theorem dX3_daysTillRout_14 : decode cX3_daysTillRout 14 = .ok (.bipush 60, 2) := dk_16 dg_cX3_daysTillRout_1234.1
theorem dX3_daysTillRout_16 : decode cX3_daysTillRout 16 = .ok (.if_icmp .gt 30, 3) := dk_163 dg_cX3_daysTillRout_1234.2.1
theorem dX3_daysTillRout_19 : decode cX3_daysTillRout 19 = .ok (.aload_n 0, 1) := dk_42 dg_cX3_daysTillRout_1234.2.2.1
theorem dX3_daysTillRout_20 : decode cX3_daysTillRout 20 = .ok (.getfield 24, 3) := dk_180 dg_cX3_daysTillRout_1234.2.2.2.1
theorem dX3_daysTillRout_23 : decode cX3_daysTillRout 23 = .ok (.invokevirtual 38, 3) := dk_182 dg_cX3_daysTillRout_1234.2.2.2.2.1
theorem dX3_daysTillRout_26 : decode cX3_daysTillRout 26 = .ok (.ifCond .ne 5, 3) := dk_154 dg_cX3_daysTillRout_1234.2.2.2.2.2.1
theorem dX3_daysTillRout_29 : decode cX3_daysTillRout 29 = .ok (.iload_n 1, 1) := dk_27 dg_cX3_daysTillRout_1234.2.2.2.2.2.2.1
theorem dX3_daysTillRout_30 : decode cX3_daysTillRout 30 = .ok (.ireturn, 1) := dk_172 dg_cX3_daysTillRout_1234.2.2.2.2.2.2.2
theorem dg_cX3_daysTillRout_1235 : ck1 cX3_daysTillRout 31 42 = true ∧ ck3 cX3_daysTillRout 32 180 24 = true ∧ ck1 cX3_daysTillRout 35 3 = true ∧ ck3 cX3_daysTillRout 36 182 31 = true ∧ ck1 cX3_daysTillRout 39 87 = true ∧ ck3i cX3_daysTillRout 40 132 1 1 = true ∧ ck3s cX3_daysTillRout 43 167 (-30) = true ∧ ck1 cX3_daysTillRout 46 2 = true := by decide +kernel
theorem dX3_daysTillRout_31 : decode cX3_daysTillRout 31 = .ok (.aload_n 0, 1) := dk_42 dg_cX3_daysTillRout_1235.1
theorem dX3_daysTillRout_32 : decode cX3_daysTillRout 32 = .ok (.getfield 24, 3) := dk_180 dg_cX3_daysTillRout_1235.2.1
theorem dX3_daysTillRout_35 : decode cX3_daysTillRout 35 = .ok (.iconst 0, 1) := dk_3 dg_cX3_daysTillRout_1235.2.2.1
theorem dX3_daysTillRout_36 : decode cX3_daysTillRout 36 = .ok (.invokevirtual 31, 3) := dk_182 dg_cX3_daysTillRout_1235.2.2.2.1
theorem dX3_daysTillRout_39 : decode cX3_daysTillRout 39 = .ok (.pop, 1) := dk_87 dg_cX3_daysTillRout_1235.2.2.2.2.1
theorem dX3_daysTillRout_40 : decode cX3_daysTillRout 40 = .ok (.iinc 1 1, 3) := dk_132 dg_cX3_daysTillRout_1235.2.2.2.2.2.1
theorem dX3_daysTillRout_43 : decode cX3_daysTillRout 43 = .ok (.goto (-30), 3) := dk_167 dg_cX3_daysTillRout_1235.2.2.2.2.2.2.1
theorem dX3_daysTillRout_46 : decode cX3_daysTillRout 46 = .ok (.iconst (-1), 1) := dk_2 dg_cX3_daysTillRout_1235.2.2.2.2.2.2.2
theorem dg_cX3_daysTillRout_1236 : ck1 cX3_daysTillRout 47 172 = true := by decide +kernel
theorem dX3_daysTillRout_47 : decode cX3_daysTillRout 47 = .ok (.ireturn, 1) := dk_172 dg_cX3_daysTillRout_1236
theorem dg_cX3_findChange_1237 : ck1 cX3_findChange 0 42 = true ∧ ck3 cX3_findChange 1 180 15 = true ∧ ck3 cX3_findChange 4 182 102 = true ∧ ck3 cX3_findChange 7 184 105 = true ∧ ck1 cX3_findChange 10 60 = true ∧ ck1 cX3_findChange 11 42 = true ∧ ck1 cX3_findChange 12 27 = true ∧ ck3 cX3_findChange 13 181 110 = true := by decide +kernel
theorem dX3_findChange_0 : decode cX3_findChange 0 = .ok (.aload_n 0, 1) := dk_42 dg_cX3_findChange_1237.1
theorem dX3_findChange_1 : decode cX3_findChange 1 = .ok (.getfield 15, 3) := dk_180 dg_cX3_findChange_1237.2.1
theorem dX3_findChange_4 : decode cX3_findChange 4 = .ok (.invokevirtual 102, 3) := dk_182 dg_cX3_findChange_1237.2.2.1
theorem dX3_findChange_7 : decode cX3_findChange 7 = .ok (.invokestatic 105, 3) := dk_184 dg_cX3_findChange_1237.2.2.2.1
theorem dX3_findChange_10 : decode cX3_findChange 10 = .ok (.istore_n 1, 1) := dk_60 dg_cX3_findChange_1237.2.2.2.2.1
theorem dX3_findChange_11 : decode cX3_findChange 11 = .ok (.aload_n 0, 1) := dk_42 dg_cX3_findChange_1237.2.2.2.2.2.1
theorem dX3_findChange_12 : decode cX3_findChange 12 = .ok (.iload_n 1, 1) := dk_27 dg_cX3_findChange_1237.2.2.2.2.2.2.1
theorem dX3_findChange_13 : decode cX3_findChange 13 = .ok (.putfield 110, 3) := dk_181 dg_cX3_findChange_1237.2.2.2.2.2.2.2
theorem dg_cX3_findChange_1238 : ck1 cX3_findChange 16 3 = true ∧ ck1 cX3_findChange 17 61 = true ∧ ck1 cX3_findChange 18 28 = true ∧ ck1 cX3_findChange 19 42 = true ∧ ck3 cX3_findChange 20 180 9 = true ∧ ck3 cX3_findChange 23 180 92 = true ∧ ck3s cX3_findChange 26 162 63 = true ∧ ck1 cX3_findChange 29 28 = true := by decide +kernel
theorem dX3_findChange_16 : decode cX3_findChange 16 = .ok (.iconst 0, 1) := dk_3 dg_cX3_findChange_1238.1
theorem dX3_findChange_17 : decode cX3_findChange 17 = .ok (.istore_n 2, 1) := dk_61 dg_cX3_findChange_1238.2.1
theorem dX3_findChange_18 : decode cX3_findChange 18 = .ok (.iload_n 2, 1) := dk_28 dg_cX3_findChange_1238.2.2.1
theorem dX3_findChange_19 : decode cX3_findChange 19 = .ok (.aload_n 0, 1) := dk_42 dg_cX3_findChange_1238.2.2.2.1
theorem dX3_findChange_20 : decode cX3_findChange 20 = .ok (.getfield 9, 3) := dk_180 dg_cX3_findChange_1238.2.2.2.2.1
theorem dX3_findChange_23 : decode cX3_findChange 23 = .ok (.getfield 92, 3) := dk_180 dg_cX3_findChange_1238.2.2.2.2.2.1
theorem dX3_findChange_26 : decode cX3_findChange 26 = .ok (.if_icmp .ge 63, 3) := dk_162 dg_cX3_findChange_1238.2.2.2.2.2.2.1
theorem dX3_findChange_29 : decode cX3_findChange 29 = .ok (.iload_n 2, 1) := dk_28 dg_cX3_findChange_1238.2.2.2.2.2.2.2
theorem dg_cX3_findChange_1239 : ck1 cX3_findChange 30 4 = true ∧ ck1 cX3_findChange 31 96 = true ∧ ck1 cX3_findChange 32 62 = true ∧ ck1 cX3_findChange 33 29 = true ∧ ck1 cX3_findChange 34 42 = true ∧ ck3 cX3_findChange 35 180 9 = true ∧ ck3 cX3_findChange 38 180 92 = true ∧ ck3s cX3_findChange 41 162 42 = true := by decide +kernel
theorem dX3_findChange_30 : decode cX3_findChange 30 = .ok (.iconst 1, 1) := dk_4 dg_cX3_findChange_1239.1
theorem dX3_findChange_31 : decode cX3_findChange 31 = .ok (.iadd, 1) := dk_96 dg_cX3_findChange_1239.2.1
theorem dX3_findChange_32 : decode cX3_findChange 32 = .ok (.istore_n 3, 1) := dk_62 dg_cX3_findChange_1239.2.2.1
theorem dX3_findChange_33 : decode cX3_findChange 33 = .ok (.iload_n 3, 1) := dk_29 dg_cX3_findChange_1239.2.2.2.1
theorem dX3_findChange_34 : decode cX3_findChange 34 = .ok (.aload_n 0, 1) := dk_42 dg_cX3_findChange_1239.2.2.2.2.1
theorem dX3_findChange_35 : decode cX3_findChange 35 = .ok (.getfield 9, 3) := dk_180 dg_cX3_findChange_1239.2.2.2.2.2.1
theorem dX3_findChange_38 : decode cX3_findChange 38 = .ok (.getfield 92, 3) := dk_180 dg_cX3_findChange_1239.2.2.2.2.2.2.1
theorem dX3_findChange_41 : decode cX3_findChange 41 = .ok (.if_icmp .ge 42, 3) := dk_162 dg_cX3_findChange_1239.2.2.2.2.2.2.2
theorem dg_cX3_findChange_1240 : ck1 cX3_findChange 44 42 = true ∧ ck1 cX3_findChange 45 28 = true ∧ ck1 cX3_findChange 46 29 = true ∧ ck3 cX3_findChange 47 182 113 = true ∧ ck2 cX3_findChange 50 54 4 = true ∧ ck2 cX3_findChange 52 21 4 = true ∧ ck1 cX3_findChange 54 42 = true ∧ ck3 cX3_findChange 55 180 110 = true := by decide +kernel
theorem dX3_findChange_44 : decode cX3_findChange 44 = .ok (.aload_n 0, 1) := dk_42 dg_cX3_findChange_1240.1
theorem dX3_findChange_45 : decode cX3_findChange 45 = .ok (.iload_n 2, 1) := dk_28 dg_cX3_findChange_1240.2.1
theorem dX3_findChange_46 : decode cX3_findChange 46 = .ok (.iload_n 3, 1) := dk_29 dg_cX3_findChange_1240.2.2.1
theorem dX3_findChange_47 : decode cX3_findChange 47 = .ok (.invokevirtual 113, 3) := dk_182 dg_cX3_findChange_1240.2.2.2.1
theorem dX3_findChange_50 : decode cX3_findChange 50 = .ok (.istore 4, 2) := dk_54 dg_cX3_findChange_1240.2.2.2.2.1
theorem dX3_findChange_52 : decode cX3_findChange 52 = .ok (.iload 4, 2) := dk_21 dg_cX3_findChange_1240.2.2.2.2.2.1
theorem dX3_findChange_54 : decode cX3_findChange 54 = .ok (.aload_n 0, 1) := dk_42 dg_cX3_findChange_1240.2.2.2.2.2.2.1
theorem dX3_findChange_55 : decode cX3_findChange 55 = .ok (.getfield 110, 3) := dk_180 dg_cX3_findChange_1240.2.2.2.2.2.2.2
theorem dg_cX3_findChange_1241 : ck3s cX3_findChange 58 164 19 = true ∧ ck1 cX3_findChange 61 42 = true ∧ ck1 cX3_findChange 62 28 = true ∧ ck3 cX3_findChange 63 181 116 = true := by decide +kernel
theorem dX3_findChange_58 : decode cX3_findChange 58 = .ok (.if_icmp .le 19, 3) := dk_164 dg_cX3_findChange_1241.1
theorem dX3_findChange_61 : decode cX3_findChange 61 = .ok (.aload_n 0, 1) := dk_42 dg_cX3_findChange_1241.2.1
theorem dX3_findChange_62 : decode cX3_findChange 62 = .ok (.iload_n 2, 1) := dk_28 dg_cX3_findChange_1241.2.2.1
theorem dX3_findChange_63 : decode cX3_findChange 63 = .ok (.putfield 116, 3) := dk_181 dg_cX3_findChange_1241.2.2.2
def dS_cX3_findChange_1 : List UInt8 := 0 :: 116 :: 42 :: 29 :: 181 :: 0 :: 119 :: 42 :: 21 :: 4 :: 181 :: 0 :: 110 :: 132 :: 3 :: 1 :: 167 :: 255 :: 209 :: 132 :: 2 :: 1 :: 167 :: 255 :: 188 :: 42 :: 180 :: 0 :: 110 :: 27 :: 164 :: 0 :: 7 :: 4 :: 167 :: 0 :: 4 :: 3 :: 172 :: []
def dS_cX3_findChange_0 : List UInt8 := 42 :: 180 :: 0 :: 15 :: 182 :: 0 :: 102 :: 184 :: 0 :: 105 :: 60 :: 42 :: 27 :: 181 :: 0 :: 110 :: 3 :: 61 :: 28 :: 42 :: 180 :: 0 :: 9 :: 180 :: 0 :: 92 :: 162 :: 0 :: 63 :: 28 :: 4 :: 96 :: 62 :: 29 :: 42 :: 180 :: 0 :: 9 :: 180 :: 0 :: 92 :: 162 :: 0 :: 42 :: 42 :: 28 :: 29 :: 182 :: 0 :: 113 :: 54 :: 4 :: 21 :: 4 :: 42 :: 180 :: 0 :: 110 :: 164 :: 0 :: 19 :: 42 :: 28 :: 181 :: dS_cX3_findChange_1
theorem dT_cX3_findChange_0 : cX3_findChange.data.toList.drop 0 = dS_cX3_findChange_0 := by decide +kernel
theorem dT_cX3_findChange_1 : cX3_findChange.data.toList.drop 64 = dS_cX3_findChange_1 := ck_nx dT_cX3_findChange_0 (by decide +kernel) rfl
theorem dg_cX3_findChange_1242 : ck1L dS_cX3_findChange_1 2 42 = true ∧ ck1L dS_cX3_findChange_1 3 29 = true ∧ ck3L dS_cX3_findChange_1 4 181 119 = true ∧ ck1L dS_cX3_findChange_1 7 42 = true ∧ ck2L dS_cX3_findChange_1 8 21 4 = true ∧ ck3L dS_cX3_findChange_1 10 181 110 = true ∧ ck3iL dS_cX3_findChange_1 13 132 3 1 = true ∧ ck3sL dS_cX3_findChange_1 16 167 (-47) = true := by decide +kernel
theorem dX3_findChange_66 : decode cX3_findChange 66 = .ok (.aload_n 0, 1) := dk_42 (ck1_s (r := 2) dT_cX3_findChange_1 rfl dg_cX3_findChange_1242.1)
theorem dX3_findChange_67 : decode cX3_findChange 67 = .ok (.iload_n 3, 1) := dk_29 (ck1_s (r := 3) dT_cX3_findChange_1 rfl dg_cX3_findChange_1242.2.1)
theorem dX3_findChange_68 : decode cX3_findChange 68 = .ok (.putfield 119, 3) := dk_181 (ck3_s (r := 4) dT_cX3_findChange_1 rfl dg_cX3_findChange_1242.2.2.1)
theorem dX3_findChange_71 : decode cX3_findChange 71 = .ok (.aload_n 0, 1) := dk_42 (ck1_s (r := 7) dT_cX3_findChange_1 rfl dg_cX3_findChange_1242.2.2.2.1)
theorem dX3_findChange_72 : decode cX3_findChange 72 = .ok (.iload 4, 2) := dk_21 (ck2_s (r := 8) dT_cX3_findChange_1 rfl dg_cX3_findChange_1242.2.2.2.2.1)
theorem dX3_findChange_74 : decode cX3_findChange 74 = .ok (.putfield 110, 3) := dk_181 (ck3_s (r := 10) dT_cX3_findChange_1 rfl dg_cX3_findChange_1242.2.2.2.2.2.1)
theorem dX3_findChange_77 : decode cX3_findChange 77 = .ok (.iinc 3 1, 3) := dk_132 (ck3i_s (r := 13) dT_cX3_findChange_1 rfl dg_cX3_findChange_1242.2.2.2.2.2.2.1)
theorem dX3_findChange_80 : decode cX3_findChange 80 = .ok (.goto (-47), 3) := dk_167 (ck3s_s (r := 16) dT_cX3_findChange_1 rfl dg_cX3_findChange_1242.2.2.2.2.2.2.2)
theorem dg_cX3_findChange_1243 : ck3iL dS_cX3_findChange_1 19 132 2 1 = true ∧ ck3sL dS_cX3_findChange_1 22 167 (-68) = true ∧ ck1L dS_cX3_findChange_1 25 42 = true ∧ ck3L dS_cX3_findChange_1 26 180 110 = true ∧ ck1L dS_cX3_findChange_1 29 27 = true ∧ ck3sL dS_cX3_findChange_1 30 164 7 = true ∧ ck1L dS_cX3_findChange_1 33 4 = true ∧ ck3sL dS_cX3_findChange_1 34 167 4 = true := by decide +kernel
theorem dX3_findChange_83 : decode cX3_findChange 83 = .ok (.iinc 2 1, 3) := dk_132 (ck3i_s (r := 19) dT_cX3_findChange_1 rfl dg_cX3_findChange_1243.1)
theorem dX3_findChange_86 : decode cX3_findChange 86 = .ok (.goto (-68), 3) := dk_167 (ck3s_s (r := 22) dT_cX3_findChange_1 rfl dg_cX3_findChange_1243.2.1)
theorem dX3_findChange_89 : decode cX3_findChange 89 = .ok (.aload_n 0, 1) := dk_42 (ck1_s (r := 25) dT_cX3_findChange_1 rfl dg_cX3_findChange_1243.2.2.1)
theorem dX3_findChange_90 : decode cX3_findChange 90 = .ok (.getfield 110, 3) := dk_180 (ck3_s (r := 26) dT_cX3_findChange_1 rfl dg_cX3_findChange_1243.2.2.2.1)
theorem dX3_findChange_93 : decode cX3_findChange 93 = .ok (.iload_n 1, 1) := dk_27 (ck1_s (r := 29) dT_cX3_findChange_1 rfl dg_cX3_findChange_1243.2.2.2.2.1)
theorem dX3_findChange_94 : decode cX3_findChange 94 = .ok (.if_icmp .le 7, 3) := dk_164 (ck3s_s (r := 30) dT_cX3_findChange_1 rfl dg_cX3_findChange_1243.2.2.2.2.2.1)
theorem dX3_findChange_97 : decode cX3_findChange 97 = .ok (.iconst 1, 1) := dk_4 (ck1_s (r := 33) dT_cX3_findChange_1 rfl dg_cX3_findChange_1243.2.2.2.2.2.2.1)
theorem dX3_findChange_98 : decode cX3_findChange 98 = .ok (.goto 4, 3) := dk_167 (ck3s_s (r := 34) dT_cX3_findChange_1 rfl dg_cX3_findChange_1243.2.2.2.2.2.2.2)
theorem dg_cX3_findChange_1244 : ck1L dS_cX3_findChange_1 37 3 = true ∧ ck1L dS_cX3_findChange_1 38 172 = true := by decide +kernel
theorem dX3_findChange_101 : decode cX3_findChange 101 = .ok (.iconst 0, 1) := dk_3 (ck1_s (r := 37) dT_cX3_findChange_1 rfl dg_cX3_findChange_1244.1)
theorem dX3_findChange_102 : decode cX3_findChange 102 = .ok (.ireturn, 1) := dk_172 (ck1_s (r := 38) dT_cX3_findChange_1 rfl dg_cX3_findChange_1244.2)
theorem dg_cX3_findRota_1245 : ck1 cX3_findRota 0 42 = true ∧ ck1 cX3_findRota 1 3 = true ∧ ck3 cX3_findRota 2 181 86 = true ∧ ck1 cX3_findRota 5 42 = true ∧ ck1 cX3_findRota 6 2 = true ∧ ck3 cX3_findRota 7 181 89 = true ∧ ck1 cX3_findRota 10 3 = true ∧ ck1 cX3_findRota 11 60 = true := by decide +kernel
theorem dX3_findRota_0 : decode cX3_findRota 0 = .ok (.aload_n 0, 1) := dk_42 dg_cX3_findRota_1245.1
theorem dX3_findRota_1 : decode cX3_findRota 1 = .ok (.iconst 0, 1) := dk_3 dg_cX3_findRota_1245.2.1
theorem dX3_findRota_2 : decode cX3_findRota 2 = .ok (.putfield 86, 3) := dk_181 dg_cX3_findRota_1245.2.2.1
theorem dX3_findRota_5 : decode cX3_findRota 5 = .ok (.aload_n 0, 1) := dk_42 dg_cX3_findRota_1245.2.2.2.1
theorem dX3_findRota_6 : decode cX3_findRota 6 = .ok (.iconst (-1), 1) := dk_2 dg_cX3_findRota_1245.2.2.2.2.1
theorem dX3_findRota_7 : decode cX3_findRota 7 = .ok (.putfield 89, 3) := dk_181 dg_cX3_findRota_1245.2.2.2.2.2.1
theorem dX3_findRota_10 : decode cX3_findRota 10 = .ok (.iconst 0, 1) := dk_3 dg_cX3_findRota_1245.2.2.2.2.2.2.1
theorem dX3_findRota_11 : decode cX3_findRota 11 = .ok (.istore_n 1, 1) := dk_60 dg_cX3_findRota_1245.2.2.2.2.2.2.2
theorem dg_cX3_findRota_1246 : ck1 cX3_findRota 12 27 = true ∧ ck1 cX3_findRota 13 42 = true ∧ ck3 cX3_findRota 14 180 9 = true ∧ ck3 cX3_findRota 17 180 92 = true ∧ ck3s cX3_findRota 20 162 33 = true ∧ ck1 cX3_findRota 23 42 = true ∧ ck1 cX3_findRota 24 27 = true ∧ ck3 cX3_findRota 25 182 95 = true := by decide +kernel
theorem dX3_findRota_12 : decode cX3_findRota 12 = .ok (.iload_n 1, 1) := dk_27 dg_cX3_findRota_1246.1
theorem dX3_findRota_13 : decode cX3_findRota 13 = .ok (.aload_n 0, 1) := dk_42 dg_cX3_findRota_1246.2.1
theorem dX3_findRota_14 : decode cX3_findRota 14 = .ok (.getfield 9, 3) := dk_180 dg_cX3_findRota_1246.2.2.1
theorem dX3_findRota_17 : decode cX3_findRota 17 = .ok (.getfield 92, 3) := dk_180 dg_cX3_findRota_1246.2.2.2.1
theorem dX3_findRota_20 : decode cX3_findRota 20 = .ok (.if_icmp .ge 33, 3) := dk_162 dg_cX3_findRota_1246.2.2.2.2.1
theorem dX3_findRota_23 : decode cX3_findRota 23 = .ok (.aload_n 0, 1) := dk_42 dg_cX3_findRota_1246.2.2.2.2.2.1
theorem dX3_findRota_24 : decode cX3_findRota 24 = .ok (.iload_n 1, 1) := dk_27 dg_cX3_findRota_1246.2.2.2.2.2.2.1
theorem dX3_findRota_25 : decode cX3_findRota 25 = .ok (.invokevirtual 95, 3) := dk_182 dg_cX3_findRota_1246.2.2.2.2.2.2.2
theorem dg_cX3_findRota_1247 : ck1 cX3_findRota 28 61 = true ∧ ck1 cX3_findRota 29 28 = true ∧ ck1 cX3_findRota 30 42 = true ∧ ck3 cX3_findRota 31 180 89 = true ∧ ck3s cX3_findRota 34 164 13 = true ∧ ck1 cX3_findRota 37 42 = true ∧ ck1 cX3_findRota 38 27 = true ∧ ck3 cX3_findRota 39 181 86 = true := by decide +kernel
theorem dX3_findRota_28 : decode cX3_findRota 28 = .ok (.istore_n 2, 1) := dk_61 dg_cX3_findRota_1247.1
theorem dX3_findRota_29 : decode cX3_findRota 29 = .ok (.iload_n 2, 1) := dk_28 dg_cX3_findRota_1247.2.1
theorem dX3_findRota_30 : decode cX3_findRota 30 = .ok (.aload_n 0, 1) := dk_42 dg_cX3_findRota_1247.2.2.1
theorem dX3_findRota_31 : decode cX3_findRota 31 = .ok (.getfield 89, 3) := dk_180 dg_cX3_findRota_1247.2.2.2.1
theorem dX3_findRota_34 : decode cX3_findRota 34 = .ok (.if_icmp .le 13, 3) := dk_164 dg_cX3_findRota_1247.2.2.2.2.1
theorem dX3_findRota_37 : decode cX3_findRota 37 = .ok (.aload_n 0, 1) := dk_42 dg_cX3_findRota_1247.2.2.2.2.2.1
theorem dX3_findRota_38 : decode cX3_findRota 38 = .ok (.iload_n 1, 1) := dk_27 dg_cX3_findRota_1247.2.2.2.2.2.2.1
theorem dX3_findRota_39 : decode cX3_findRota 39 = .ok (.putfield 86, 3) := dk_181 dg_cX3_findRota_1247.2.2.2.2.2.2.2
theorem dg_cX3_findRota_1248 : ck1 cX3_findRota 42 42 = true ∧ ck1 cX3_findRota 43 28 = true ∧ ck3 cX3_findRota 44 181 89 = true ∧ ck3i cX3_findRota 47 132 1 1 = true ∧ ck3s cX3_findRota 50 167 (-38) = true ∧ ck1 cX3_findRota 53 177 = true := by decide +kernel
theorem dX3_findRota_42 : decode cX3_findRota 42 = .ok (.aload_n 0, 1) := dk_42 dg_cX3_findRota_1248.1
theorem dX3_findRota_43 : decode cX3_findRota 43 = .ok (.iload_n 2, 1) := dk_28 dg_cX3_findRota_1248.2.1
theorem dX3_findRota_44 : decode cX3_findRota 44 = .ok (.putfield 89, 3) := dk_181 dg_cX3_findRota_1248.2.2.1
theorem dX3_findRota_47 : decode cX3_findRota 47 = .ok (.iinc 1 1, 3) := dk_132 dg_cX3_findRota_1248.2.2.2.1
theorem dX3_findRota_50 : decode cX3_findRota 50 = .ok (.goto (-38), 3) := dk_167 dg_cX3_findRota_1248.2.2.2.2.1
theorem dX3_findRota_53 : decode cX3_findRota 53 = .ok (.return_, 1) := dk_177 dg_cX3_findRota_1248.2.2.2.2.2
theorem dg_cX3_findSewing_1249 : ck1 cX3_findSewing 0 3 = true ∧ ck1 cX3_findSewing 1 62 = true ∧ ck1 cX3_findSewing 2 29 = true ∧ ck2s cX3_findSewing 3 16 40 = true ∧ ck3s cX3_findSewing 5 163 73 = true ∧ ck1 cX3_findSewing 8 3 = true ∧ ck1 cX3_findSewing 9 29 = true ∧ ck2s cX3_findSewing 10 16 20 = true := by decide +kernel
theorem dX3_findSewing_0 : decode cX3_findSewing 0 = .ok (.iconst 0, 1) := dk_3 dg_cX3_findSewing_1249.1
theorem dX3_findSewing_1 : decode cX3_findSewing 1 = .ok (.istore_n 3, 1) := dk_62 dg_cX3_findSewing_1249.2.1
theorem dX3_findSewing_2 : decode cX3_findSewing 2 = .ok (.iload_n 3, 1) := dk_29 dg_cX3_findSewing_1249.2.2.1
theorem dX3_findSewing_3 : decode cX3_findSewing 3 = .ok (.bipush 40, 2) := dk_16 dg_cX3_findSewing_1249.2.2.2.1
theorem dX3_findSewing_5 : decode cX3_findSewing 5 = .ok (.if_icmp .gt 73, 3) := dk_163 dg_cX3_findSewing_1249.2.2.2.2.1
theorem dX3_findSewing_8 : decode cX3_findSewing 8 = .ok (.iconst 0, 1) := dk_3 dg_cX3_findSewing_1249.2.2.2.2.2.1
theorem dX3_findSewing_9 : decode cX3_findSewing 9 = .ok (.iload_n 3, 1) := dk_29 dg_cX3_findSewing_1249.2.2.2.2.2.2.1
theorem dX3_findSewing_10 : decode cX3_findSewing 10 = .ok (.bipush 20, 2) := dk_16 dg_cX3_findSewing_1249.2.2.2.2.2.2.2
theorem dg_cX3_findSewing_1250 : ck1 cX3_findSewing 12 100 = true ∧ ck3 cX3_findSewing 13 184 42 = true ∧ ck2 cX3_findSewing 16 54 4 = true ∧ ck2 cX3_findSewing 18 21 4 = true ∧ ck1 cX3_findSewing 20 29 = true ∧ ck3s cX3_findSewing 21 163 51 = true ∧ ck2 cX3_findSewing 24 21 4 = true ∧ ck2s cX3_findSewing 26 16 20 = true := by decide +kernel
theorem dX3_findSewing_12 : decode cX3_findSewing 12 = .ok (.isub, 1) := dk_100 dg_cX3_findSewing_1250.1
theorem dX3_findSewing_13 : decode cX3_findSewing 13 = .ok (.invokestatic 42, 3) := dk_184 dg_cX3_findSewing_1250.2.1
theorem dX3_findSewing_16 : decode cX3_findSewing 16 = .ok (.istore 4, 2) := dk_54 dg_cX3_findSewing_1250.2.2.1
theorem dX3_findSewing_18 : decode cX3_findSewing 18 = .ok (.iload 4, 2) := dk_21 dg_cX3_findSewing_1250.2.2.2.1
theorem dX3_findSewing_20 : decode cX3_findSewing 20 = .ok (.iload_n 3, 1) := dk_29 dg_cX3_findSewing_1250.2.2.2.2.1
theorem dX3_findSewing_21 : decode cX3_findSewing 21 = .ok (.if_icmp .gt 51, 3) := dk_163 dg_cX3_findSewing_1250.2.2.2.2.2.1
theorem dX3_findSewing_24 : decode cX3_findSewing 24 = .ok (.iload 4, 2) := dk_21 dg_cX3_findSewing_1250.2.2.2.2.2.2.1
theorem dX3_findSewing_26 : decode cX3_findSewing 26 = .ok (.bipush 20, 2) := dk_16 dg_cX3_findSewing_1250.2.2.2.2.2.2.2
theorem dg_cX3_findSewing_1251 : ck3s cX3_findSewing 28 163 44 = true ∧ ck1 cX3_findSewing 31 29 = true ∧ ck2 cX3_findSewing 32 21 4 = true ∧ ck1 cX3_findSewing 34 100 = true ∧ ck2 cX3_findSewing 35 54 5 = true ∧ ck1 cX3_findSewing 37 42 = true ∧ ck1 cX3_findSewing 38 27 = true ∧ ck1 cX3_findSewing 39 28 = true := by decide +kernel
theorem dX3_findSewing_28 : decode cX3_findSewing 28 = .ok (.if_icmp .gt 44, 3) := dk_163 dg_cX3_findSewing_1251.1
theorem dX3_findSewing_31 : decode cX3_findSewing 31 = .ok (.iload_n 3, 1) := dk_29 dg_cX3_findSewing_1251.2.1
theorem dX3_findSewing_32 : decode cX3_findSewing 32 = .ok (.iload 4, 2) := dk_21 dg_cX3_findSewing_1251.2.2.1
theorem dX3_findSewing_34 : decode cX3_findSewing 34 = .ok (.isub, 1) := dk_100 dg_cX3_findSewing_1251.2.2.2.1
theorem dX3_findSewing_35 : decode cX3_findSewing 35 = .ok (.istore 5, 2) := dk_54 dg_cX3_findSewing_1251.2.2.2.2.1
theorem dX3_findSewing_37 : decode cX3_findSewing 37 = .ok (.aload_n 0, 1) := dk_42 dg_cX3_findSewing_1251.2.2.2.2.2.1
theorem dX3_findSewing_38 : decode cX3_findSewing 38 = .ok (.iload_n 1, 1) := dk_27 dg_cX3_findSewing_1251.2.2.2.2.2.2.1
theorem dX3_findSewing_39 : decode cX3_findSewing 39 = .ok (.iload_n 2, 1) := dk_28 dg_cX3_findSewing_1251.2.2.2.2.2.2.2
theorem dg_cX3_findSewing_1252 : ck2 cX3_findSewing 40 21 4 = true ∧ ck2 cX3_findSewing 42 21 5 = true ∧ ck3 cX3_findSewing 44 182 48 = true ∧ ck3s cX3_findSewing 47 154 17 = true ∧ ck1 cX3_findSewing 50 42 = true ∧ ck1 cX3_findSewing 51 27 = true ∧ ck1 cX3_findSewing 52 28 = true ∧ ck2 cX3_findSewing 53 21 4 = true := by decide +kernel
theorem dX3_findSewing_40 : decode cX3_findSewing 40 = .ok (.iload 4, 2) := dk_21 dg_cX3_findSewing_1252.1
theorem dX3_findSewing_42 : decode cX3_findSewing 42 = .ok (.iload 5, 2) := dk_21 dg_cX3_findSewing_1252.2.1
theorem dX3_findSewing_44 : decode cX3_findSewing 44 = .ok (.invokevirtual 48, 3) := dk_182 dg_cX3_findSewing_1252.2.2.1
theorem dX3_findSewing_47 : decode cX3_findSewing 47 = .ok (.ifCond .ne 17, 3) := dk_154 dg_cX3_findSewing_1252.2.2.2.1
theorem dX3_findSewing_50 : decode cX3_findSewing 50 = .ok (.aload_n 0, 1) := dk_42 dg_cX3_findSewing_1252.2.2.2.2.1
theorem dX3_findSewing_51 : decode cX3_findSewing 51 = .ok (.iload_n 1, 1) := dk_27 dg_cX3_findSewing_1252.2.2.2.2.2.1
theorem dX3_findSewing_52 : decode cX3_findSewing 52 = .ok (.iload_n 2, 1) := dk_28 dg_cX3_findSewing_1252.2.2.2.2.2.2.1
theorem dX3_findSewing_53 : decode cX3_findSewing 53 = .ok (.iload 4, 2) := dk_21 dg_cX3_findSewing_1252.2.2.2.2.2.2.2
theorem dg_cX3_findSewing_1253 : ck2 cX3_findSewing 55 21 5 = true ∧ ck1 cX3_findSewing 57 116 = true ∧ ck3 cX3_findSewing 58 182 48 = true ∧ ck3s cX3_findSewing 61 153 5 = true := by decide +kernel
theorem dX3_findSewing_55 : decode cX3_findSewing 55 = .ok (.iload 5, 2) := dk_21 dg_cX3_findSewing_1253.1
theorem dX3_findSewing_57 : decode cX3_findSewing 57 = .ok (.ineg, 1) := dk_116 dg_cX3_findSewing_1253.2.1
theorem dX3_findSewing_58 : decode cX3_findSewing 58 = .ok (.invokevirtual 48, 3) := dk_182 dg_cX3_findSewing_1253.2.2.1
theorem dX3_findSewing_61 : decode cX3_findSewing 61 = .ok (.ifCond .eq 5, 3) := dk_153 dg_cX3_findSewing_1253.2.2.2
def dS_cX3_findSewing_1 : List UInt8 := 4 :: 172 :: 132 :: 4 :: 1 :: 167 :: 255 :: 205 :: 132 :: 3 :: 1 :: 167 :: 255 :: 183 :: 3 :: 172 :: []
def dS_cX3_findSewing_0 : List UInt8 := 3 :: 62 :: 29 :: 16 :: 40 :: 163 :: 0 :: 73 :: 3 :: 29 :: 16 :: 20 :: 100 :: 184 :: 0 :: 42 :: 54 :: 4 :: 21 :: 4 :: 29 :: 163 :: 0 :: 51 :: 21 :: 4 :: 16 :: 20 :: 163 :: 0 :: 44 :: 29 :: 21 :: 4 :: 100 :: 54 :: 5 :: 42 :: 27 :: 28 :: 21 :: 4 :: 21 :: 5 :: 182 :: 0 :: 48 :: 154 :: 0 :: 17 :: 42 :: 27 :: 28 :: 21 :: 4 :: 21 :: 5 :: 116 :: 182 :: 0 :: 48 :: 153 :: 0 :: 5 :: dS_cX3_findSewing_1
theorem dT_cX3_findSewing_0 : cX3_findSewing.data.toList.drop 0 = dS_cX3_findSewing_0 := by decide +kernel
theorem dT_cX3_findSewing_1 : cX3_findSewing.data.toList.drop 64 = dS_cX3_findSewing_1 := ck_nx dT_cX3_findSewing_0 (by decide +kernel) rfl
theorem dg_cX3_findSewing_1254 : ck1L dS_cX3_findSewing_1 0 4 = true ∧ ck1L dS_cX3_findSewing_1 1 172 = true ∧ ck3iL dS_cX3_findSewing_1 2 132 4 1 = true ∧ ck3sL dS_cX3_findSewing_1 5 167 (-51) = true ∧ ck3iL dS_cX3_findSewing_1 8 132 3 1 = true ∧ ck3sL dS_cX3_findSewing_1 11 167 (-73) = true ∧ ck1L dS_cX3_findSewing_1 14 3 = true ∧ ck1L dS_cX3_findSewing_1 15 172 = true := by decide +kernel
theorem dX3_findSewing_64 : decode cX3_findSewing 64 = .ok (.iconst 1, 1) := dk_4 (ck1_s (r := 0) dT_cX3_findSewing_1 rfl dg_cX3_findSewing_1254.1)
theorem dX3_findSewing_65 : decode cX3_findSewing 65 = .ok (.ireturn, 1) := dk_172 (ck1_s (r := 1) dT_cX3_findSewing_1 rfl dg_cX3_findSewing_1254.2.1)
theorem dX3_findSewing_66 : decode cX3_findSewing 66 = .ok (.iinc 4 1, 3) := dk_132 (ck3i_s (r := 2) dT_cX3_findSewing_1 rfl dg_cX3_findSewing_1254.2.2.1)
theorem dX3_findSewing_69 : decode cX3_findSewing 69 = .ok (.goto (-51), 3) := dk_167 (ck3s_s (r := 5) dT_cX3_findSewing_1 rfl dg_cX3_findSewing_1254.2.2.2.1)
theorem dX3_findSewing_72 : decode cX3_findSewing 72 = .ok (.iinc 3 1, 3) := dk_132 (ck3i_s (r := 8) dT_cX3_findSewing_1 rfl dg_cX3_findSewing_1254.2.2.2.2.1)
theorem dX3_findSewing_75 : decode cX3_findSewing 75 = .ok (.goto (-73), 3) := dk_167 (ck3s_s (r := 11) dT_cX3_findSewing_1 rfl dg_cX3_findSewing_1254.2.2.2.2.2.1)
theorem dX3_findSewing_78 : decode cX3_findSewing 78 = .ok (.iconst 0, 1) := dk_3 (ck1_s (r := 14) dT_cX3_findSewing_1 rfl dg_cX3_findSewing_1254.2.2.2.2.2.2.1)
theorem dX3_findSewing_79 : decode cX3_findSewing 79 = .ok (.ireturn, 1) := dk_172 (ck1_s (r := 15) dT_cX3_findSewing_1 rfl dg_cX3_findSewing_1254.2.2.2.2.2.2.2)
theorem dg_cX3_fittingBy_1255 : ck1 cX3_fittingBy 0 3 = true ∧ ck1 cX3_fittingBy 1 61 = true ∧ ck1 cX3_fittingBy 2 3 = true ∧ ck1 cX3_fittingBy 3 62 = true ∧ ck1 cX3_fittingBy 4 29 = true ∧ ck1 cX3_fittingBy 5 42 = true ∧ ck3 cX3_fittingBy 6 180 9 = true ∧ ck3 cX3_fittingBy 9 180 92 = true := by decide +kernel
theorem dX3_fittingBy_0 : decode cX3_fittingBy 0 = .ok (.iconst 0, 1) := dk_3 dg_cX3_fittingBy_1255.1
theorem dX3_fittingBy_1 : decode cX3_fittingBy 1 = .ok (.istore_n 2, 1) := dk_61 dg_cX3_fittingBy_1255.2.1
theorem dX3_fittingBy_2 : decode cX3_fittingBy 2 = .ok (.iconst 0, 1) := dk_3 dg_cX3_fittingBy_1255.2.2.1
theorem dX3_fittingBy_3 : decode cX3_fittingBy 3 = .ok (.istore_n 3, 1) := dk_62 dg_cX3_fittingBy_1255.2.2.2.1
theorem dX3_fittingBy_4 : decode cX3_fittingBy 4 = .ok (.iload_n 3, 1) := dk_29 dg_cX3_fittingBy_1255.2.2.2.2.1
theorem dX3_fittingBy_5 : decode cX3_fittingBy 5 = .ok (.aload_n 0, 1) := dk_42 dg_cX3_fittingBy_1255.2.2.2.2.2.1
theorem dX3_fittingBy_6 : decode cX3_fittingBy 6 = .ok (.getfield 9, 3) := dk_180 dg_cX3_fittingBy_1255.2.2.2.2.2.2.1
theorem dX3_fittingBy_9 : decode cX3_fittingBy 9 = .ok (.getfield 92, 3) := dk_180 dg_cX3_fittingBy_1255.2.2.2.2.2.2.2
theorem dg_cX3_fittingBy_1256 : ck3s cX3_fittingBy 12 162 42 = true ∧ ck1 cX3_fittingBy 15 42 = true ∧ ck3 cX3_fittingBy 16 180 15 = true ∧ ck1 cX3_fittingBy 19 29 = true ∧ ck3 cX3_fittingBy 20 182 35 = true ∧ ck2 cX3_fittingBy 23 54 4 = true ∧ ck2 cX3_fittingBy 25 21 4 = true ∧ ck1 cX3_fittingBy 27 2 = true := by decide +kernel
theorem dX3_fittingBy_12 : decode cX3_fittingBy 12 = .ok (.if_icmp .ge 42, 3) := dk_162 dg_cX3_fittingBy_1256.1
theorem dX3_fittingBy_15 : decode cX3_fittingBy 15 = .ok (.aload_n 0, 1) := dk_42 dg_cX3_fittingBy_1256.2.1
theorem dX3_fittingBy_16 : decode cX3_fittingBy 16 = .ok (.getfield 15, 3) := dk_180 dg_cX3_fittingBy_1256.2.2.1
theorem dX3_fittingBy_19 : decode cX3_fittingBy 19 = .ok (.iload_n 3, 1) := dk_29 dg_cX3_fittingBy_1256.2.2.2.1
theorem dX3_fittingBy_20 : decode cX3_fittingBy 20 = .ok (.invokevirtual 35, 3) := dk_182 dg_cX3_fittingBy_1256.2.2.2.2.1
theorem dX3_fittingBy_23 : decode cX3_fittingBy 23 = .ok (.istore 4, 2) := dk_54 dg_cX3_fittingBy_1256.2.2.2.2.2.1
theorem dX3_fittingBy_25 : decode cX3_fittingBy 25 = .ok (.iload 4, 2) := dk_21 dg_cX3_fittingBy_1256.2.2.2.2.2.2.1
theorem dX3_fittingBy_27 : decode cX3_fittingBy 27 = .ok (.iconst (-1), 1) := dk_2 dg_cX3_fittingBy_1256.2.2.2.2.2.2.2
theorem dg_cX3_fittingBy_1257 : ck3s cX3_fittingBy 28 159 20 = true ∧ ck1 cX3_fittingBy 31 42 = true ∧ ck3 cX3_fittingBy 32 180 15 = true ∧ ck1 cX3_fittingBy 35 29 = true ∧ ck2 cX3_fittingBy 36 21 4 = true ∧ ck3 cX3_fittingBy 38 182 129 = true ∧ ck1 cX3_fittingBy 41 27 = true ∧ ck3s cX3_fittingBy 42 163 6 = true := by decide +kernel
theorem dX3_fittingBy_28 : decode cX3_fittingBy 28 = .ok (.if_icmp .eq 20, 3) := dk_159 dg_cX3_fittingBy_1257.1
theorem dX3_fittingBy_31 : decode cX3_fittingBy 31 = .ok (.aload_n 0, 1) := dk_42 dg_cX3_fittingBy_1257.2.1
theorem dX3_fittingBy_32 : decode cX3_fittingBy 32 = .ok (.getfield 15, 3) := dk_180 dg_cX3_fittingBy_1257.2.2.1
theorem dX3_fittingBy_35 : decode cX3_fittingBy 35 = .ok (.iload_n 3, 1) := dk_29 dg_cX3_fittingBy_1257.2.2.2.1
theorem dX3_fittingBy_36 : decode cX3_fittingBy 36 = .ok (.iload 4, 2) := dk_21 dg_cX3_fittingBy_1257.2.2.2.2.1
theorem dX3_fittingBy_38 : decode cX3_fittingBy 38 = .ok (.invokevirtual 129, 3) := dk_182 dg_cX3_fittingBy_1257.2.2.2.2.2.1
theorem dX3_fittingBy_41 : decode cX3_fittingBy 41 = .ok (.iload_n 1, 1) := dk_27 dg_cX3_fittingBy_1257.2.2.2.2.2.2.1
theorem dX3_fittingBy_42 : decode cX3_fittingBy 42 = .ok (.if_icmp .gt 6, 3) := dk_163 dg_cX3_fittingBy_1257.2.2.2.2.2.2.2
theorem dg_cX3_fittingBy_1258 : ck3i cX3_fittingBy 45 132 2 1 = true ∧ ck3i cX3_fittingBy 48 132 3 1 = true ∧ ck3s cX3_fittingBy 51 167 (-47) = true ∧ ck1 cX3_fittingBy 54 28 = true ∧ ck1 cX3_fittingBy 55 172 = true := by decide +kernel
theorem dX3_fittingBy_45 : decode cX3_fittingBy 45 = .ok (.iinc 2 1, 3) := dk_132 dg_cX3_fittingBy_1258.1
theorem dX3_fittingBy_48 : decode cX3_fittingBy 48 = .ok (.iinc 3 1, 3) := dk_132 dg_cX3_fittingBy_1258.2.1
theorem dX3_fittingBy_51 : decode cX3_fittingBy 51 = .ok (.goto (-47), 3) := dk_167 dg_cX3_fittingBy_1258.2.2.1
theorem dX3_fittingBy_54 : decode cX3_fittingBy 54 = .ok (.iload_n 2, 1) := dk_28 dg_cX3_fittingBy_1258.2.2.2.1
theorem dX3_fittingBy_55 : decode cX3_fittingBy 55 = .ok (.ireturn, 1) := dk_172 dg_cX3_fittingBy_1258.2.2.2.2
theorem dg_cX3_init_1259 : ck1 cX3_init 0 42 = true ∧ ck3 cX3_init 1 183 3 = true ∧ ck1 cX3_init 4 42 = true ∧ ck1 cX3_init 5 43 = true ∧ ck3 cX3_init 6 181 9 = true ∧ ck1 cX3_init 9 42 = true ∧ ck1 cX3_init 10 44 = true ∧ ck3 cX3_init 11 181 15 = true := by decide +kernel
theorem dX3_init_0 : decode cX3_init 0 = .ok (.aload_n 0, 1) := dk_42 dg_cX3_init_1259.1
theorem dX3_init_1 : decode cX3_init 1 = .ok (.invokespecial 3, 3) := dk_183 dg_cX3_init_1259.2.1
theorem dX3_init_4 : decode cX3_init 4 = .ok (.aload_n 0, 1) := dk_42 dg_cX3_init_1259.2.2.1
theorem dX3_init_5 : decode cX3_init 5 = .ok (.aload_n 1, 1) := dk_43 dg_cX3_init_1259.2.2.2.1
theorem dX3_init_6 : decode cX3_init 6 = .ok (.putfield 9, 3) := dk_181 dg_cX3_init_1259.2.2.2.2.1
theorem dX3_init_9 : decode cX3_init 9 = .ok (.aload_n 0, 1) := dk_42 dg_cX3_init_1259.2.2.2.2.2.1
theorem dX3_init_10 : decode cX3_init 10 = .ok (.aload_n 2, 1) := dk_44 dg_cX3_init_1259.2.2.2.2.2.2.1
theorem dX3_init_11 : decode cX3_init 11 = .ok (.putfield 15, 3) := dk_181 dg_cX3_init_1259.2.2.2.2.2.2.2
theorem dg_cX3_init_1260 : ck1 cX3_init 14 42 = true ∧ ck3 cX3_init 15 187 19 = true ∧ ck1 cX3_init 18 89 = true ∧ ck1 cX3_init 19 43 = true ∧ ck3 cX3_init 20 183 21 = true ∧ ck3 cX3_init 23 181 24 = true ∧ ck1 cX3_init 26 177 = true := by decide +kernel
theorem dX3_init_14 : decode cX3_init 14 = .ok (.aload_n 0, 1) := dk_42 dg_cX3_init_1260.1
theorem dX3_init_15 : decode cX3_init 15 = .ok (.new 19, 3) := dk_187 dg_cX3_init_1260.2.1
theorem dX3_init_18 : decode cX3_init 18 = .ok (.dup, 1) := dk_89 dg_cX3_init_1260.2.2.1
theorem dX3_init_19 : decode cX3_init 19 = .ok (.aload_n 1, 1) := dk_43 dg_cX3_init_1260.2.2.2.1
theorem dX3_init_20 : decode cX3_init 20 = .ok (.invokespecial 21, 3) := dk_183 dg_cX3_init_1260.2.2.2.2.1
theorem dX3_init_23 : decode cX3_init 23 = .ok (.putfield 24, 3) := dk_181 dg_cX3_init_1260.2.2.2.2.2.1
theorem dX3_init_26 : decode cX3_init 26 = .ok (.return_, 1) := dk_177 dg_cX3_init_1260.2.2.2.2.2.2
theorem dg_cX3_rotaCount_1261 : ck1 cX3_rotaCount 0 3 = true ∧ ck1 cX3_rotaCount 1 61 = true ∧ ck1 cX3_rotaCount 2 3 = true ∧ ck1 cX3_rotaCount 3 62 = true ∧ ck1 cX3_rotaCount 4 29 = true ∧ ck1 cX3_rotaCount 5 42 = true ∧ ck3 cX3_rotaCount 6 180 9 = true ∧ ck3 cX3_rotaCount 9 180 92 = true := by decide +kernel
theorem dX3_rotaCount_0 : decode cX3_rotaCount 0 = .ok (.iconst 0, 1) := dk_3 dg_cX3_rotaCount_1261.1
theorem dX3_rotaCount_1 : decode cX3_rotaCount 1 = .ok (.istore_n 2, 1) := dk_61 dg_cX3_rotaCount_1261.2.1
theorem dX3_rotaCount_2 : decode cX3_rotaCount 2 = .ok (.iconst 0, 1) := dk_3 dg_cX3_rotaCount_1261.2.2.1
theorem dX3_rotaCount_3 : decode cX3_rotaCount 3 = .ok (.istore_n 3, 1) := dk_62 dg_cX3_rotaCount_1261.2.2.2.1
theorem dX3_rotaCount_4 : decode cX3_rotaCount 4 = .ok (.iload_n 3, 1) := dk_29 dg_cX3_rotaCount_1261.2.2.2.2.1
theorem dX3_rotaCount_5 : decode cX3_rotaCount 5 = .ok (.aload_n 0, 1) := dk_42 dg_cX3_rotaCount_1261.2.2.2.2.2.1
theorem dX3_rotaCount_6 : decode cX3_rotaCount 6 = .ok (.getfield 9, 3) := dk_180 dg_cX3_rotaCount_1261.2.2.2.2.2.2.1
theorem dX3_rotaCount_9 : decode cX3_rotaCount 9 = .ok (.getfield 92, 3) := dk_180 dg_cX3_rotaCount_1261.2.2.2.2.2.2.2
theorem dg_cX3_rotaCount_1262 : ck3s cX3_rotaCount 12 162 64 = true ∧ ck1 cX3_rotaCount 15 29 = true ∧ ck1 cX3_rotaCount 16 27 = true ∧ ck1 cX3_rotaCount 17 96 = true ∧ ck1 cX3_rotaCount 18 42 = true ∧ ck3 cX3_rotaCount 19 180 9 = true ∧ ck3 cX3_rotaCount 22 180 92 = true ∧ ck3s cX3_rotaCount 25 162 9 = true := by decide +kernel
theorem dX3_rotaCount_12 : decode cX3_rotaCount 12 = .ok (.if_icmp .ge 64, 3) := dk_162 dg_cX3_rotaCount_1262.1
theorem dX3_rotaCount_15 : decode cX3_rotaCount 15 = .ok (.iload_n 3, 1) := dk_29 dg_cX3_rotaCount_1262.2.1
theorem dX3_rotaCount_16 : decode cX3_rotaCount 16 = .ok (.iload_n 1, 1) := dk_27 dg_cX3_rotaCount_1262.2.2.1
theorem dX3_rotaCount_17 : decode cX3_rotaCount 17 = .ok (.iadd, 1) := dk_96 dg_cX3_rotaCount_1262.2.2.2.1
theorem dX3_rotaCount_18 : decode cX3_rotaCount 18 = .ok (.aload_n 0, 1) := dk_42 dg_cX3_rotaCount_1262.2.2.2.2.1
theorem dX3_rotaCount_19 : decode cX3_rotaCount 19 = .ok (.getfield 9, 3) := dk_180 dg_cX3_rotaCount_1262.2.2.2.2.2.1
theorem dX3_rotaCount_22 : decode cX3_rotaCount 22 = .ok (.getfield 92, 3) := dk_180 dg_cX3_rotaCount_1262.2.2.2.2.2.2.1
theorem dX3_rotaCount_25 : decode cX3_rotaCount 25 = .ok (.if_icmp .ge 9, 3) := dk_162 dg_cX3_rotaCount_1262.2.2.2.2.2.2.2
theorem dg_cX3_rotaCount_1263 : ck1 cX3_rotaCount 28 29 = true ∧ ck1 cX3_rotaCount 29 27 = true ∧ ck1 cX3_rotaCount 30 96 = true ∧ ck3s cX3_rotaCount 31 167 14 = true ∧ ck1 cX3_rotaCount 34 29 = true ∧ ck1 cX3_rotaCount 35 27 = true ∧ ck1 cX3_rotaCount 36 96 = true ∧ ck1 cX3_rotaCount 37 42 = true := by decide +kernel
theorem dX3_rotaCount_28 : decode cX3_rotaCount 28 = .ok (.iload_n 3, 1) := dk_29 dg_cX3_rotaCount_1263.1
theorem dX3_rotaCount_29 : decode cX3_rotaCount 29 = .ok (.iload_n 1, 1) := dk_27 dg_cX3_rotaCount_1263.2.1
theorem dX3_rotaCount_30 : decode cX3_rotaCount 30 = .ok (.iadd, 1) := dk_96 dg_cX3_rotaCount_1263.2.2.1
theorem dX3_rotaCount_31 : decode cX3_rotaCount 31 = .ok (.goto 14, 3) := dk_167 dg_cX3_rotaCount_1263.2.2.2.1
theorem dX3_rotaCount_34 : decode cX3_rotaCount 34 = .ok (.iload_n 3, 1) := dk_29 dg_cX3_rotaCount_1263.2.2.2.2.1
theorem dX3_rotaCount_35 : decode cX3_rotaCount 35 = .ok (.iload_n 1, 1) := dk_27 dg_cX3_rotaCount_1263.2.2.2.2.2.1
theorem dX3_rotaCount_36 : decode cX3_rotaCount 36 = .ok (.iadd, 1) := dk_96 dg_cX3_rotaCount_1263.2.2.2.2.2.2.1
theorem dX3_rotaCount_37 : decode cX3_rotaCount 37 = .ok (.aload_n 0, 1) := dk_42 dg_cX3_rotaCount_1263.2.2.2.2.2.2.2
theorem dg_cX3_rotaCount_1264 : ck3 cX3_rotaCount 38 180 9 = true ∧ ck3 cX3_rotaCount 41 180 92 = true ∧ ck1 cX3_rotaCount 44 100 = true ∧ ck2 cX3_rotaCount 45 54 4 = true ∧ ck1 cX3_rotaCount 47 42 = true ∧ ck3 cX3_rotaCount 48 180 15 = true ∧ ck1 cX3_rotaCount 51 29 = true ∧ ck1 cX3_rotaCount 52 42 = true := by decide +kernel
theorem dX3_rotaCount_38 : decode cX3_rotaCount 38 = .ok (.getfield 9, 3) := dk_180 dg_cX3_rotaCount_1264.1
theorem dX3_rotaCount_41 : decode cX3_rotaCount 41 = .ok (.getfield 92, 3) := dk_180 dg_cX3_rotaCount_1264.2.1
theorem dX3_rotaCount_44 : decode cX3_rotaCount 44 = .ok (.isub, 1) := dk_100 dg_cX3_rotaCount_1264.2.2.1
theorem dX3_rotaCount_45 : decode cX3_rotaCount 45 = .ok (.istore 4, 2) := dk_54 dg_cX3_rotaCount_1264.2.2.2.1
theorem dX3_rotaCount_47 : decode cX3_rotaCount 47 = .ok (.aload_n 0, 1) := dk_42 dg_cX3_rotaCount_1264.2.2.2.2.1
theorem dX3_rotaCount_48 : decode cX3_rotaCount 48 = .ok (.getfield 15, 3) := dk_180 dg_cX3_rotaCount_1264.2.2.2.2.2.1
theorem dX3_rotaCount_51 : decode cX3_rotaCount 51 = .ok (.iload_n 3, 1) := dk_29 dg_cX3_rotaCount_1264.2.2.2.2.2.2.1
theorem dX3_rotaCount_52 : decode cX3_rotaCount 52 = .ok (.aload_n 0, 1) := dk_42 dg_cX3_rotaCount_1264.2.2.2.2.2.2.2
theorem dg_cX3_rotaCount_1265 : ck3 cX3_rotaCount 53 180 15 = true ∧ ck2 cX3_rotaCount 56 21 4 = true ∧ ck3 cX3_rotaCount 58 182 35 = true ∧ ck3 cX3_rotaCount 61 182 98 = true := by decide +kernel
theorem dX3_rotaCount_53 : decode cX3_rotaCount 53 = .ok (.getfield 15, 3) := dk_180 dg_cX3_rotaCount_1265.1
theorem dX3_rotaCount_56 : decode cX3_rotaCount 56 = .ok (.iload 4, 2) := dk_21 dg_cX3_rotaCount_1265.2.1
theorem dX3_rotaCount_58 : decode cX3_rotaCount 58 = .ok (.invokevirtual 35, 3) := dk_182 dg_cX3_rotaCount_1265.2.2.1
theorem dX3_rotaCount_61 : decode cX3_rotaCount 61 = .ok (.invokevirtual 98, 3) := dk_182 dg_cX3_rotaCount_1265.2.2.2
def dS_cX3_rotaCount_1 : List UInt8 := 153 :: 0 :: 6 :: 132 :: 2 :: 1 :: 132 :: 3 :: 1 :: 167 :: 255 :: 187 :: 28 :: 172 :: []
def dS_cX3_rotaCount_0 : List UInt8 := 3 :: 61 :: 3 :: 62 :: 29 :: 42 :: 180 :: 0 :: 9 :: 180 :: 0 :: 92 :: 162 :: 0 :: 64 :: 29 :: 27 :: 96 :: 42 :: 180 :: 0 :: 9 :: 180 :: 0 :: 92 :: 162 :: 0 :: 9 :: 29 :: 27 :: 96 :: 167 :: 0 :: 14 :: 29 :: 27 :: 96 :: 42 :: 180 :: 0 :: 9 :: 180 :: 0 :: 92 :: 100 :: 54 :: 4 :: 42 :: 180 :: 0 :: 15 :: 29 :: 42 :: 180 :: 0 :: 15 :: 21 :: 4 :: 182 :: 0 :: 35 :: 182 :: 0 :: 98 :: dS_cX3_rotaCount_1
theorem dT_cX3_rotaCount_0 : cX3_rotaCount.data.toList.drop 0 = dS_cX3_rotaCount_0 := by decide +kernel
theorem dT_cX3_rotaCount_1 : cX3_rotaCount.data.toList.drop 64 = dS_cX3_rotaCount_1 := ck_nx dT_cX3_rotaCount_0 (by decide +kernel) rfl
theorem dg_cX3_rotaCount_1266 : ck3sL dS_cX3_rotaCount_1 0 153 6 = true ∧ ck3iL dS_cX3_rotaCount_1 3 132 2 1 = true ∧ ck3iL dS_cX3_rotaCount_1 6 132 3 1 = true ∧ ck3sL dS_cX3_rotaCount_1 9 167 (-69) = true ∧ ck1L dS_cX3_rotaCount_1 12 28 = true ∧ ck1L dS_cX3_rotaCount_1 13 172 = true := by decide +kernel
theorem dX3_rotaCount_64 : decode cX3_rotaCount 64 = .ok (.ifCond .eq 6, 3) := dk_153 (ck3s_s (r := 0) dT_cX3_rotaCount_1 rfl dg_cX3_rotaCount_1266.1)
theorem dX3_rotaCount_67 : decode cX3_rotaCount 67 = .ok (.iinc 2 1, 3) := dk_132 (ck3i_s (r := 3) dT_cX3_rotaCount_1 rfl dg_cX3_rotaCount_1266.2.1)
theorem dX3_rotaCount_70 : decode cX3_rotaCount 70 = .ok (.iinc 3 1, 3) := dk_132 (ck3i_s (r := 6) dT_cX3_rotaCount_1 rfl dg_cX3_rotaCount_1266.2.2.1)
theorem dX3_rotaCount_73 : decode cX3_rotaCount 73 = .ok (.goto (-69), 3) := dk_167 (ck3s_s (r := 9) dT_cX3_rotaCount_1 rfl dg_cX3_rotaCount_1266.2.2.2.1)
theorem dX3_rotaCount_76 : decode cX3_rotaCount 76 = .ok (.iload_n 2, 1) := dk_28 (ck1_s (r := 12) dT_cX3_rotaCount_1 rfl dg_cX3_rotaCount_1266.2.2.2.2.1)
theorem dX3_rotaCount_77 : decode cX3_rotaCount 77 = .ok (.ireturn, 1) := dk_172 (ck1_s (r := 13) dT_cX3_rotaCount_1 rfl dg_cX3_rotaCount_1266.2.2.2.2.2)
theorem dg_cX3_sewnFits_1267 : ck1 cX3_sewnFits 0 42 = true ∧ ck3 cX3_sewnFits 1 180 15 = true ∧ ck1 cX3_sewnFits 4 3 = true ∧ ck1 cX3_sewnFits 5 27 = true ∧ ck3 cX3_sewnFits 6 182 52 = true ∧ ck1 cX3_sewnFits 9 29 = true ∧ ck1 cX3_sewnFits 10 100 = true ∧ ck2 cX3_sewnFits 11 54 5 = true := by decide +kernel
theorem dX3_sewnFits_0 : decode cX3_sewnFits 0 = .ok (.aload_n 0, 1) := dk_42 dg_cX3_sewnFits_1267.1
theorem dX3_sewnFits_1 : decode cX3_sewnFits 1 = .ok (.getfield 15, 3) := dk_180 dg_cX3_sewnFits_1267.2.1
theorem dX3_sewnFits_4 : decode cX3_sewnFits 4 = .ok (.iconst 0, 1) := dk_3 dg_cX3_sewnFits_1267.2.2.1
theorem dX3_sewnFits_5 : decode cX3_sewnFits 5 = .ok (.iload_n 1, 1) := dk_27 dg_cX3_sewnFits_1267.2.2.2.1
theorem dX3_sewnFits_6 : decode cX3_sewnFits 6 = .ok (.invokevirtual 52, 3) := dk_182 dg_cX3_sewnFits_1267.2.2.2.2.1
theorem dX3_sewnFits_9 : decode cX3_sewnFits 9 = .ok (.iload_n 3, 1) := dk_29 dg_cX3_sewnFits_1267.2.2.2.2.2.1
theorem dX3_sewnFits_10 : decode cX3_sewnFits 10 = .ok (.isub, 1) := dk_100 dg_cX3_sewnFits_1267.2.2.2.2.2.2.1
theorem dX3_sewnFits_11 : decode cX3_sewnFits 11 = .ok (.istore 5, 2) := dk_54 dg_cX3_sewnFits_1267.2.2.2.2.2.2.2
theorem dg_cX3_sewnFits_1268 : ck1 cX3_sewnFits 13 42 = true ∧ ck3 cX3_sewnFits 14 180 15 = true ∧ ck1 cX3_sewnFits 17 4 = true ∧ ck1 cX3_sewnFits 18 27 = true ∧ ck3 cX3_sewnFits 19 182 52 = true ∧ ck2 cX3_sewnFits 22 21 4 = true ∧ ck1 cX3_sewnFits 24 100 = true ∧ ck2 cX3_sewnFits 25 54 6 = true := by decide +kernel
theorem dX3_sewnFits_13 : decode cX3_sewnFits 13 = .ok (.aload_n 0, 1) := dk_42 dg_cX3_sewnFits_1268.1
theorem dX3_sewnFits_14 : decode cX3_sewnFits 14 = .ok (.getfield 15, 3) := dk_180 dg_cX3_sewnFits_1268.2.1
theorem dX3_sewnFits_17 : decode cX3_sewnFits 17 = .ok (.iconst 1, 1) := dk_4 dg_cX3_sewnFits_1268.2.2.1
theorem dX3_sewnFits_18 : decode cX3_sewnFits 18 = .ok (.iload_n 1, 1) := dk_27 dg_cX3_sewnFits_1268.2.2.2.1
theorem dX3_sewnFits_19 : decode cX3_sewnFits 19 = .ok (.invokevirtual 52, 3) := dk_182 dg_cX3_sewnFits_1268.2.2.2.2.1
theorem dX3_sewnFits_22 : decode cX3_sewnFits 22 = .ok (.iload 4, 2) := dk_21 dg_cX3_sewnFits_1268.2.2.2.2.2.1
theorem dX3_sewnFits_24 : decode cX3_sewnFits 24 = .ok (.isub, 1) := dk_100 dg_cX3_sewnFits_1268.2.2.2.2.2.2.1
theorem dX3_sewnFits_25 : decode cX3_sewnFits 25 = .ok (.istore 6, 2) := dk_54 dg_cX3_sewnFits_1268.2.2.2.2.2.2.2
theorem dg_cX3_sewnFits_1269 : ck2 cX3_sewnFits 27 21 5 = true ∧ ck3s cX3_sewnFits 29 155 30 = true ∧ ck2 cX3_sewnFits 32 21 6 = true ∧ ck3s cX3_sewnFits 34 155 25 = true ∧ ck2 cX3_sewnFits 37 21 6 = true ∧ ck2s cX3_sewnFits 39 16 99 = true ∧ ck3s cX3_sewnFits 41 163 18 = true ∧ ck2 cX3_sewnFits 44 21 4 = true := by decide +kernel
theorem dX3_sewnFits_27 : decode cX3_sewnFits 27 = .ok (.iload 5, 2) := dk_21 dg_cX3_sewnFits_1269.1
theorem dX3_sewnFits_29 : decode cX3_sewnFits 29 = .ok (.ifCond .lt 30, 3) := dk_155 dg_cX3_sewnFits_1269.2.1
theorem dX3_sewnFits_32 : decode cX3_sewnFits 32 = .ok (.iload 6, 2) := dk_21 dg_cX3_sewnFits_1269.2.2.1
theorem dX3_sewnFits_34 : decode cX3_sewnFits 34 = .ok (.ifCond .lt 25, 3) := dk_155 dg_cX3_sewnFits_1269.2.2.2.1
theorem dX3_sewnFits_37 : decode cX3_sewnFits 37 = .ok (.iload 6, 2) := dk_21 dg_cX3_sewnFits_1269.2.2.2.2.1
theorem dX3_sewnFits_39 : decode cX3_sewnFits 39 = .ok (.bipush 99, 2) := dk_16 dg_cX3_sewnFits_1269.2.2.2.2.2.1
theorem dX3_sewnFits_41 : decode cX3_sewnFits 41 = .ok (.if_icmp .gt 18, 3) := dk_163 dg_cX3_sewnFits_1269.2.2.2.2.2.2.1
theorem dX3_sewnFits_44 : decode cX3_sewnFits 44 = .ok (.iload 4, 2) := dk_21 dg_cX3_sewnFits_1269.2.2.2.2.2.2.2
theorem dg_cX3_sewnFits_1270 : ck1 cX3_sewnFits 46 116 = true ∧ ck1 cX3_sewnFits 47 42 = true ∧ ck3 cX3_sewnFits 48 180 15 = true ∧ ck1 cX3_sewnFits 51 5 = true ∧ ck1 cX3_sewnFits 52 27 = true ∧ ck3 cX3_sewnFits 53 182 52 = true ∧ ck3s cX3_sewnFits 56 164 5 = true ∧ ck1 cX3_sewnFits 59 3 = true := by decide +kernel
theorem dX3_sewnFits_46 : decode cX3_sewnFits 46 = .ok (.ineg, 1) := dk_116 dg_cX3_sewnFits_1270.1
theorem dX3_sewnFits_47 : decode cX3_sewnFits 47 = .ok (.aload_n 0, 1) := dk_42 dg_cX3_sewnFits_1270.2.1
theorem dX3_sewnFits_48 : decode cX3_sewnFits 48 = .ok (.getfield 15, 3) := dk_180 dg_cX3_sewnFits_1270.2.2.1
theorem dX3_sewnFits_51 : decode cX3_sewnFits 51 = .ok (.iconst 2, 1) := dk_5 dg_cX3_sewnFits_1270.2.2.2.1
theorem dX3_sewnFits_52 : decode cX3_sewnFits 52 = .ok (.iload_n 1, 1) := dk_27 dg_cX3_sewnFits_1270.2.2.2.2.1
theorem dX3_sewnFits_53 : decode cX3_sewnFits 53 = .ok (.invokevirtual 52, 3) := dk_182 dg_cX3_sewnFits_1270.2.2.2.2.2.1
theorem dX3_sewnFits_56 : decode cX3_sewnFits 56 = .ok (.if_icmp .le 5, 3) := dk_164 dg_cX3_sewnFits_1270.2.2.2.2.2.2.1
theorem dX3_sewnFits_59 : decode cX3_sewnFits 59 = .ok (.iconst 0, 1) := dk_3 dg_cX3_sewnFits_1270.2.2.2.2.2.2.2
theorem dg_cX3_sewnFits_1271 : ck1 cX3_sewnFits 60 172 = true ∧ ck1 cX3_sewnFits 61 42 = true ∧ ck1 cX3_sewnFits 62 29 = true ∧ ck3 cX3_sewnFits 63 181 55 = true := by decide +kernel
theorem dX3_sewnFits_60 : decode cX3_sewnFits 60 = .ok (.ireturn, 1) := dk_172 dg_cX3_sewnFits_1271.1
theorem dX3_sewnFits_61 : decode cX3_sewnFits 61 = .ok (.aload_n 0, 1) := dk_42 dg_cX3_sewnFits_1271.2.1
theorem dX3_sewnFits_62 : decode cX3_sewnFits 62 = .ok (.iload_n 3, 1) := dk_29 dg_cX3_sewnFits_1271.2.2.1
theorem dX3_sewnFits_63 : decode cX3_sewnFits 63 = .ok (.putfield 55, 3) := dk_181 dg_cX3_sewnFits_1271.2.2.2
def dS_cX3_sewnFits_2 : List UInt8 := 7 :: 4 :: 167 :: 0 :: 4 :: 3 :: 172 :: []
def dS_cX3_sewnFits_1 : List UInt8 := 0 :: 55 :: 42 :: 21 :: 4 :: 181 :: 0 :: 59 :: 42 :: 180 :: 0 :: 9 :: 180 :: 0 :: 62 :: 42 :: 180 :: 0 :: 9 :: 3 :: 28 :: 182 :: 0 :: 68 :: 42 :: 180 :: 0 :: 15 :: 28 :: 182 :: 0 :: 71 :: 21 :: 5 :: 21 :: 6 :: 42 :: 180 :: 0 :: 15 :: 6 :: 27 :: 182 :: 0 :: 52 :: 42 :: 180 :: 0 :: 15 :: 182 :: 0 :: 74 :: 182 :: 0 :: 77 :: 42 :: 180 :: 0 :: 9 :: 180 :: 0 :: 83 :: 163 :: 0 :: dS_cX3_sewnFits_2
def dS_cX3_sewnFits_0 : List UInt8 := 42 :: 180 :: 0 :: 15 :: 3 :: 27 :: 182 :: 0 :: 52 :: 29 :: 100 :: 54 :: 5 :: 42 :: 180 :: 0 :: 15 :: 4 :: 27 :: 182 :: 0 :: 52 :: 21 :: 4 :: 100 :: 54 :: 6 :: 21 :: 5 :: 155 :: 0 :: 30 :: 21 :: 6 :: 155 :: 0 :: 25 :: 21 :: 6 :: 16 :: 99 :: 163 :: 0 :: 18 :: 21 :: 4 :: 116 :: 42 :: 180 :: 0 :: 15 :: 5 :: 27 :: 182 :: 0 :: 52 :: 164 :: 0 :: 5 :: 3 :: 172 :: 42 :: 29 :: 181 :: dS_cX3_sewnFits_1
theorem dT_cX3_sewnFits_0 : cX3_sewnFits.data.toList.drop 0 = dS_cX3_sewnFits_0 := by decide +kernel
theorem dT_cX3_sewnFits_1 : cX3_sewnFits.data.toList.drop 64 = dS_cX3_sewnFits_1 := ck_nx dT_cX3_sewnFits_0 (by decide +kernel) rfl
theorem dT_cX3_sewnFits_2 : cX3_sewnFits.data.toList.drop 128 = dS_cX3_sewnFits_2 := ck_nx dT_cX3_sewnFits_1 (by decide +kernel) rfl
theorem dg_cX3_sewnFits_1272 : ck1L dS_cX3_sewnFits_1 2 42 = true ∧ ck2L dS_cX3_sewnFits_1 3 21 4 = true ∧ ck3L dS_cX3_sewnFits_1 5 181 59 = true ∧ ck1L dS_cX3_sewnFits_1 8 42 = true ∧ ck3L dS_cX3_sewnFits_1 9 180 9 = true ∧ ck3L dS_cX3_sewnFits_1 12 180 62 = true ∧ ck1L dS_cX3_sewnFits_1 15 42 = true ∧ ck3L dS_cX3_sewnFits_1 16 180 9 = true := by decide +kernel
theorem dX3_sewnFits_66 : decode cX3_sewnFits 66 = .ok (.aload_n 0, 1) := dk_42 (ck1_s (r := 2) dT_cX3_sewnFits_1 rfl dg_cX3_sewnFits_1272.1)
theorem dX3_sewnFits_67 : decode cX3_sewnFits 67 = .ok (.iload 4, 2) := dk_21 (ck2_s (r := 3) dT_cX3_sewnFits_1 rfl dg_cX3_sewnFits_1272.2.1)
theorem dX3_sewnFits_69 : decode cX3_sewnFits 69 = .ok (.putfield 59, 3) := dk_181 (ck3_s (r := 5) dT_cX3_sewnFits_1 rfl dg_cX3_sewnFits_1272.2.2.1)
theorem dX3_sewnFits_72 : decode cX3_sewnFits 72 = .ok (.aload_n 0, 1) := dk_42 (ck1_s (r := 8) dT_cX3_sewnFits_1 rfl dg_cX3_sewnFits_1272.2.2.2.1)
theorem dX3_sewnFits_73 : decode cX3_sewnFits 73 = .ok (.getfield 9, 3) := dk_180 (ck3_s (r := 9) dT_cX3_sewnFits_1 rfl dg_cX3_sewnFits_1272.2.2.2.2.1)
theorem dX3_sewnFits_76 : decode cX3_sewnFits 76 = .ok (.getfield 62, 3) := dk_180 (ck3_s (r := 12) dT_cX3_sewnFits_1 rfl dg_cX3_sewnFits_1272.2.2.2.2.2.1)
theorem dX3_sewnFits_79 : decode cX3_sewnFits 79 = .ok (.aload_n 0, 1) := dk_42 (ck1_s (r := 15) dT_cX3_sewnFits_1 rfl dg_cX3_sewnFits_1272.2.2.2.2.2.2.1)
theorem dX3_sewnFits_80 : decode cX3_sewnFits 80 = .ok (.getfield 9, 3) := dk_180 (ck3_s (r := 16) dT_cX3_sewnFits_1 rfl dg_cX3_sewnFits_1272.2.2.2.2.2.2.2)
theorem dg_cX3_sewnFits_1273 : ck1L dS_cX3_sewnFits_1 19 3 = true ∧ ck1L dS_cX3_sewnFits_1 20 28 = true ∧ ck3L dS_cX3_sewnFits_1 21 182 68 = true ∧ ck1L dS_cX3_sewnFits_1 24 42 = true ∧ ck3L dS_cX3_sewnFits_1 25 180 15 = true ∧ ck1L dS_cX3_sewnFits_1 28 28 = true ∧ ck3L dS_cX3_sewnFits_1 29 182 71 = true ∧ ck2L dS_cX3_sewnFits_1 32 21 5 = true := by decide +kernel
theorem dX3_sewnFits_83 : decode cX3_sewnFits 83 = .ok (.iconst 0, 1) := dk_3 (ck1_s (r := 19) dT_cX3_sewnFits_1 rfl dg_cX3_sewnFits_1273.1)
theorem dX3_sewnFits_84 : decode cX3_sewnFits 84 = .ok (.iload_n 2, 1) := dk_28 (ck1_s (r := 20) dT_cX3_sewnFits_1 rfl dg_cX3_sewnFits_1273.2.1)
theorem dX3_sewnFits_85 : decode cX3_sewnFits 85 = .ok (.invokevirtual 68, 3) := dk_182 (ck3_s (r := 21) dT_cX3_sewnFits_1 rfl dg_cX3_sewnFits_1273.2.2.1)
theorem dX3_sewnFits_88 : decode cX3_sewnFits 88 = .ok (.aload_n 0, 1) := dk_42 (ck1_s (r := 24) dT_cX3_sewnFits_1 rfl dg_cX3_sewnFits_1273.2.2.2.1)
theorem dX3_sewnFits_89 : decode cX3_sewnFits 89 = .ok (.getfield 15, 3) := dk_180 (ck3_s (r := 25) dT_cX3_sewnFits_1 rfl dg_cX3_sewnFits_1273.2.2.2.2.1)
theorem dX3_sewnFits_92 : decode cX3_sewnFits 92 = .ok (.iload_n 2, 1) := dk_28 (ck1_s (r := 28) dT_cX3_sewnFits_1 rfl dg_cX3_sewnFits_1273.2.2.2.2.2.1)
theorem dX3_sewnFits_93 : decode cX3_sewnFits 93 = .ok (.invokevirtual 71, 3) := dk_182 (ck3_s (r := 29) dT_cX3_sewnFits_1 rfl dg_cX3_sewnFits_1273.2.2.2.2.2.2.1)
theorem dX3_sewnFits_96 : decode cX3_sewnFits 96 = .ok (.iload 5, 2) := dk_21 (ck2_s (r := 32) dT_cX3_sewnFits_1 rfl dg_cX3_sewnFits_1273.2.2.2.2.2.2.2)
theorem dg_cX3_sewnFits_1274 : ck2L dS_cX3_sewnFits_1 34 21 6 = true ∧ ck1L dS_cX3_sewnFits_1 36 42 = true ∧ ck3L dS_cX3_sewnFits_1 37 180 15 = true ∧ ck1L dS_cX3_sewnFits_1 40 6 = true ∧ ck1L dS_cX3_sewnFits_1 41 27 = true ∧ ck3L dS_cX3_sewnFits_1 42 182 52 = true ∧ ck1L dS_cX3_sewnFits_1 45 42 = true ∧ ck3L dS_cX3_sewnFits_1 46 180 15 = true := by decide +kernel
theorem dX3_sewnFits_98 : decode cX3_sewnFits 98 = .ok (.iload 6, 2) := dk_21 (ck2_s (r := 34) dT_cX3_sewnFits_1 rfl dg_cX3_sewnFits_1274.1)
theorem dX3_sewnFits_100 : decode cX3_sewnFits 100 = .ok (.aload_n 0, 1) := dk_42 (ck1_s (r := 36) dT_cX3_sewnFits_1 rfl dg_cX3_sewnFits_1274.2.1)
theorem dX3_sewnFits_101 : decode cX3_sewnFits 101 = .ok (.getfield 15, 3) := dk_180 (ck3_s (r := 37) dT_cX3_sewnFits_1 rfl dg_cX3_sewnFits_1274.2.2.1)
theorem dX3_sewnFits_104 : decode cX3_sewnFits 104 = .ok (.iconst 3, 1) := dk_6 (ck1_s (r := 40) dT_cX3_sewnFits_1 rfl dg_cX3_sewnFits_1274.2.2.2.1)
theorem dX3_sewnFits_105 : decode cX3_sewnFits 105 = .ok (.iload_n 1, 1) := dk_27 (ck1_s (r := 41) dT_cX3_sewnFits_1 rfl dg_cX3_sewnFits_1274.2.2.2.2.1)
theorem dX3_sewnFits_106 : decode cX3_sewnFits 106 = .ok (.invokevirtual 52, 3) := dk_182 (ck3_s (r := 42) dT_cX3_sewnFits_1 rfl dg_cX3_sewnFits_1274.2.2.2.2.2.1)
theorem dX3_sewnFits_109 : decode cX3_sewnFits 109 = .ok (.aload_n 0, 1) := dk_42 (ck1_s (r := 45) dT_cX3_sewnFits_1 rfl dg_cX3_sewnFits_1274.2.2.2.2.2.2.1)
theorem dX3_sewnFits_110 : decode cX3_sewnFits 110 = .ok (.getfield 15, 3) := dk_180 (ck3_s (r := 46) dT_cX3_sewnFits_1 rfl dg_cX3_sewnFits_1274.2.2.2.2.2.2.2)
theorem dg_cX3_sewnFits_1275 : ck3L dS_cX3_sewnFits_1 49 182 74 = true ∧ ck3L dS_cX3_sewnFits_1 52 182 77 = true ∧ ck1L dS_cX3_sewnFits_1 55 42 = true ∧ ck3L dS_cX3_sewnFits_1 56 180 9 = true ∧ ck3L dS_cX3_sewnFits_1 59 180 83 = true ∧ ck3sL dS_cX3_sewnFits_1 62 163 7 = true ∧ ck1L dS_cX3_sewnFits_2 1 4 = true ∧ ck3sL dS_cX3_sewnFits_2 2 167 4 = true := by decide +kernel
theorem dX3_sewnFits_113 : decode cX3_sewnFits 113 = .ok (.invokevirtual 74, 3) := dk_182 (ck3_s (r := 49) dT_cX3_sewnFits_1 rfl dg_cX3_sewnFits_1275.1)
theorem dX3_sewnFits_116 : decode cX3_sewnFits 116 = .ok (.invokevirtual 77, 3) := dk_182 (ck3_s (r := 52) dT_cX3_sewnFits_1 rfl dg_cX3_sewnFits_1275.2.1)
theorem dX3_sewnFits_119 : decode cX3_sewnFits 119 = .ok (.aload_n 0, 1) := dk_42 (ck1_s (r := 55) dT_cX3_sewnFits_1 rfl dg_cX3_sewnFits_1275.2.2.1)
theorem dX3_sewnFits_120 : decode cX3_sewnFits 120 = .ok (.getfield 9, 3) := dk_180 (ck3_s (r := 56) dT_cX3_sewnFits_1 rfl dg_cX3_sewnFits_1275.2.2.2.1)
theorem dX3_sewnFits_123 : decode cX3_sewnFits 123 = .ok (.getfield 83, 3) := dk_180 (ck3_s (r := 59) dT_cX3_sewnFits_1 rfl dg_cX3_sewnFits_1275.2.2.2.2.1)
theorem dX3_sewnFits_126 : decode cX3_sewnFits 126 = .ok (.if_icmp .gt 7, 3) := dk_163 (ck3s_s (r := 62) dT_cX3_sewnFits_1 rfl dg_cX3_sewnFits_1275.2.2.2.2.2.1)
theorem dX3_sewnFits_129 : decode cX3_sewnFits 129 = .ok (.iconst 1, 1) := dk_4 (ck1_s (r := 1) dT_cX3_sewnFits_2 rfl dg_cX3_sewnFits_1275.2.2.2.2.2.2.1)
theorem dX3_sewnFits_130 : decode cX3_sewnFits 130 = .ok (.goto 4, 3) := dk_167 (ck3s_s (r := 2) dT_cX3_sewnFits_2 rfl dg_cX3_sewnFits_1275.2.2.2.2.2.2.2)
theorem dg_cX3_sewnFits_1276 : ck1L dS_cX3_sewnFits_2 5 3 = true ∧ ck1L dS_cX3_sewnFits_2 6 172 = true := by decide +kernel
theorem dX3_sewnFits_133 : decode cX3_sewnFits 133 = .ok (.iconst 0, 1) := dk_3 (ck1_s (r := 5) dT_cX3_sewnFits_2 rfl dg_cX3_sewnFits_1276.1)
theorem dX3_sewnFits_134 : decode cX3_sewnFits 134 = .ok (.ireturn, 1) := dk_172 (ck1_s (r := 6) dT_cX3_sewnFits_2 rfl dg_cX3_sewnFits_1276.2)
theorem dg_cX3_worstIllness_1277 : ck1 cX3_worstIllness 0 3 = true ∧ ck1 cX3_worstIllness 1 60 = true ∧ ck1 cX3_worstIllness 2 3 = true ∧ ck1 cX3_worstIllness 3 61 = true ∧ ck1 cX3_worstIllness 4 28 = true ∧ ck1 cX3_worstIllness 5 42 = true ∧ ck3 cX3_worstIllness 6 180 9 = true ∧ ck3 cX3_worstIllness 9 180 92 = true := by decide +kernel
theorem dX3_worstIllness_0 : decode cX3_worstIllness 0 = .ok (.iconst 0, 1) := dk_3 dg_cX3_worstIllness_1277.1
theorem dX3_worstIllness_1 : decode cX3_worstIllness 1 = .ok (.istore_n 1, 1) := dk_60 dg_cX3_worstIllness_1277.2.1
theorem dX3_worstIllness_2 : decode cX3_worstIllness 2 = .ok (.iconst 0, 1) := dk_3 dg_cX3_worstIllness_1277.2.2.1
theorem dX3_worstIllness_3 : decode cX3_worstIllness 3 = .ok (.istore_n 2, 1) := dk_61 dg_cX3_worstIllness_1277.2.2.2.1
theorem dX3_worstIllness_4 : decode cX3_worstIllness 4 = .ok (.iload_n 2, 1) := dk_28 dg_cX3_worstIllness_1277.2.2.2.2.1
theorem dX3_worstIllness_5 : decode cX3_worstIllness 5 = .ok (.aload_n 0, 1) := dk_42 dg_cX3_worstIllness_1277.2.2.2.2.2.1
theorem dX3_worstIllness_6 : decode cX3_worstIllness 6 = .ok (.getfield 9, 3) := dk_180 dg_cX3_worstIllness_1277.2.2.2.2.2.2.1
theorem dX3_worstIllness_9 : decode cX3_worstIllness 9 = .ok (.getfield 92, 3) := dk_180 dg_cX3_worstIllness_1277.2.2.2.2.2.2.2
theorem dg_cX3_worstIllness_1278 : ck3s cX3_worstIllness 12 162 37 = true ∧ ck1 cX3_worstIllness 15 42 = true ∧ ck3 cX3_worstIllness 16 180 15 = true ∧ ck1 cX3_worstIllness 19 28 = true ∧ ck3 cX3_worstIllness 20 182 35 = true ∧ ck1 cX3_worstIllness 23 62 = true ∧ ck1 cX3_worstIllness 24 29 = true ∧ ck1 cX3_worstIllness 25 2 = true := by decide +kernel
theorem dX3_worstIllness_12 : decode cX3_worstIllness 12 = .ok (.if_icmp .ge 37, 3) := dk_162 dg_cX3_worstIllness_1278.1
theorem dX3_worstIllness_15 : decode cX3_worstIllness 15 = .ok (.aload_n 0, 1) := dk_42 dg_cX3_worstIllness_1278.2.1
theorem dX3_worstIllness_16 : decode cX3_worstIllness 16 = .ok (.getfield 15, 3) := dk_180 dg_cX3_worstIllness_1278.2.2.1
theorem dX3_worstIllness_19 : decode cX3_worstIllness 19 = .ok (.iload_n 2, 1) := dk_28 dg_cX3_worstIllness_1278.2.2.2.1
theorem dX3_worstIllness_20 : decode cX3_worstIllness 20 = .ok (.invokevirtual 35, 3) := dk_182 dg_cX3_worstIllness_1278.2.2.2.2.1
theorem dX3_worstIllness_23 : decode cX3_worstIllness 23 = .ok (.istore_n 3, 1) := dk_62 dg_cX3_worstIllness_1278.2.2.2.2.2.1
theorem dX3_worstIllness_24 : decode cX3_worstIllness 24 = .ok (.iload_n 3, 1) := dk_29 dg_cX3_worstIllness_1278.2.2.2.2.2.2.1
theorem dX3_worstIllness_25 : decode cX3_worstIllness 25 = .ok (.iconst (-1), 1) := dk_2 dg_cX3_worstIllness_1278.2.2.2.2.2.2.2
theorem dg_cX3_worstIllness_1279 : ck3s cX3_worstIllness 26 159 17 = true ∧ ck1 cX3_worstIllness 29 27 = true ∧ ck1 cX3_worstIllness 30 42 = true ∧ ck3 cX3_worstIllness 31 180 15 = true ∧ ck1 cX3_worstIllness 34 28 = true ∧ ck1 cX3_worstIllness 35 29 = true ∧ ck3 cX3_worstIllness 36 182 129 = true ∧ ck3 cX3_worstIllness 39 184 42 = true := by decide +kernel
theorem dX3_worstIllness_26 : decode cX3_worstIllness 26 = .ok (.if_icmp .eq 17, 3) := dk_159 dg_cX3_worstIllness_1279.1
theorem dX3_worstIllness_29 : decode cX3_worstIllness 29 = .ok (.iload_n 1, 1) := dk_27 dg_cX3_worstIllness_1279.2.1
theorem dX3_worstIllness_30 : decode cX3_worstIllness 30 = .ok (.aload_n 0, 1) := dk_42 dg_cX3_worstIllness_1279.2.2.1
theorem dX3_worstIllness_31 : decode cX3_worstIllness 31 = .ok (.getfield 15, 3) := dk_180 dg_cX3_worstIllness_1279.2.2.2.1
theorem dX3_worstIllness_34 : decode cX3_worstIllness 34 = .ok (.iload_n 2, 1) := dk_28 dg_cX3_worstIllness_1279.2.2.2.2.1
theorem dX3_worstIllness_35 : decode cX3_worstIllness 35 = .ok (.iload_n 3, 1) := dk_29 dg_cX3_worstIllness_1279.2.2.2.2.2.1
theorem dX3_worstIllness_36 : decode cX3_worstIllness 36 = .ok (.invokevirtual 129, 3) := dk_182 dg_cX3_worstIllness_1279.2.2.2.2.2.2.1
theorem dX3_worstIllness_39 : decode cX3_worstIllness 39 = .ok (.invokestatic 42, 3) := dk_184 dg_cX3_worstIllness_1279.2.2.2.2.2.2.2
theorem dg_cX3_worstIllness_1280 : ck1 cX3_worstIllness 42 60 = true ∧ ck3i cX3_worstIllness 43 132 2 1 = true ∧ ck3s cX3_worstIllness 46 167 (-42) = true ∧ ck1 cX3_worstIllness 49 27 = true ∧ ck1 cX3_worstIllness 50 172 = true := by decide +kernel
theorem dX3_worstIllness_42 : decode cX3_worstIllness 42 = .ok (.istore_n 1, 1) := dk_60 dg_cX3_worstIllness_1280.1
theorem dX3_worstIllness_43 : decode cX3_worstIllness 43 = .ok (.iinc 2 1, 3) := dk_132 dg_cX3_worstIllness_1280.2.1
theorem dX3_worstIllness_46 : decode cX3_worstIllness 46 = .ok (.goto (-42), 3) := dk_167 dg_cX3_worstIllness_1280.2.2.1
theorem dX3_worstIllness_49 : decode cX3_worstIllness 49 = .ok (.iload_n 1, 1) := dk_27 dg_cX3_worstIllness_1280.2.2.2.1
theorem dX3_worstIllness_50 : decode cX3_worstIllness 50 = .ok (.ireturn, 1) := dk_172 dg_cX3_worstIllness_1280.2.2.2.2
theorem dg_cX4_add_1281 : ck1 cX4_add 0 42 = true ∧ ck3 cX4_add 1 180 24 = true ∧ ck3s cX4_add 4 17 300 = true ∧ ck3s cX4_add 7 162 33 = true ∧ ck1 cX4_add 10 42 = true ∧ ck3 cX4_add 11 180 11 = true ∧ ck1 cX4_add 14 42 = true ∧ ck3 cX4_add 15 180 24 = true := by decide +kernel
theorem dX4_add_0 : decode cX4_add 0 = .ok (.aload_n 0, 1) := dk_42 dg_cX4_add_1281.1
theorem dX4_add_1 : decode cX4_add 1 = .ok (.getfield 24, 3) := dk_180 dg_cX4_add_1281.2.1
theorem dX4_add_4 : decode cX4_add 4 = .ok (.sipush 300, 3) := dk_17 dg_cX4_add_1281.2.2.1
theorem dX4_add_7 : decode cX4_add 7 = .ok (.if_icmp .ge 33, 3) := dk_162 dg_cX4_add_1281.2.2.2.1
theorem dX4_add_10 : decode cX4_add 10 = .ok (.aload_n 0, 1) := dk_42 dg_cX4_add_1281.2.2.2.2.1
theorem dX4_add_11 : decode cX4_add 11 = .ok (.getfield 11, 3) := dk_180 dg_cX4_add_1281.2.2.2.2.2.1
theorem dX4_add_14 : decode cX4_add 14 = .ok (.aload_n 0, 1) := dk_42 dg_cX4_add_1281.2.2.2.2.2.2.1
theorem dX4_add_15 : decode cX4_add 15 = .ok (.getfield 24, 3) := dk_180 dg_cX4_add_1281.2.2.2.2.2.2.2
theorem dg_cX4_add_1282 : ck1 cX4_add 18 27 = true ∧ ck1 cX4_add 19 79 = true ∧ ck1 cX4_add 20 42 = true ∧ ck3 cX4_add 21 180 15 = true ∧ ck1 cX4_add 24 42 = true ∧ ck3 cX4_add 25 180 24 = true ∧ ck1 cX4_add 28 28 = true ∧ ck1 cX4_add 29 79 = true := by decide +kernel
theorem dX4_add_18 : decode cX4_add 18 = .ok (.iload_n 1, 1) := dk_27 dg_cX4_add_1282.1
theorem dX4_add_19 : decode cX4_add 19 = .ok (.iastore, 1) := dk_79 dg_cX4_add_1282.2.1
theorem dX4_add_20 : decode cX4_add 20 = .ok (.aload_n 0, 1) := dk_42 dg_cX4_add_1282.2.2.1
theorem dX4_add_21 : decode cX4_add 21 = .ok (.getfield 15, 3) := dk_180 dg_cX4_add_1282.2.2.2.1
theorem dX4_add_24 : decode cX4_add 24 = .ok (.aload_n 0, 1) := dk_42 dg_cX4_add_1282.2.2.2.2.1
theorem dX4_add_25 : decode cX4_add 25 = .ok (.getfield 24, 3) := dk_180 dg_cX4_add_1282.2.2.2.2.2.1
theorem dX4_add_28 : decode cX4_add 28 = .ok (.iload_n 2, 1) := dk_28 dg_cX4_add_1282.2.2.2.2.2.2.1
theorem dX4_add_29 : decode cX4_add 29 = .ok (.iastore, 1) := dk_79 dg_cX4_add_1282.2.2.2.2.2.2.2
theorem dg_cX4_add_1283 : ck1 cX4_add 30 42 = true ∧ ck1 cX4_add 31 89 = true ∧ ck3 cX4_add 32 180 24 = true ∧ ck1 cX4_add 35 4 = true ∧ ck1 cX4_add 36 96 = true ∧ ck3 cX4_add 37 181 24 = true ∧ ck1 cX4_add 40 177 = true := by decide +kernel
theorem dX4_add_30 : decode cX4_add 30 = .ok (.aload_n 0, 1) := dk_42 dg_cX4_add_1283.1
theorem dX4_add_31 : decode cX4_add 31 = .ok (.dup, 1) := dk_89 dg_cX4_add_1283.2.1
theorem dX4_add_32 : decode cX4_add 32 = .ok (.getfield 24, 3) := dk_180 dg_cX4_add_1283.2.2.1
theorem dX4_add_35 : decode cX4_add 35 = .ok (.iconst 1, 1) := dk_4 dg_cX4_add_1283.2.2.2.1
theorem dX4_add_36 : decode cX4_add 36 = .ok (.iadd, 1) := dk_96 dg_cX4_add_1283.2.2.2.2.1
theorem dX4_add_37 : decode cX4_add 37 = .ok (.putfield 24, 3) := dk_181 dg_cX4_add_1283.2.2.2.2.2.1
theorem dX4_add_40 : decode cX4_add 40 = .ok (.return_, 1) := dk_177 dg_cX4_add_1283.2.2.2.2.2.2
theorem dg_cX4_clear_1284 : ck1 cX4_clear 0 42 = true ∧ ck1 cX4_clear 1 3 = true ∧ ck3 cX4_clear 2 181 24 = true ∧ ck1 cX4_clear 5 42 = true ∧ ck1 cX4_clear 6 3 = true ∧ ck3 cX4_clear 7 181 28 = true ∧ ck1 cX4_clear 10 177 = true := by decide +kernel
theorem dX4_clear_0 : decode cX4_clear 0 = .ok (.aload_n 0, 1) := dk_42 dg_cX4_clear_1284.1
theorem dX4_clear_1 : decode cX4_clear 1 = .ok (.iconst 0, 1) := dk_3 dg_cX4_clear_1284.2.1
theorem dX4_clear_2 : decode cX4_clear 2 = .ok (.putfield 24, 3) := dk_181 dg_cX4_clear_1284.2.2.1
theorem dX4_clear_5 : decode cX4_clear 5 = .ok (.aload_n 0, 1) := dk_42 dg_cX4_clear_1284.2.2.2.1
theorem dX4_clear_6 : decode cX4_clear 6 = .ok (.iconst 0, 1) := dk_3 dg_cX4_clear_1284.2.2.2.2.1
theorem dX4_clear_7 : decode cX4_clear 7 = .ok (.putfield 28, 3) := dk_181 dg_cX4_clear_1284.2.2.2.2.2.1
theorem dX4_clear_10 : decode cX4_clear 10 = .ok (.return_, 1) := dk_177 dg_cX4_clear_1284.2.2.2.2.2.2
theorem dg_cX4_copy_1285 : ck1 cX4_copy 0 43 = true ∧ ck3 cX4_copy 1 180 11 = true ∧ ck1 cX4_copy 4 3 = true ∧ ck1 cX4_copy 5 42 = true ∧ ck3 cX4_copy 6 180 11 = true ∧ ck1 cX4_copy 9 3 = true ∧ ck3s cX4_copy 10 17 300 = true ∧ ck3 cX4_copy 13 184 31 = true := by decide +kernel
theorem dX4_copy_0 : decode cX4_copy 0 = .ok (.aload_n 1, 1) := dk_43 dg_cX4_copy_1285.1
theorem dX4_copy_1 : decode cX4_copy 1 = .ok (.getfield 11, 3) := dk_180 dg_cX4_copy_1285.2.1
theorem dX4_copy_4 : decode cX4_copy 4 = .ok (.iconst 0, 1) := dk_3 dg_cX4_copy_1285.2.2.1
theorem dX4_copy_5 : decode cX4_copy 5 = .ok (.aload_n 0, 1) := dk_42 dg_cX4_copy_1285.2.2.2.1
theorem dX4_copy_6 : decode cX4_copy 6 = .ok (.getfield 11, 3) := dk_180 dg_cX4_copy_1285.2.2.2.2.1
theorem dX4_copy_9 : decode cX4_copy 9 = .ok (.iconst 0, 1) := dk_3 dg_cX4_copy_1285.2.2.2.2.2.1
theorem dX4_copy_10 : decode cX4_copy 10 = .ok (.sipush 300, 3) := dk_17 dg_cX4_copy_1285.2.2.2.2.2.2.1
theorem dX4_copy_13 : decode cX4_copy 13 = .ok (.invokestatic 31, 3) := dk_184 dg_cX4_copy_1285.2.2.2.2.2.2.2
theorem dg_cX4_copy_1286 : ck1 cX4_copy 16 43 = true ∧ ck3 cX4_copy 17 180 15 = true ∧ ck1 cX4_copy 20 3 = true ∧ ck1 cX4_copy 21 42 = true ∧ ck3 cX4_copy 22 180 15 = true ∧ ck1 cX4_copy 25 3 = true ∧ ck3s cX4_copy 26 17 300 = true ∧ ck3 cX4_copy 29 184 31 = true := by decide +kernel
theorem dX4_copy_16 : decode cX4_copy 16 = .ok (.aload_n 1, 1) := dk_43 dg_cX4_copy_1286.1
theorem dX4_copy_17 : decode cX4_copy 17 = .ok (.getfield 15, 3) := dk_180 dg_cX4_copy_1286.2.1
theorem dX4_copy_20 : decode cX4_copy 20 = .ok (.iconst 0, 1) := dk_3 dg_cX4_copy_1286.2.2.1
theorem dX4_copy_21 : decode cX4_copy 21 = .ok (.aload_n 0, 1) := dk_42 dg_cX4_copy_1286.2.2.2.1
theorem dX4_copy_22 : decode cX4_copy 22 = .ok (.getfield 15, 3) := dk_180 dg_cX4_copy_1286.2.2.2.2.1
theorem dX4_copy_25 : decode cX4_copy 25 = .ok (.iconst 0, 1) := dk_3 dg_cX4_copy_1286.2.2.2.2.2.1
theorem dX4_copy_26 : decode cX4_copy 26 = .ok (.sipush 300, 3) := dk_17 dg_cX4_copy_1286.2.2.2.2.2.2.1
theorem dX4_copy_29 : decode cX4_copy 29 = .ok (.invokestatic 31, 3) := dk_184 dg_cX4_copy_1286.2.2.2.2.2.2.2
theorem dg_cX4_copy_1287 : ck1 cX4_copy 32 42 = true ∧ ck1 cX4_copy 33 43 = true ∧ ck3 cX4_copy 34 180 24 = true ∧ ck3 cX4_copy 37 181 24 = true ∧ ck1 cX4_copy 40 42 = true ∧ ck1 cX4_copy 41 43 = true ∧ ck3 cX4_copy 42 180 28 = true ∧ ck3 cX4_copy 45 181 28 = true := by decide +kernel
theorem dX4_copy_32 : decode cX4_copy 32 = .ok (.aload_n 0, 1) := dk_42 dg_cX4_copy_1287.1
theorem dX4_copy_33 : decode cX4_copy 33 = .ok (.aload_n 1, 1) := dk_43 dg_cX4_copy_1287.2.1
theorem dX4_copy_34 : decode cX4_copy 34 = .ok (.getfield 24, 3) := dk_180 dg_cX4_copy_1287.2.2.1
theorem dX4_copy_37 : decode cX4_copy 37 = .ok (.putfield 24, 3) := dk_181 dg_cX4_copy_1287.2.2.2.1
theorem dX4_copy_40 : decode cX4_copy 40 = .ok (.aload_n 0, 1) := dk_42 dg_cX4_copy_1287.2.2.2.2.1
theorem dX4_copy_41 : decode cX4_copy 41 = .ok (.aload_n 1, 1) := dk_43 dg_cX4_copy_1287.2.2.2.2.2.1
theorem dX4_copy_42 : decode cX4_copy 42 = .ok (.getfield 28, 3) := dk_180 dg_cX4_copy_1287.2.2.2.2.2.2.1
theorem dX4_copy_45 : decode cX4_copy 45 = .ok (.putfield 28, 3) := dk_181 dg_cX4_copy_1287.2.2.2.2.2.2.2
theorem dg_cX4_copy_1288 : ck1 cX4_copy 48 177 = true := by decide +kernel
theorem dX4_copy_48 : decode cX4_copy 48 = .ok (.return_, 1) := dk_177 dg_cX4_copy_1288
theorem dg_cX4_init_1289 : ck1 cX4_init 0 42 = true ∧ ck3 cX4_init 1 183 3 = true ∧ ck1 cX4_init 4 42 = true ∧ ck3s cX4_init 5 17 300 = true := by decide +kernel
theorem dX4_init_0 : decode cX4_init 0 = .ok (.aload_n 0, 1) := dk_42 dg_cX4_init_1289.1
theorem dX4_init_1 : decode cX4_init 1 = .ok (.invokespecial 3, 3) := dk_183 dg_cX4_init_1289.2.1
theorem dX4_init_4 : decode cX4_init 4 = .ok (.aload_n 0, 1) := dk_42 dg_cX4_init_1289.2.2.1
theorem dX4_init_5 : decode cX4_init 5 = .ok (.sipush 300, 3) := dk_17 dg_cX4_init_1289.2.2.2
theorem dX4_init_8 : decode cX4_init 8 = .ok (.newarray .int, 2) := by decide +kernel
theorem dg_cX4_init_1290 : ck3 cX4_init 10 181 11 = true ∧ ck1 cX4_init 13 42 = true ∧ ck3s cX4_init 14 17 300 = true := by decide +kernel
theorem dX4_init_10 : decode cX4_init 10 = .ok (.putfield 11, 3) := dk_181 dg_cX4_init_1290.1
theorem dX4_init_13 : decode cX4_init 13 = .ok (.aload_n 0, 1) := dk_42 dg_cX4_init_1290.2.1
theorem dX4_init_14 : decode cX4_init 14 = .ok (.sipush 300, 3) := dk_17 dg_cX4_init_1290.2.2
theorem dX4_init_17 : decode cX4_init 17 = .ok (.newarray .int, 2) := by decide +kernel
theorem dg_cX4_init_1291 : ck3 cX4_init 19 181 15 = true ∧ ck1 cX4_init 22 42 = true ∧ ck2s cX4_init 23 16 30 = true := by decide +kernel
theorem dX4_init_19 : decode cX4_init 19 = .ok (.putfield 15, 3) := dk_181 dg_cX4_init_1291.1
theorem dX4_init_22 : decode cX4_init 22 = .ok (.aload_n 0, 1) := dk_42 dg_cX4_init_1291.2.1
theorem dX4_init_23 : decode cX4_init 23 = .ok (.bipush 30, 2) := dk_16 dg_cX4_init_1291.2.2
theorem dX4_init_25 : decode cX4_init 25 = .ok (.newarray .int, 2) := by decide +kernel
theorem dg_cX4_init_1292 : ck3 cX4_init 27 181 18 = true ∧ ck1 cX4_init 30 42 = true ∧ ck2s cX4_init 31 16 6 = true := by decide +kernel
theorem dX4_init_27 : decode cX4_init 27 = .ok (.putfield 18, 3) := dk_181 dg_cX4_init_1292.1
theorem dX4_init_30 : decode cX4_init 30 = .ok (.aload_n 0, 1) := dk_42 dg_cX4_init_1292.2.1
theorem dX4_init_31 : decode cX4_init 31 = .ok (.bipush 6, 2) := dk_16 dg_cX4_init_1292.2.2
theorem dX4_init_33 : decode cX4_init 33 = .ok (.newarray .int, 2) := by decide +kernel
theorem dg_cX4_init_1293 : ck3 cX4_init 35 181 21 = true ∧ ck1 cX4_init 38 177 = true := by decide +kernel
theorem dX4_init_35 : decode cX4_init 35 = .ok (.putfield 21, 3) := dk_181 dg_cX4_init_1293.1
theorem dX4_init_38 : decode cX4_init 38 = .ok (.return_, 1) := dk_177 dg_cX4_init_1293.2
theorem dg_cX4_joined_1294 : ck1 cX4_joined 0 26 = true := by decide +kernel
theorem dX4_joined_0 : decode cX4_joined 0 = .ok (.iload_n 0, 1) := dk_26 dg_cX4_joined_1294
theorem dX4_joined_1 : decode cX4_joined 1 = .ok (.lookupswitch 188 #[(37, 115), (42, 99), (43, 91), (45, 95), (47, 103), (60, 127), (61, 149), (62, 138), (113, 174), (114, 160)], 91) := by decide +kernel
def dS_cX4_joined_2 : List UInt8 := 27 :: 28 :: 162 :: 0 :: 7 :: 4 :: 167 :: 0 :: 4 :: 3 :: 172 :: 27 :: 28 :: 164 :: 0 :: 7 :: 4 :: 167 :: 0 :: 4 :: 3 :: 172 :: 27 :: 28 :: 160 :: 0 :: 7 :: 4 :: 167 :: 0 :: 4 :: 3 :: 172 :: 27 :: 153 :: 0 :: 11 :: 28 :: 153 :: 0 :: 7 :: 4 :: 167 :: 0 :: 4 :: 3 :: 172 :: 27 :: 154 :: 0 :: 7 :: 28 :: 153 :: 0 :: 7 :: 4 :: 167 :: 0 :: 4 :: 3 :: 172 :: 3 :: 172 :: []
def dS_cX4_joined_1 : List UInt8 := 0 :: 0 :: 0 :: 149 :: 0 :: 0 :: 0 :: 62 :: 0 :: 0 :: 0 :: 138 :: 0 :: 0 :: 0 :: 113 :: 0 :: 0 :: 0 :: 174 :: 0 :: 0 :: 0 :: 114 :: 0 :: 0 :: 0 :: 160 :: 27 :: 28 :: 96 :: 172 :: 27 :: 28 :: 100 :: 172 :: 27 :: 28 :: 104 :: 172 :: 28 :: 154 :: 0 :: 7 :: 3 :: 167 :: 0 :: 6 :: 27 :: 28 :: 108 :: 172 :: 28 :: 154 :: 0 :: 7 :: 3 :: 167 :: 0 :: 6 :: 27 :: 28 :: 112 :: 172 :: dS_cX4_joined_2
def dS_cX4_joined_0 : List UInt8 := 26 :: 171 :: 0 :: 0 :: 0 :: 0 :: 0 :: 188 :: 0 :: 0 :: 0 :: 10 :: 0 :: 0 :: 0 :: 37 :: 0 :: 0 :: 0 :: 115 :: 0 :: 0 :: 0 :: 42 :: 0 :: 0 :: 0 :: 99 :: 0 :: 0 :: 0 :: 43 :: 0 :: 0 :: 0 :: 91 :: 0 :: 0 :: 0 :: 45 :: 0 :: 0 :: 0 :: 95 :: 0 :: 0 :: 0 :: 47 :: 0 :: 0 :: 0 :: 103 :: 0 :: 0 :: 0 :: 60 :: 0 :: 0 :: 0 :: 127 :: 0 :: 0 :: 0 :: 61 :: dS_cX4_joined_1
theorem dT_cX4_joined_0 : cX4_joined.data.toList.drop 0 = dS_cX4_joined_0 := by decide +kernel
theorem dT_cX4_joined_1 : cX4_joined.data.toList.drop 64 = dS_cX4_joined_1 := ck_nx dT_cX4_joined_0 (by decide +kernel) rfl
theorem dT_cX4_joined_2 : cX4_joined.data.toList.drop 128 = dS_cX4_joined_2 := ck_nx dT_cX4_joined_1 (by decide +kernel) rfl
theorem dg_cX4_joined_1295 : ck1L dS_cX4_joined_1 28 27 = true ∧ ck1L dS_cX4_joined_1 29 28 = true ∧ ck1L dS_cX4_joined_1 30 96 = true ∧ ck1L dS_cX4_joined_1 31 172 = true ∧ ck1L dS_cX4_joined_1 32 27 = true ∧ ck1L dS_cX4_joined_1 33 28 = true ∧ ck1L dS_cX4_joined_1 34 100 = true ∧ ck1L dS_cX4_joined_1 35 172 = true := by decide +kernel
theorem dX4_joined_92 : decode cX4_joined 92 = .ok (.iload_n 1, 1) := dk_27 (ck1_s (r := 28) dT_cX4_joined_1 rfl dg_cX4_joined_1295.1)
theorem dX4_joined_93 : decode cX4_joined 93 = .ok (.iload_n 2, 1) := dk_28 (ck1_s (r := 29) dT_cX4_joined_1 rfl dg_cX4_joined_1295.2.1)
theorem dX4_joined_94 : decode cX4_joined 94 = .ok (.iadd, 1) := dk_96 (ck1_s (r := 30) dT_cX4_joined_1 rfl dg_cX4_joined_1295.2.2.1)
theorem dX4_joined_95 : decode cX4_joined 95 = .ok (.ireturn, 1) := dk_172 (ck1_s (r := 31) dT_cX4_joined_1 rfl dg_cX4_joined_1295.2.2.2.1)
theorem dX4_joined_96 : decode cX4_joined 96 = .ok (.iload_n 1, 1) := dk_27 (ck1_s (r := 32) dT_cX4_joined_1 rfl dg_cX4_joined_1295.2.2.2.2.1)
theorem dX4_joined_97 : decode cX4_joined 97 = .ok (.iload_n 2, 1) := dk_28 (ck1_s (r := 33) dT_cX4_joined_1 rfl dg_cX4_joined_1295.2.2.2.2.2.1)
theorem dX4_joined_98 : decode cX4_joined 98 = .ok (.isub, 1) := dk_100 (ck1_s (r := 34) dT_cX4_joined_1 rfl dg_cX4_joined_1295.2.2.2.2.2.2.1)
theorem dX4_joined_99 : decode cX4_joined 99 = .ok (.ireturn, 1) := dk_172 (ck1_s (r := 35) dT_cX4_joined_1 rfl dg_cX4_joined_1295.2.2.2.2.2.2.2)
theorem dg_cX4_joined_1296 : ck1L dS_cX4_joined_1 36 27 = true ∧ ck1L dS_cX4_joined_1 37 28 = true ∧ ck1L dS_cX4_joined_1 38 104 = true ∧ ck1L dS_cX4_joined_1 39 172 = true ∧ ck1L dS_cX4_joined_1 40 28 = true ∧ ck3sL dS_cX4_joined_1 41 154 7 = true ∧ ck1L dS_cX4_joined_1 44 3 = true ∧ ck3sL dS_cX4_joined_1 45 167 6 = true := by decide +kernel
theorem dX4_joined_100 : decode cX4_joined 100 = .ok (.iload_n 1, 1) := dk_27 (ck1_s (r := 36) dT_cX4_joined_1 rfl dg_cX4_joined_1296.1)
theorem dX4_joined_101 : decode cX4_joined 101 = .ok (.iload_n 2, 1) := dk_28 (ck1_s (r := 37) dT_cX4_joined_1 rfl dg_cX4_joined_1296.2.1)
theorem dX4_joined_102 : decode cX4_joined 102 = .ok (.imul, 1) := dk_104 (ck1_s (r := 38) dT_cX4_joined_1 rfl dg_cX4_joined_1296.2.2.1)
theorem dX4_joined_103 : decode cX4_joined 103 = .ok (.ireturn, 1) := dk_172 (ck1_s (r := 39) dT_cX4_joined_1 rfl dg_cX4_joined_1296.2.2.2.1)
theorem dX4_joined_104 : decode cX4_joined 104 = .ok (.iload_n 2, 1) := dk_28 (ck1_s (r := 40) dT_cX4_joined_1 rfl dg_cX4_joined_1296.2.2.2.2.1)
theorem dX4_joined_105 : decode cX4_joined 105 = .ok (.ifCond .ne 7, 3) := dk_154 (ck3s_s (r := 41) dT_cX4_joined_1 rfl dg_cX4_joined_1296.2.2.2.2.2.1)
theorem dX4_joined_108 : decode cX4_joined 108 = .ok (.iconst 0, 1) := dk_3 (ck1_s (r := 44) dT_cX4_joined_1 rfl dg_cX4_joined_1296.2.2.2.2.2.2.1)
theorem dX4_joined_109 : decode cX4_joined 109 = .ok (.goto 6, 3) := dk_167 (ck3s_s (r := 45) dT_cX4_joined_1 rfl dg_cX4_joined_1296.2.2.2.2.2.2.2)
theorem dg_cX4_joined_1297 : ck1L dS_cX4_joined_1 48 27 = true ∧ ck1L dS_cX4_joined_1 49 28 = true ∧ ck1L dS_cX4_joined_1 50 108 = true ∧ ck1L dS_cX4_joined_1 51 172 = true ∧ ck1L dS_cX4_joined_1 52 28 = true ∧ ck3sL dS_cX4_joined_1 53 154 7 = true ∧ ck1L dS_cX4_joined_1 56 3 = true ∧ ck3sL dS_cX4_joined_1 57 167 6 = true := by decide +kernel
theorem dX4_joined_112 : decode cX4_joined 112 = .ok (.iload_n 1, 1) := dk_27 (ck1_s (r := 48) dT_cX4_joined_1 rfl dg_cX4_joined_1297.1)
theorem dX4_joined_113 : decode cX4_joined 113 = .ok (.iload_n 2, 1) := dk_28 (ck1_s (r := 49) dT_cX4_joined_1 rfl dg_cX4_joined_1297.2.1)
theorem dX4_joined_114 : decode cX4_joined 114 = .ok (.idiv, 1) := dk_108 (ck1_s (r := 50) dT_cX4_joined_1 rfl dg_cX4_joined_1297.2.2.1)
theorem dX4_joined_115 : decode cX4_joined 115 = .ok (.ireturn, 1) := dk_172 (ck1_s (r := 51) dT_cX4_joined_1 rfl dg_cX4_joined_1297.2.2.2.1)
theorem dX4_joined_116 : decode cX4_joined 116 = .ok (.iload_n 2, 1) := dk_28 (ck1_s (r := 52) dT_cX4_joined_1 rfl dg_cX4_joined_1297.2.2.2.2.1)
theorem dX4_joined_117 : decode cX4_joined 117 = .ok (.ifCond .ne 7, 3) := dk_154 (ck3s_s (r := 53) dT_cX4_joined_1 rfl dg_cX4_joined_1297.2.2.2.2.2.1)
theorem dX4_joined_120 : decode cX4_joined 120 = .ok (.iconst 0, 1) := dk_3 (ck1_s (r := 56) dT_cX4_joined_1 rfl dg_cX4_joined_1297.2.2.2.2.2.2.1)
theorem dX4_joined_121 : decode cX4_joined 121 = .ok (.goto 6, 3) := dk_167 (ck3s_s (r := 57) dT_cX4_joined_1 rfl dg_cX4_joined_1297.2.2.2.2.2.2.2)
theorem dg_cX4_joined_1298 : ck1L dS_cX4_joined_1 60 27 = true ∧ ck1L dS_cX4_joined_1 61 28 = true ∧ ck1L dS_cX4_joined_1 62 112 = true ∧ ck1L dS_cX4_joined_1 63 172 = true ∧ ck1L dS_cX4_joined_2 0 27 = true ∧ ck1L dS_cX4_joined_2 1 28 = true ∧ ck3sL dS_cX4_joined_2 2 162 7 = true ∧ ck1L dS_cX4_joined_2 5 4 = true := by decide +kernel
theorem dX4_joined_124 : decode cX4_joined 124 = .ok (.iload_n 1, 1) := dk_27 (ck1_s (r := 60) dT_cX4_joined_1 rfl dg_cX4_joined_1298.1)
theorem dX4_joined_125 : decode cX4_joined 125 = .ok (.iload_n 2, 1) := dk_28 (ck1_s (r := 61) dT_cX4_joined_1 rfl dg_cX4_joined_1298.2.1)
theorem dX4_joined_126 : decode cX4_joined 126 = .ok (.irem, 1) := dk_112 (ck1_s (r := 62) dT_cX4_joined_1 rfl dg_cX4_joined_1298.2.2.1)
theorem dX4_joined_127 : decode cX4_joined 127 = .ok (.ireturn, 1) := dk_172 (ck1_s (r := 63) dT_cX4_joined_1 rfl dg_cX4_joined_1298.2.2.2.1)
theorem dX4_joined_128 : decode cX4_joined 128 = .ok (.iload_n 1, 1) := dk_27 (ck1_s (r := 0) dT_cX4_joined_2 rfl dg_cX4_joined_1298.2.2.2.2.1)
theorem dX4_joined_129 : decode cX4_joined 129 = .ok (.iload_n 2, 1) := dk_28 (ck1_s (r := 1) dT_cX4_joined_2 rfl dg_cX4_joined_1298.2.2.2.2.2.1)
theorem dX4_joined_130 : decode cX4_joined 130 = .ok (.if_icmp .ge 7, 3) := dk_162 (ck3s_s (r := 2) dT_cX4_joined_2 rfl dg_cX4_joined_1298.2.2.2.2.2.2.1)
theorem dX4_joined_133 : decode cX4_joined 133 = .ok (.iconst 1, 1) := dk_4 (ck1_s (r := 5) dT_cX4_joined_2 rfl dg_cX4_joined_1298.2.2.2.2.2.2.2)
theorem dg_cX4_joined_1299 : ck3sL dS_cX4_joined_2 6 167 4 = true ∧ ck1L dS_cX4_joined_2 9 3 = true ∧ ck1L dS_cX4_joined_2 10 172 = true ∧ ck1L dS_cX4_joined_2 11 27 = true ∧ ck1L dS_cX4_joined_2 12 28 = true ∧ ck3sL dS_cX4_joined_2 13 164 7 = true ∧ ck1L dS_cX4_joined_2 16 4 = true ∧ ck3sL dS_cX4_joined_2 17 167 4 = true := by decide +kernel
theorem dX4_joined_134 : decode cX4_joined 134 = .ok (.goto 4, 3) := dk_167 (ck3s_s (r := 6) dT_cX4_joined_2 rfl dg_cX4_joined_1299.1)
theorem dX4_joined_137 : decode cX4_joined 137 = .ok (.iconst 0, 1) := dk_3 (ck1_s (r := 9) dT_cX4_joined_2 rfl dg_cX4_joined_1299.2.1)
theorem dX4_joined_138 : decode cX4_joined 138 = .ok (.ireturn, 1) := dk_172 (ck1_s (r := 10) dT_cX4_joined_2 rfl dg_cX4_joined_1299.2.2.1)
theorem dX4_joined_139 : decode cX4_joined 139 = .ok (.iload_n 1, 1) := dk_27 (ck1_s (r := 11) dT_cX4_joined_2 rfl dg_cX4_joined_1299.2.2.2.1)
theorem dX4_joined_140 : decode cX4_joined 140 = .ok (.iload_n 2, 1) := dk_28 (ck1_s (r := 12) dT_cX4_joined_2 rfl dg_cX4_joined_1299.2.2.2.2.1)
theorem dX4_joined_141 : decode cX4_joined 141 = .ok (.if_icmp .le 7, 3) := dk_164 (ck3s_s (r := 13) dT_cX4_joined_2 rfl dg_cX4_joined_1299.2.2.2.2.2.1)
theorem dX4_joined_144 : decode cX4_joined 144 = .ok (.iconst 1, 1) := dk_4 (ck1_s (r := 16) dT_cX4_joined_2 rfl dg_cX4_joined_1299.2.2.2.2.2.2.1)
theorem dX4_joined_145 : decode cX4_joined 145 = .ok (.goto 4, 3) := dk_167 (ck3s_s (r := 17) dT_cX4_joined_2 rfl dg_cX4_joined_1299.2.2.2.2.2.2.2)
theorem dg_cX4_joined_1300 : ck1L dS_cX4_joined_2 20 3 = true ∧ ck1L dS_cX4_joined_2 21 172 = true ∧ ck1L dS_cX4_joined_2 22 27 = true ∧ ck1L dS_cX4_joined_2 23 28 = true ∧ ck3sL dS_cX4_joined_2 24 160 7 = true ∧ ck1L dS_cX4_joined_2 27 4 = true ∧ ck3sL dS_cX4_joined_2 28 167 4 = true ∧ ck1L dS_cX4_joined_2 31 3 = true := by decide +kernel
theorem dX4_joined_148 : decode cX4_joined 148 = .ok (.iconst 0, 1) := dk_3 (ck1_s (r := 20) dT_cX4_joined_2 rfl dg_cX4_joined_1300.1)
theorem dX4_joined_149 : decode cX4_joined 149 = .ok (.ireturn, 1) := dk_172 (ck1_s (r := 21) dT_cX4_joined_2 rfl dg_cX4_joined_1300.2.1)
theorem dX4_joined_150 : decode cX4_joined 150 = .ok (.iload_n 1, 1) := dk_27 (ck1_s (r := 22) dT_cX4_joined_2 rfl dg_cX4_joined_1300.2.2.1)
theorem dX4_joined_151 : decode cX4_joined 151 = .ok (.iload_n 2, 1) := dk_28 (ck1_s (r := 23) dT_cX4_joined_2 rfl dg_cX4_joined_1300.2.2.2.1)
theorem dX4_joined_152 : decode cX4_joined 152 = .ok (.if_icmp .ne 7, 3) := dk_160 (ck3s_s (r := 24) dT_cX4_joined_2 rfl dg_cX4_joined_1300.2.2.2.2.1)
theorem dX4_joined_155 : decode cX4_joined 155 = .ok (.iconst 1, 1) := dk_4 (ck1_s (r := 27) dT_cX4_joined_2 rfl dg_cX4_joined_1300.2.2.2.2.2.1)
theorem dX4_joined_156 : decode cX4_joined 156 = .ok (.goto 4, 3) := dk_167 (ck3s_s (r := 28) dT_cX4_joined_2 rfl dg_cX4_joined_1300.2.2.2.2.2.2.1)
theorem dX4_joined_159 : decode cX4_joined 159 = .ok (.iconst 0, 1) := dk_3 (ck1_s (r := 31) dT_cX4_joined_2 rfl dg_cX4_joined_1300.2.2.2.2.2.2.2)
theorem dg_cX4_joined_1301 : ck1L dS_cX4_joined_2 32 172 = true ∧ ck1L dS_cX4_joined_2 33 27 = true ∧ ck3sL dS_cX4_joined_2 34 153 11 = true ∧ ck1L dS_cX4_joined_2 37 28 = true ∧ ck3sL dS_cX4_joined_2 38 153 7 = true ∧ ck1L dS_cX4_joined_2 41 4 = true ∧ ck3sL dS_cX4_joined_2 42 167 4 = true ∧ ck1L dS_cX4_joined_2 45 3 = true := by decide +kernel
theorem dX4_joined_160 : decode cX4_joined 160 = .ok (.ireturn, 1) := dk_172 (ck1_s (r := 32) dT_cX4_joined_2 rfl dg_cX4_joined_1301.1)
theorem dX4_joined_161 : decode cX4_joined 161 = .ok (.iload_n 1, 1) := dk_27 (ck1_s (r := 33) dT_cX4_joined_2 rfl dg_cX4_joined_1301.2.1)
theorem dX4_joined_162 : decode cX4_joined 162 = .ok (.ifCond .eq 11, 3) := dk_153 (ck3s_s (r := 34) dT_cX4_joined_2 rfl dg_cX4_joined_1301.2.2.1)
theorem dX4_joined_165 : decode cX4_joined 165 = .ok (.iload_n 2, 1) := dk_28 (ck1_s (r := 37) dT_cX4_joined_2 rfl dg_cX4_joined_1301.2.2.2.1)
theorem dX4_joined_166 : decode cX4_joined 166 = .ok (.ifCond .eq 7, 3) := dk_153 (ck3s_s (r := 38) dT_cX4_joined_2 rfl dg_cX4_joined_1301.2.2.2.2.1)
theorem dX4_joined_169 : decode cX4_joined 169 = .ok (.iconst 1, 1) := dk_4 (ck1_s (r := 41) dT_cX4_joined_2 rfl dg_cX4_joined_1301.2.2.2.2.2.1)
theorem dX4_joined_170 : decode cX4_joined 170 = .ok (.goto 4, 3) := dk_167 (ck3s_s (r := 42) dT_cX4_joined_2 rfl dg_cX4_joined_1301.2.2.2.2.2.2.1)
theorem dX4_joined_173 : decode cX4_joined 173 = .ok (.iconst 0, 1) := dk_3 (ck1_s (r := 45) dT_cX4_joined_2 rfl dg_cX4_joined_1301.2.2.2.2.2.2.2)
theorem dg_cX4_joined_1302 : ck1L dS_cX4_joined_2 46 172 = true ∧ ck1L dS_cX4_joined_2 47 27 = true ∧ ck3sL dS_cX4_joined_2 48 154 7 = true ∧ ck1L dS_cX4_joined_2 51 28 = true ∧ ck3sL dS_cX4_joined_2 52 153 7 = true ∧ ck1L dS_cX4_joined_2 55 4 = true ∧ ck3sL dS_cX4_joined_2 56 167 4 = true ∧ ck1L dS_cX4_joined_2 59 3 = true := by decide +kernel
theorem dX4_joined_174 : decode cX4_joined 174 = .ok (.ireturn, 1) := dk_172 (ck1_s (r := 46) dT_cX4_joined_2 rfl dg_cX4_joined_1302.1)
theorem dX4_joined_175 : decode cX4_joined 175 = .ok (.iload_n 1, 1) := dk_27 (ck1_s (r := 47) dT_cX4_joined_2 rfl dg_cX4_joined_1302.2.1)
theorem dX4_joined_176 : decode cX4_joined 176 = .ok (.ifCond .ne 7, 3) := dk_154 (ck3s_s (r := 48) dT_cX4_joined_2 rfl dg_cX4_joined_1302.2.2.1)
theorem dX4_joined_179 : decode cX4_joined 179 = .ok (.iload_n 2, 1) := dk_28 (ck1_s (r := 51) dT_cX4_joined_2 rfl dg_cX4_joined_1302.2.2.2.1)
theorem dX4_joined_180 : decode cX4_joined 180 = .ok (.ifCond .eq 7, 3) := dk_153 (ck3s_s (r := 52) dT_cX4_joined_2 rfl dg_cX4_joined_1302.2.2.2.2.1)
theorem dX4_joined_183 : decode cX4_joined 183 = .ok (.iconst 1, 1) := dk_4 (ck1_s (r := 55) dT_cX4_joined_2 rfl dg_cX4_joined_1302.2.2.2.2.2.1)
theorem dX4_joined_184 : decode cX4_joined 184 = .ok (.goto 4, 3) := dk_167 (ck3s_s (r := 56) dT_cX4_joined_2 rfl dg_cX4_joined_1302.2.2.2.2.2.2.1)
theorem dX4_joined_187 : decode cX4_joined 187 = .ok (.iconst 0, 1) := dk_3 (ck1_s (r := 59) dT_cX4_joined_2 rfl dg_cX4_joined_1302.2.2.2.2.2.2.2)
theorem dg_cX4_joined_1303 : ck1L dS_cX4_joined_2 60 172 = true ∧ ck1L dS_cX4_joined_2 61 3 = true ∧ ck1L dS_cX4_joined_2 62 172 = true := by decide +kernel
theorem dX4_joined_188 : decode cX4_joined 188 = .ok (.ireturn, 1) := dk_172 (ck1_s (r := 60) dT_cX4_joined_2 rfl dg_cX4_joined_1303.1)
theorem dX4_joined_189 : decode cX4_joined 189 = .ok (.iconst 0, 1) := dk_3 (ck1_s (r := 61) dT_cX4_joined_2 rfl dg_cX4_joined_1303.2.1)
theorem dX4_joined_190 : decode cX4_joined 190 = .ok (.ireturn, 1) := dk_172 (ck1_s (r := 62) dT_cX4_joined_2 rfl dg_cX4_joined_1303.2.2)
theorem dg_cX4_worth_1304 : ck1 cX4_worth 0 42 = true ∧ ck3 cX4_worth 1 180 21 = true ∧ ck1 cX4_worth 4 3 = true ∧ ck1 cX4_worth 5 3 = true ∧ ck1 cX4_worth 6 28 = true ∧ ck2 cX4_worth 7 21 4 = true ∧ ck1 cX4_worth 9 100 = true ∧ ck3 cX4_worth 10 184 37 = true := by decide +kernel
theorem dX4_worth_0 : decode cX4_worth 0 = .ok (.aload_n 0, 1) := dk_42 dg_cX4_worth_1304.1
theorem dX4_worth_1 : decode cX4_worth 1 = .ok (.getfield 21, 3) := dk_180 dg_cX4_worth_1304.2.1
theorem dX4_worth_4 : decode cX4_worth 4 = .ok (.iconst 0, 1) := dk_3 dg_cX4_worth_1304.2.2.1
theorem dX4_worth_5 : decode cX4_worth 5 = .ok (.iconst 0, 1) := dk_3 dg_cX4_worth_1304.2.2.2.1
theorem dX4_worth_6 : decode cX4_worth 6 = .ok (.iload_n 2, 1) := dk_28 dg_cX4_worth_1304.2.2.2.2.1
theorem dX4_worth_7 : decode cX4_worth 7 = .ok (.iload 4, 2) := dk_21 dg_cX4_worth_1304.2.2.2.2.2.1
theorem dX4_worth_9 : decode cX4_worth 9 = .ok (.isub, 1) := dk_100 dg_cX4_worth_1304.2.2.2.2.2.2.1
theorem dX4_worth_10 : decode cX4_worth 10 = .ok (.invokestatic 37, 3) := dk_184 dg_cX4_worth_1304.2.2.2.2.2.2.2
theorem dg_cX4_worth_1305 : ck1 cX4_worth 13 79 = true ∧ ck1 cX4_worth 14 42 = true ∧ ck3 cX4_worth 15 180 21 = true ∧ ck1 cX4_worth 18 4 = true ∧ ck1 cX4_worth 19 3 = true ∧ ck2 cX4_worth 20 21 4 = true ∧ ck1 cX4_worth 22 28 = true ∧ ck1 cX4_worth 23 100 = true := by decide +kernel
theorem dX4_worth_13 : decode cX4_worth 13 = .ok (.iastore, 1) := dk_79 dg_cX4_worth_1305.1
theorem dX4_worth_14 : decode cX4_worth 14 = .ok (.aload_n 0, 1) := dk_42 dg_cX4_worth_1305.2.1
theorem dX4_worth_15 : decode cX4_worth 15 = .ok (.getfield 21, 3) := dk_180 dg_cX4_worth_1305.2.2.1
theorem dX4_worth_18 : decode cX4_worth 18 = .ok (.iconst 1, 1) := dk_4 dg_cX4_worth_1305.2.2.2.1
theorem dX4_worth_19 : decode cX4_worth 19 = .ok (.iconst 0, 1) := dk_3 dg_cX4_worth_1305.2.2.2.2.1
theorem dX4_worth_20 : decode cX4_worth 20 = .ok (.iload 4, 2) := dk_21 dg_cX4_worth_1305.2.2.2.2.2.1
theorem dX4_worth_22 : decode cX4_worth 22 = .ok (.iload_n 2, 1) := dk_28 dg_cX4_worth_1305.2.2.2.2.2.2.1
theorem dX4_worth_23 : decode cX4_worth 23 = .ok (.isub, 1) := dk_100 dg_cX4_worth_1305.2.2.2.2.2.2.2
theorem dg_cX4_worth_1306 : ck3 cX4_worth 24 184 37 = true ∧ ck1 cX4_worth 27 79 = true ∧ ck1 cX4_worth 28 42 = true ∧ ck3 cX4_worth 29 180 21 = true ∧ ck1 cX4_worth 32 5 = true ∧ ck1 cX4_worth 33 3 = true ∧ ck1 cX4_worth 34 27 = true ∧ ck1 cX4_worth 35 29 = true := by decide +kernel
theorem dX4_worth_24 : decode cX4_worth 24 = .ok (.invokestatic 37, 3) := dk_184 dg_cX4_worth_1306.1
theorem dX4_worth_27 : decode cX4_worth 27 = .ok (.iastore, 1) := dk_79 dg_cX4_worth_1306.2.1
theorem dX4_worth_28 : decode cX4_worth 28 = .ok (.aload_n 0, 1) := dk_42 dg_cX4_worth_1306.2.2.1
theorem dX4_worth_29 : decode cX4_worth 29 = .ok (.getfield 21, 3) := dk_180 dg_cX4_worth_1306.2.2.2.1
theorem dX4_worth_32 : decode cX4_worth 32 = .ok (.iconst 2, 1) := dk_5 dg_cX4_worth_1306.2.2.2.2.1
theorem dX4_worth_33 : decode cX4_worth 33 = .ok (.iconst 0, 1) := dk_3 dg_cX4_worth_1306.2.2.2.2.2.1
theorem dX4_worth_34 : decode cX4_worth 34 = .ok (.iload_n 1, 1) := dk_27 dg_cX4_worth_1306.2.2.2.2.2.2.1
theorem dX4_worth_35 : decode cX4_worth 35 = .ok (.iload_n 3, 1) := dk_29 dg_cX4_worth_1306.2.2.2.2.2.2.2
theorem dg_cX4_worth_1307 : ck1 cX4_worth 36 100 = true ∧ ck3 cX4_worth 37 184 37 = true ∧ ck1 cX4_worth 40 79 = true ∧ ck1 cX4_worth 41 42 = true ∧ ck3 cX4_worth 42 180 21 = true ∧ ck1 cX4_worth 45 6 = true ∧ ck1 cX4_worth 46 3 = true ∧ ck1 cX4_worth 47 29 = true := by decide +kernel
theorem dX4_worth_36 : decode cX4_worth 36 = .ok (.isub, 1) := dk_100 dg_cX4_worth_1307.1
theorem dX4_worth_37 : decode cX4_worth 37 = .ok (.invokestatic 37, 3) := dk_184 dg_cX4_worth_1307.2.1
theorem dX4_worth_40 : decode cX4_worth 40 = .ok (.iastore, 1) := dk_79 dg_cX4_worth_1307.2.2.1
theorem dX4_worth_41 : decode cX4_worth 41 = .ok (.aload_n 0, 1) := dk_42 dg_cX4_worth_1307.2.2.2.1
theorem dX4_worth_42 : decode cX4_worth 42 = .ok (.getfield 21, 3) := dk_180 dg_cX4_worth_1307.2.2.2.2.1
theorem dX4_worth_45 : decode cX4_worth 45 = .ok (.iconst 3, 1) := dk_6 dg_cX4_worth_1307.2.2.2.2.2.1
theorem dX4_worth_46 : decode cX4_worth 46 = .ok (.iconst 0, 1) := dk_3 dg_cX4_worth_1307.2.2.2.2.2.2.1
theorem dX4_worth_47 : decode cX4_worth 47 = .ok (.iload_n 3, 1) := dk_29 dg_cX4_worth_1307.2.2.2.2.2.2.2
theorem dg_cX4_worth_1308 : ck1 cX4_worth 48 27 = true ∧ ck1 cX4_worth 49 100 = true ∧ ck3 cX4_worth 50 184 37 = true ∧ ck1 cX4_worth 53 79 = true ∧ ck1 cX4_worth 54 42 = true ∧ ck3 cX4_worth 55 180 21 = true ∧ ck1 cX4_worth 58 7 = true ∧ ck2 cX4_worth 59 21 5 = true := by decide +kernel
theorem dX4_worth_48 : decode cX4_worth 48 = .ok (.iload_n 1, 1) := dk_27 dg_cX4_worth_1308.1
theorem dX4_worth_49 : decode cX4_worth 49 = .ok (.isub, 1) := dk_100 dg_cX4_worth_1308.2.1
theorem dX4_worth_50 : decode cX4_worth 50 = .ok (.invokestatic 37, 3) := dk_184 dg_cX4_worth_1308.2.2.1
theorem dX4_worth_53 : decode cX4_worth 53 = .ok (.iastore, 1) := dk_79 dg_cX4_worth_1308.2.2.2.1
theorem dX4_worth_54 : decode cX4_worth 54 = .ok (.aload_n 0, 1) := dk_42 dg_cX4_worth_1308.2.2.2.2.1
theorem dX4_worth_55 : decode cX4_worth 55 = .ok (.getfield 21, 3) := dk_180 dg_cX4_worth_1308.2.2.2.2.2.1
theorem dX4_worth_58 : decode cX4_worth 58 = .ok (.iconst 4, 1) := dk_7 dg_cX4_worth_1308.2.2.2.2.2.2.1
theorem dX4_worth_59 : decode cX4_worth 59 = .ok (.iload 5, 2) := dk_21 dg_cX4_worth_1308.2.2.2.2.2.2.2
theorem dg_cX4_worth_1309 : ck1 cX4_worth 61 79 = true ∧ ck1 cX4_worth 62 42 = true ∧ ck3 cX4_worth 63 180 21 = true := by decide +kernel
theorem dX4_worth_61 : decode cX4_worth 61 = .ok (.iastore, 1) := dk_79 dg_cX4_worth_1309.1
theorem dX4_worth_62 : decode cX4_worth 62 = .ok (.aload_n 0, 1) := dk_42 dg_cX4_worth_1309.2.1
theorem dX4_worth_63 : decode cX4_worth 63 = .ok (.getfield 21, 3) := dk_180 dg_cX4_worth_1309.2.2
def dS_cX4_worth_5 : List UInt8 := 37 :: 172 :: []
def dS_cX4_worth_4 : List UInt8 := 0 :: 44 :: 21 :: 7 :: 5 :: 161 :: 0 :: 38 :: 42 :: 180 :: 0 :: 18 :: 21 :: 7 :: 5 :: 100 :: 21 :: 9 :: 42 :: 180 :: 0 :: 18 :: 21 :: 7 :: 5 :: 100 :: 46 :: 42 :: 180 :: 0 :: 18 :: 21 :: 7 :: 4 :: 100 :: 46 :: 184 :: 0 :: 46 :: 79 :: 132 :: 7 :: 255 :: 132 :: 8 :: 1 :: 167 :: 255 :: 78 :: 3 :: 17 :: 3 :: 231 :: 42 :: 180 :: 0 :: 18 :: 3 :: 46 :: 184 :: 0 :: 43 :: 184 :: 0 :: dS_cX4_worth_5
def dS_cX4_worth_3 : List UInt8 := 15 :: 21 :: 8 :: 46 :: 167 :: 0 :: 13 :: 42 :: 180 :: 0 :: 21 :: 21 :: 9 :: 16 :: 116 :: 100 :: 46 :: 79 :: 132 :: 7 :: 1 :: 167 :: 0 :: 86 :: 21 :: 9 :: 16 :: 115 :: 160 :: 0 :: 38 :: 21 :: 7 :: 4 :: 161 :: 0 :: 32 :: 42 :: 180 :: 0 :: 18 :: 21 :: 7 :: 4 :: 100 :: 42 :: 180 :: 0 :: 18 :: 21 :: 7 :: 4 :: 100 :: 46 :: 154 :: 0 :: 7 :: 4 :: 167 :: 0 :: 4 :: 3 :: 79 :: 167 :: dS_cX4_worth_4
def dS_cX4_worth_2 : List UInt8 := 0 :: 24 :: 162 :: 0 :: 175 :: 21 :: 8 :: 17 :: 1 :: 44 :: 162 :: 0 :: 167 :: 42 :: 180 :: 0 :: 11 :: 21 :: 8 :: 46 :: 54 :: 9 :: 21 :: 9 :: 5 :: 159 :: 0 :: 17 :: 21 :: 9 :: 16 :: 116 :: 161 :: 0 :: 56 :: 21 :: 9 :: 16 :: 122 :: 162 :: 0 :: 49 :: 21 :: 7 :: 16 :: 30 :: 162 :: 0 :: 125 :: 42 :: 180 :: 0 :: 18 :: 21 :: 7 :: 21 :: 9 :: 5 :: 160 :: 0 :: 13 :: 42 :: 180 :: 0 :: dS_cX4_worth_3
def dS_cX4_worth_1 : List UInt8 := 0 :: 21 :: 8 :: 21 :: 6 :: 79 :: 42 :: 180 :: 0 :: 24 :: 154 :: 0 :: 44 :: 17 :: 3 :: 231 :: 42 :: 180 :: 0 :: 21 :: 3 :: 46 :: 6 :: 104 :: 42 :: 180 :: 0 :: 21 :: 4 :: 46 :: 96 :: 42 :: 180 :: 0 :: 21 :: 5 :: 46 :: 5 :: 104 :: 96 :: 42 :: 180 :: 0 :: 21 :: 6 :: 46 :: 96 :: 21 :: 5 :: 96 :: 184 :: 0 :: 43 :: 172 :: 3 :: 54 :: 7 :: 3 :: 54 :: 8 :: 21 :: 8 :: 42 :: 180 :: dS_cX4_worth_2
def dS_cX4_worth_0 : List UInt8 := 42 :: 180 :: 0 :: 21 :: 3 :: 3 :: 28 :: 21 :: 4 :: 100 :: 184 :: 0 :: 37 :: 79 :: 42 :: 180 :: 0 :: 21 :: 4 :: 3 :: 21 :: 4 :: 28 :: 100 :: 184 :: 0 :: 37 :: 79 :: 42 :: 180 :: 0 :: 21 :: 5 :: 3 :: 27 :: 29 :: 100 :: 184 :: 0 :: 37 :: 79 :: 42 :: 180 :: 0 :: 21 :: 6 :: 3 :: 29 :: 27 :: 100 :: 184 :: 0 :: 37 :: 79 :: 42 :: 180 :: 0 :: 21 :: 7 :: 21 :: 5 :: 79 :: 42 :: 180 :: dS_cX4_worth_1
theorem dT_cX4_worth_0 : cX4_worth.data.toList.drop 0 = dS_cX4_worth_0 := by decide +kernel
theorem dT_cX4_worth_1 : cX4_worth.data.toList.drop 64 = dS_cX4_worth_1 := ck_nx dT_cX4_worth_0 (by decide +kernel) rfl
theorem dT_cX4_worth_2 : cX4_worth.data.toList.drop 128 = dS_cX4_worth_2 := ck_nx dT_cX4_worth_1 (by decide +kernel) rfl
theorem dT_cX4_worth_3 : cX4_worth.data.toList.drop 192 = dS_cX4_worth_3 := ck_nx dT_cX4_worth_2 (by decide +kernel) rfl
theorem dT_cX4_worth_4 : cX4_worth.data.toList.drop 256 = dS_cX4_worth_4 := ck_nx dT_cX4_worth_3 (by decide +kernel) rfl
theorem dT_cX4_worth_5 : cX4_worth.data.toList.drop 320 = dS_cX4_worth_5 := ck_nx dT_cX4_worth_4 (by decide +kernel) rfl
theorem dg_cX4_worth_1310 : ck1L dS_cX4_worth_1 2 8 = true ∧ ck2L dS_cX4_worth_1 3 21 6 = true ∧ ck1L dS_cX4_worth_1 5 79 = true ∧ ck1L dS_cX4_worth_1 6 42 = true ∧ ck3L dS_cX4_worth_1 7 180 24 = true ∧ ck3sL dS_cX4_worth_1 10 154 44 = true ∧ ck3sL dS_cX4_worth_1 13 17 999 = true ∧ ck1L dS_cX4_worth_1 16 42 = true := by decide +kernel
theorem dX4_worth_66 : decode cX4_worth 66 = .ok (.iconst 5, 1) := dk_8 (ck1_s (r := 2) dT_cX4_worth_1 rfl dg_cX4_worth_1310.1)
theorem dX4_worth_67 : decode cX4_worth 67 = .ok (.iload 6, 2) := dk_21 (ck2_s (r := 3) dT_cX4_worth_1 rfl dg_cX4_worth_1310.2.1)
theorem dX4_worth_69 : decode cX4_worth 69 = .ok (.iastore, 1) := dk_79 (ck1_s (r := 5) dT_cX4_worth_1 rfl dg_cX4_worth_1310.2.2.1)
theorem dX4_worth_70 : decode cX4_worth 70 = .ok (.aload_n 0, 1) := dk_42 (ck1_s (r := 6) dT_cX4_worth_1 rfl dg_cX4_worth_1310.2.2.2.1)
theorem dX4_worth_71 : decode cX4_worth 71 = .ok (.getfield 24, 3) := dk_180 (ck3_s (r := 7) dT_cX4_worth_1 rfl dg_cX4_worth_1310.2.2.2.2.1)
theorem dX4_worth_74 : decode cX4_worth 74 = .ok (.ifCond .ne 44, 3) := dk_154 (ck3s_s (r := 10) dT_cX4_worth_1 rfl dg_cX4_worth_1310.2.2.2.2.2.1)
theorem dX4_worth_77 : decode cX4_worth 77 = .ok (.sipush 999, 3) := dk_17 (ck3s_s (r := 13) dT_cX4_worth_1 rfl dg_cX4_worth_1310.2.2.2.2.2.2.1)
theorem dX4_worth_80 : decode cX4_worth 80 = .ok (.aload_n 0, 1) := dk_42 (ck1_s (r := 16) dT_cX4_worth_1 rfl dg_cX4_worth_1310.2.2.2.2.2.2.2)
theorem dg_cX4_worth_1311 : ck3L dS_cX4_worth_1 17 180 21 = true ∧ ck1L dS_cX4_worth_1 20 3 = true ∧ ck1L dS_cX4_worth_1 21 46 = true ∧ ck1L dS_cX4_worth_1 22 6 = true ∧ ck1L dS_cX4_worth_1 23 104 = true ∧ ck1L dS_cX4_worth_1 24 42 = true ∧ ck3L dS_cX4_worth_1 25 180 21 = true ∧ ck1L dS_cX4_worth_1 28 4 = true := by decide +kernel
theorem dX4_worth_81 : decode cX4_worth 81 = .ok (.getfield 21, 3) := dk_180 (ck3_s (r := 17) dT_cX4_worth_1 rfl dg_cX4_worth_1311.1)
theorem dX4_worth_84 : decode cX4_worth 84 = .ok (.iconst 0, 1) := dk_3 (ck1_s (r := 20) dT_cX4_worth_1 rfl dg_cX4_worth_1311.2.1)
theorem dX4_worth_85 : decode cX4_worth 85 = .ok (.iaload, 1) := dk_46 (ck1_s (r := 21) dT_cX4_worth_1 rfl dg_cX4_worth_1311.2.2.1)
theorem dX4_worth_86 : decode cX4_worth 86 = .ok (.iconst 3, 1) := dk_6 (ck1_s (r := 22) dT_cX4_worth_1 rfl dg_cX4_worth_1311.2.2.2.1)
theorem dX4_worth_87 : decode cX4_worth 87 = .ok (.imul, 1) := dk_104 (ck1_s (r := 23) dT_cX4_worth_1 rfl dg_cX4_worth_1311.2.2.2.2.1)
theorem dX4_worth_88 : decode cX4_worth 88 = .ok (.aload_n 0, 1) := dk_42 (ck1_s (r := 24) dT_cX4_worth_1 rfl dg_cX4_worth_1311.2.2.2.2.2.1)
theorem dX4_worth_89 : decode cX4_worth 89 = .ok (.getfield 21, 3) := dk_180 (ck3_s (r := 25) dT_cX4_worth_1 rfl dg_cX4_worth_1311.2.2.2.2.2.2.1)
theorem dX4_worth_92 : decode cX4_worth 92 = .ok (.iconst 1, 1) := dk_4 (ck1_s (r := 28) dT_cX4_worth_1 rfl dg_cX4_worth_1311.2.2.2.2.2.2.2)
theorem dg_cX4_worth_1312 : ck1L dS_cX4_worth_1 29 46 = true ∧ ck1L dS_cX4_worth_1 30 96 = true ∧ ck1L dS_cX4_worth_1 31 42 = true ∧ ck3L dS_cX4_worth_1 32 180 21 = true ∧ ck1L dS_cX4_worth_1 35 5 = true ∧ ck1L dS_cX4_worth_1 36 46 = true ∧ ck1L dS_cX4_worth_1 37 5 = true ∧ ck1L dS_cX4_worth_1 38 104 = true := by decide +kernel
theorem dX4_worth_93 : decode cX4_worth 93 = .ok (.iaload, 1) := dk_46 (ck1_s (r := 29) dT_cX4_worth_1 rfl dg_cX4_worth_1312.1)
theorem dX4_worth_94 : decode cX4_worth 94 = .ok (.iadd, 1) := dk_96 (ck1_s (r := 30) dT_cX4_worth_1 rfl dg_cX4_worth_1312.2.1)
theorem dX4_worth_95 : decode cX4_worth 95 = .ok (.aload_n 0, 1) := dk_42 (ck1_s (r := 31) dT_cX4_worth_1 rfl dg_cX4_worth_1312.2.2.1)
theorem dX4_worth_96 : decode cX4_worth 96 = .ok (.getfield 21, 3) := dk_180 (ck3_s (r := 32) dT_cX4_worth_1 rfl dg_cX4_worth_1312.2.2.2.1)
theorem dX4_worth_99 : decode cX4_worth 99 = .ok (.iconst 2, 1) := dk_5 (ck1_s (r := 35) dT_cX4_worth_1 rfl dg_cX4_worth_1312.2.2.2.2.1)
theorem dX4_worth_100 : decode cX4_worth 100 = .ok (.iaload, 1) := dk_46 (ck1_s (r := 36) dT_cX4_worth_1 rfl dg_cX4_worth_1312.2.2.2.2.2.1)
theorem dX4_worth_101 : decode cX4_worth 101 = .ok (.iconst 2, 1) := dk_5 (ck1_s (r := 37) dT_cX4_worth_1 rfl dg_cX4_worth_1312.2.2.2.2.2.2.1)
theorem dX4_worth_102 : decode cX4_worth 102 = .ok (.imul, 1) := dk_104 (ck1_s (r := 38) dT_cX4_worth_1 rfl dg_cX4_worth_1312.2.2.2.2.2.2.2)
theorem dg_cX4_worth_1313 : ck1L dS_cX4_worth_1 39 96 = true ∧ ck1L dS_cX4_worth_1 40 42 = true ∧ ck3L dS_cX4_worth_1 41 180 21 = true ∧ ck1L dS_cX4_worth_1 44 6 = true ∧ ck1L dS_cX4_worth_1 45 46 = true ∧ ck1L dS_cX4_worth_1 46 96 = true ∧ ck2L dS_cX4_worth_1 47 21 5 = true ∧ ck1L dS_cX4_worth_1 49 96 = true := by decide +kernel
theorem dX4_worth_103 : decode cX4_worth 103 = .ok (.iadd, 1) := dk_96 (ck1_s (r := 39) dT_cX4_worth_1 rfl dg_cX4_worth_1313.1)
theorem dX4_worth_104 : decode cX4_worth 104 = .ok (.aload_n 0, 1) := dk_42 (ck1_s (r := 40) dT_cX4_worth_1 rfl dg_cX4_worth_1313.2.1)
theorem dX4_worth_105 : decode cX4_worth 105 = .ok (.getfield 21, 3) := dk_180 (ck3_s (r := 41) dT_cX4_worth_1 rfl dg_cX4_worth_1313.2.2.1)
theorem dX4_worth_108 : decode cX4_worth 108 = .ok (.iconst 3, 1) := dk_6 (ck1_s (r := 44) dT_cX4_worth_1 rfl dg_cX4_worth_1313.2.2.2.1)
theorem dX4_worth_109 : decode cX4_worth 109 = .ok (.iaload, 1) := dk_46 (ck1_s (r := 45) dT_cX4_worth_1 rfl dg_cX4_worth_1313.2.2.2.2.1)
theorem dX4_worth_110 : decode cX4_worth 110 = .ok (.iadd, 1) := dk_96 (ck1_s (r := 46) dT_cX4_worth_1 rfl dg_cX4_worth_1313.2.2.2.2.2.1)
theorem dX4_worth_111 : decode cX4_worth 111 = .ok (.iload 5, 2) := dk_21 (ck2_s (r := 47) dT_cX4_worth_1 rfl dg_cX4_worth_1313.2.2.2.2.2.2.1)
theorem dX4_worth_113 : decode cX4_worth 113 = .ok (.iadd, 1) := dk_96 (ck1_s (r := 49) dT_cX4_worth_1 rfl dg_cX4_worth_1313.2.2.2.2.2.2.2)
theorem dg_cX4_worth_1314 : ck3L dS_cX4_worth_1 50 184 43 = true ∧ ck1L dS_cX4_worth_1 53 172 = true ∧ ck1L dS_cX4_worth_1 54 3 = true ∧ ck2L dS_cX4_worth_1 55 54 7 = true ∧ ck1L dS_cX4_worth_1 57 3 = true ∧ ck2L dS_cX4_worth_1 58 54 8 = true ∧ ck2L dS_cX4_worth_1 60 21 8 = true ∧ ck1L dS_cX4_worth_1 62 42 = true := by decide +kernel
theorem dX4_worth_114 : decode cX4_worth 114 = .ok (.invokestatic 43, 3) := dk_184 (ck3_s (r := 50) dT_cX4_worth_1 rfl dg_cX4_worth_1314.1)
theorem dX4_worth_117 : decode cX4_worth 117 = .ok (.ireturn, 1) := dk_172 (ck1_s (r := 53) dT_cX4_worth_1 rfl dg_cX4_worth_1314.2.1)
theorem dX4_worth_118 : decode cX4_worth 118 = .ok (.iconst 0, 1) := dk_3 (ck1_s (r := 54) dT_cX4_worth_1 rfl dg_cX4_worth_1314.2.2.1)
theorem dX4_worth_119 : decode cX4_worth 119 = .ok (.istore 7, 2) := dk_54 (ck2_s (r := 55) dT_cX4_worth_1 rfl dg_cX4_worth_1314.2.2.2.1)
theorem dX4_worth_121 : decode cX4_worth 121 = .ok (.iconst 0, 1) := dk_3 (ck1_s (r := 57) dT_cX4_worth_1 rfl dg_cX4_worth_1314.2.2.2.2.1)
theorem dX4_worth_122 : decode cX4_worth 122 = .ok (.istore 8, 2) := dk_54 (ck2_s (r := 58) dT_cX4_worth_1 rfl dg_cX4_worth_1314.2.2.2.2.2.1)
theorem dX4_worth_124 : decode cX4_worth 124 = .ok (.iload 8, 2) := dk_21 (ck2_s (r := 60) dT_cX4_worth_1 rfl dg_cX4_worth_1314.2.2.2.2.2.2.1)
theorem dX4_worth_126 : decode cX4_worth 126 = .ok (.aload_n 0, 1) := dk_42 (ck1_s (r := 62) dT_cX4_worth_1 rfl dg_cX4_worth_1314.2.2.2.2.2.2.2)
theorem dg_cX4_worth_1315 : ck3L dS_cX4_worth_1 63 180 24 = true ∧ ck3sL dS_cX4_worth_2 2 162 175 = true ∧ ck2L dS_cX4_worth_2 5 21 8 = true ∧ ck3sL dS_cX4_worth_2 7 17 300 = true ∧ ck3sL dS_cX4_worth_2 10 162 167 = true ∧ ck1L dS_cX4_worth_2 13 42 = true ∧ ck3L dS_cX4_worth_2 14 180 11 = true ∧ ck2L dS_cX4_worth_2 17 21 8 = true := by decide +kernel
theorem dX4_worth_127 : decode cX4_worth 127 = .ok (.getfield 24, 3) := dk_180 (ck3_s (r := 63) dT_cX4_worth_1 rfl dg_cX4_worth_1315.1)
theorem dX4_worth_130 : decode cX4_worth 130 = .ok (.if_icmp .ge 175, 3) := dk_162 (ck3s_s (r := 2) dT_cX4_worth_2 rfl dg_cX4_worth_1315.2.1)
theorem dX4_worth_133 : decode cX4_worth 133 = .ok (.iload 8, 2) := dk_21 (ck2_s (r := 5) dT_cX4_worth_2 rfl dg_cX4_worth_1315.2.2.1)
theorem dX4_worth_135 : decode cX4_worth 135 = .ok (.sipush 300, 3) := dk_17 (ck3s_s (r := 7) dT_cX4_worth_2 rfl dg_cX4_worth_1315.2.2.2.1)
theorem dX4_worth_138 : decode cX4_worth 138 = .ok (.if_icmp .ge 167, 3) := dk_162 (ck3s_s (r := 10) dT_cX4_worth_2 rfl dg_cX4_worth_1315.2.2.2.2.1)
theorem dX4_worth_141 : decode cX4_worth 141 = .ok (.aload_n 0, 1) := dk_42 (ck1_s (r := 13) dT_cX4_worth_2 rfl dg_cX4_worth_1315.2.2.2.2.2.1)
theorem dX4_worth_142 : decode cX4_worth 142 = .ok (.getfield 11, 3) := dk_180 (ck3_s (r := 14) dT_cX4_worth_2 rfl dg_cX4_worth_1315.2.2.2.2.2.2.1)
theorem dX4_worth_145 : decode cX4_worth 145 = .ok (.iload 8, 2) := dk_21 (ck2_s (r := 17) dT_cX4_worth_2 rfl dg_cX4_worth_1315.2.2.2.2.2.2.2)
theorem dg_cX4_worth_1316 : ck1L dS_cX4_worth_2 19 46 = true ∧ ck2L dS_cX4_worth_2 20 54 9 = true ∧ ck2L dS_cX4_worth_2 22 21 9 = true ∧ ck1L dS_cX4_worth_2 24 5 = true ∧ ck3sL dS_cX4_worth_2 25 159 17 = true ∧ ck2L dS_cX4_worth_2 28 21 9 = true ∧ ck2sL dS_cX4_worth_2 30 16 116 = true ∧ ck3sL dS_cX4_worth_2 32 161 56 = true := by decide +kernel
theorem dX4_worth_147 : decode cX4_worth 147 = .ok (.iaload, 1) := dk_46 (ck1_s (r := 19) dT_cX4_worth_2 rfl dg_cX4_worth_1316.1)
theorem dX4_worth_148 : decode cX4_worth 148 = .ok (.istore 9, 2) := dk_54 (ck2_s (r := 20) dT_cX4_worth_2 rfl dg_cX4_worth_1316.2.1)
theorem dX4_worth_150 : decode cX4_worth 150 = .ok (.iload 9, 2) := dk_21 (ck2_s (r := 22) dT_cX4_worth_2 rfl dg_cX4_worth_1316.2.2.1)
theorem dX4_worth_152 : decode cX4_worth 152 = .ok (.iconst 2, 1) := dk_5 (ck1_s (r := 24) dT_cX4_worth_2 rfl dg_cX4_worth_1316.2.2.2.1)
theorem dX4_worth_153 : decode cX4_worth 153 = .ok (.if_icmp .eq 17, 3) := dk_159 (ck3s_s (r := 25) dT_cX4_worth_2 rfl dg_cX4_worth_1316.2.2.2.2.1)
theorem dX4_worth_156 : decode cX4_worth 156 = .ok (.iload 9, 2) := dk_21 (ck2_s (r := 28) dT_cX4_worth_2 rfl dg_cX4_worth_1316.2.2.2.2.2.1)
theorem dX4_worth_158 : decode cX4_worth 158 = .ok (.bipush 116, 2) := dk_16 (ck2s_s (r := 30) dT_cX4_worth_2 rfl dg_cX4_worth_1316.2.2.2.2.2.2.1)
theorem dX4_worth_160 : decode cX4_worth 160 = .ok (.if_icmp .lt 56, 3) := dk_161 (ck3s_s (r := 32) dT_cX4_worth_2 rfl dg_cX4_worth_1316.2.2.2.2.2.2.2)
theorem dg_cX4_worth_1317 : ck2L dS_cX4_worth_2 35 21 9 = true ∧ ck2sL dS_cX4_worth_2 37 16 122 = true ∧ ck3sL dS_cX4_worth_2 39 162 49 = true ∧ ck2L dS_cX4_worth_2 42 21 7 = true ∧ ck2sL dS_cX4_worth_2 44 16 30 = true ∧ ck3sL dS_cX4_worth_2 46 162 125 = true ∧ ck1L dS_cX4_worth_2 49 42 = true ∧ ck3L dS_cX4_worth_2 50 180 18 = true := by decide +kernel
theorem dX4_worth_163 : decode cX4_worth 163 = .ok (.iload 9, 2) := dk_21 (ck2_s (r := 35) dT_cX4_worth_2 rfl dg_cX4_worth_1317.1)
theorem dX4_worth_165 : decode cX4_worth 165 = .ok (.bipush 122, 2) := dk_16 (ck2s_s (r := 37) dT_cX4_worth_2 rfl dg_cX4_worth_1317.2.1)
theorem dX4_worth_167 : decode cX4_worth 167 = .ok (.if_icmp .ge 49, 3) := dk_162 (ck3s_s (r := 39) dT_cX4_worth_2 rfl dg_cX4_worth_1317.2.2.1)
theorem dX4_worth_170 : decode cX4_worth 170 = .ok (.iload 7, 2) := dk_21 (ck2_s (r := 42) dT_cX4_worth_2 rfl dg_cX4_worth_1317.2.2.2.1)
theorem dX4_worth_172 : decode cX4_worth 172 = .ok (.bipush 30, 2) := dk_16 (ck2s_s (r := 44) dT_cX4_worth_2 rfl dg_cX4_worth_1317.2.2.2.2.1)
theorem dX4_worth_174 : decode cX4_worth 174 = .ok (.if_icmp .ge 125, 3) := dk_162 (ck3s_s (r := 46) dT_cX4_worth_2 rfl dg_cX4_worth_1317.2.2.2.2.2.1)
theorem dX4_worth_177 : decode cX4_worth 177 = .ok (.aload_n 0, 1) := dk_42 (ck1_s (r := 49) dT_cX4_worth_2 rfl dg_cX4_worth_1317.2.2.2.2.2.2.1)
theorem dX4_worth_178 : decode cX4_worth 178 = .ok (.getfield 18, 3) := dk_180 (ck3_s (r := 50) dT_cX4_worth_2 rfl dg_cX4_worth_1317.2.2.2.2.2.2.2)
theorem dg_cX4_worth_1318 : ck2L dS_cX4_worth_2 53 21 7 = true ∧ ck2L dS_cX4_worth_2 55 21 9 = true ∧ ck1L dS_cX4_worth_2 57 5 = true ∧ ck3sL dS_cX4_worth_2 58 160 13 = true ∧ ck1L dS_cX4_worth_2 61 42 = true ∧ ck3L dS_cX4_worth_2 62 180 15 = true ∧ ck2L dS_cX4_worth_3 1 21 8 = true ∧ ck1L dS_cX4_worth_3 3 46 = true := by decide +kernel
theorem dX4_worth_181 : decode cX4_worth 181 = .ok (.iload 7, 2) := dk_21 (ck2_s (r := 53) dT_cX4_worth_2 rfl dg_cX4_worth_1318.1)
theorem dX4_worth_183 : decode cX4_worth 183 = .ok (.iload 9, 2) := dk_21 (ck2_s (r := 55) dT_cX4_worth_2 rfl dg_cX4_worth_1318.2.1)
theorem dX4_worth_185 : decode cX4_worth 185 = .ok (.iconst 2, 1) := dk_5 (ck1_s (r := 57) dT_cX4_worth_2 rfl dg_cX4_worth_1318.2.2.1)
theorem dX4_worth_186 : decode cX4_worth 186 = .ok (.if_icmp .ne 13, 3) := dk_160 (ck3s_s (r := 58) dT_cX4_worth_2 rfl dg_cX4_worth_1318.2.2.2.1)
theorem dX4_worth_189 : decode cX4_worth 189 = .ok (.aload_n 0, 1) := dk_42 (ck1_s (r := 61) dT_cX4_worth_2 rfl dg_cX4_worth_1318.2.2.2.2.1)
theorem dX4_worth_190 : decode cX4_worth 190 = .ok (.getfield 15, 3) := dk_180 (ck3_s (r := 62) dT_cX4_worth_2 rfl dg_cX4_worth_1318.2.2.2.2.2.1)
theorem dX4_worth_193 : decode cX4_worth 193 = .ok (.iload 8, 2) := dk_21 (ck2_s (r := 1) dT_cX4_worth_3 rfl dg_cX4_worth_1318.2.2.2.2.2.2.1)
theorem dX4_worth_195 : decode cX4_worth 195 = .ok (.iaload, 1) := dk_46 (ck1_s (r := 3) dT_cX4_worth_3 rfl dg_cX4_worth_1318.2.2.2.2.2.2.2)
theorem dg_cX4_worth_1319 : ck3sL dS_cX4_worth_3 4 167 13 = true ∧ ck1L dS_cX4_worth_3 7 42 = true ∧ ck3L dS_cX4_worth_3 8 180 21 = true ∧ ck2L dS_cX4_worth_3 11 21 9 = true ∧ ck2sL dS_cX4_worth_3 13 16 116 = true ∧ ck1L dS_cX4_worth_3 15 100 = true ∧ ck1L dS_cX4_worth_3 16 46 = true ∧ ck1L dS_cX4_worth_3 17 79 = true := by decide +kernel
theorem dX4_worth_196 : decode cX4_worth 196 = .ok (.goto 13, 3) := dk_167 (ck3s_s (r := 4) dT_cX4_worth_3 rfl dg_cX4_worth_1319.1)
theorem dX4_worth_199 : decode cX4_worth 199 = .ok (.aload_n 0, 1) := dk_42 (ck1_s (r := 7) dT_cX4_worth_3 rfl dg_cX4_worth_1319.2.1)
theorem dX4_worth_200 : decode cX4_worth 200 = .ok (.getfield 21, 3) := dk_180 (ck3_s (r := 8) dT_cX4_worth_3 rfl dg_cX4_worth_1319.2.2.1)
theorem dX4_worth_203 : decode cX4_worth 203 = .ok (.iload 9, 2) := dk_21 (ck2_s (r := 11) dT_cX4_worth_3 rfl dg_cX4_worth_1319.2.2.2.1)
theorem dX4_worth_205 : decode cX4_worth 205 = .ok (.bipush 116, 2) := dk_16 (ck2s_s (r := 13) dT_cX4_worth_3 rfl dg_cX4_worth_1319.2.2.2.2.1)
theorem dX4_worth_207 : decode cX4_worth 207 = .ok (.isub, 1) := dk_100 (ck1_s (r := 15) dT_cX4_worth_3 rfl dg_cX4_worth_1319.2.2.2.2.2.1)
theorem dX4_worth_208 : decode cX4_worth 208 = .ok (.iaload, 1) := dk_46 (ck1_s (r := 16) dT_cX4_worth_3 rfl dg_cX4_worth_1319.2.2.2.2.2.2.1)
theorem dX4_worth_209 : decode cX4_worth 209 = .ok (.iastore, 1) := dk_79 (ck1_s (r := 17) dT_cX4_worth_3 rfl dg_cX4_worth_1319.2.2.2.2.2.2.2)
theorem dg_cX4_worth_1320 : ck3iL dS_cX4_worth_3 18 132 7 1 = true ∧ ck3sL dS_cX4_worth_3 21 167 86 = true ∧ ck2L dS_cX4_worth_3 24 21 9 = true ∧ ck2sL dS_cX4_worth_3 26 16 115 = true ∧ ck3sL dS_cX4_worth_3 28 160 38 = true ∧ ck2L dS_cX4_worth_3 31 21 7 = true ∧ ck1L dS_cX4_worth_3 33 4 = true ∧ ck3sL dS_cX4_worth_3 34 161 32 = true := by decide +kernel
theorem dX4_worth_210 : decode cX4_worth 210 = .ok (.iinc 7 1, 3) := dk_132 (ck3i_s (r := 18) dT_cX4_worth_3 rfl dg_cX4_worth_1320.1)
theorem dX4_worth_213 : decode cX4_worth 213 = .ok (.goto 86, 3) := dk_167 (ck3s_s (r := 21) dT_cX4_worth_3 rfl dg_cX4_worth_1320.2.1)
theorem dX4_worth_216 : decode cX4_worth 216 = .ok (.iload 9, 2) := dk_21 (ck2_s (r := 24) dT_cX4_worth_3 rfl dg_cX4_worth_1320.2.2.1)
theorem dX4_worth_218 : decode cX4_worth 218 = .ok (.bipush 115, 2) := dk_16 (ck2s_s (r := 26) dT_cX4_worth_3 rfl dg_cX4_worth_1320.2.2.2.1)
theorem dX4_worth_220 : decode cX4_worth 220 = .ok (.if_icmp .ne 38, 3) := dk_160 (ck3s_s (r := 28) dT_cX4_worth_3 rfl dg_cX4_worth_1320.2.2.2.2.1)
theorem dX4_worth_223 : decode cX4_worth 223 = .ok (.iload 7, 2) := dk_21 (ck2_s (r := 31) dT_cX4_worth_3 rfl dg_cX4_worth_1320.2.2.2.2.2.1)
theorem dX4_worth_225 : decode cX4_worth 225 = .ok (.iconst 1, 1) := dk_4 (ck1_s (r := 33) dT_cX4_worth_3 rfl dg_cX4_worth_1320.2.2.2.2.2.2.1)
theorem dX4_worth_226 : decode cX4_worth 226 = .ok (.if_icmp .lt 32, 3) := dk_161 (ck3s_s (r := 34) dT_cX4_worth_3 rfl dg_cX4_worth_1320.2.2.2.2.2.2.2)
theorem dg_cX4_worth_1321 : ck1L dS_cX4_worth_3 37 42 = true ∧ ck3L dS_cX4_worth_3 38 180 18 = true ∧ ck2L dS_cX4_worth_3 41 21 7 = true ∧ ck1L dS_cX4_worth_3 43 4 = true ∧ ck1L dS_cX4_worth_3 44 100 = true ∧ ck1L dS_cX4_worth_3 45 42 = true ∧ ck3L dS_cX4_worth_3 46 180 18 = true ∧ ck2L dS_cX4_worth_3 49 21 7 = true := by decide +kernel
theorem dX4_worth_229 : decode cX4_worth 229 = .ok (.aload_n 0, 1) := dk_42 (ck1_s (r := 37) dT_cX4_worth_3 rfl dg_cX4_worth_1321.1)
theorem dX4_worth_230 : decode cX4_worth 230 = .ok (.getfield 18, 3) := dk_180 (ck3_s (r := 38) dT_cX4_worth_3 rfl dg_cX4_worth_1321.2.1)
theorem dX4_worth_233 : decode cX4_worth 233 = .ok (.iload 7, 2) := dk_21 (ck2_s (r := 41) dT_cX4_worth_3 rfl dg_cX4_worth_1321.2.2.1)
theorem dX4_worth_235 : decode cX4_worth 235 = .ok (.iconst 1, 1) := dk_4 (ck1_s (r := 43) dT_cX4_worth_3 rfl dg_cX4_worth_1321.2.2.2.1)
theorem dX4_worth_236 : decode cX4_worth 236 = .ok (.isub, 1) := dk_100 (ck1_s (r := 44) dT_cX4_worth_3 rfl dg_cX4_worth_1321.2.2.2.2.1)
theorem dX4_worth_237 : decode cX4_worth 237 = .ok (.aload_n 0, 1) := dk_42 (ck1_s (r := 45) dT_cX4_worth_3 rfl dg_cX4_worth_1321.2.2.2.2.2.1)
theorem dX4_worth_238 : decode cX4_worth 238 = .ok (.getfield 18, 3) := dk_180 (ck3_s (r := 46) dT_cX4_worth_3 rfl dg_cX4_worth_1321.2.2.2.2.2.2.1)
theorem dX4_worth_241 : decode cX4_worth 241 = .ok (.iload 7, 2) := dk_21 (ck2_s (r := 49) dT_cX4_worth_3 rfl dg_cX4_worth_1321.2.2.2.2.2.2.2)
theorem dg_cX4_worth_1322 : ck1L dS_cX4_worth_3 51 4 = true ∧ ck1L dS_cX4_worth_3 52 100 = true ∧ ck1L dS_cX4_worth_3 53 46 = true ∧ ck3sL dS_cX4_worth_3 54 154 7 = true ∧ ck1L dS_cX4_worth_3 57 4 = true ∧ ck3sL dS_cX4_worth_3 58 167 4 = true ∧ ck1L dS_cX4_worth_3 61 3 = true ∧ ck1L dS_cX4_worth_3 62 79 = true := by decide +kernel
theorem dX4_worth_243 : decode cX4_worth 243 = .ok (.iconst 1, 1) := dk_4 (ck1_s (r := 51) dT_cX4_worth_3 rfl dg_cX4_worth_1322.1)
theorem dX4_worth_244 : decode cX4_worth 244 = .ok (.isub, 1) := dk_100 (ck1_s (r := 52) dT_cX4_worth_3 rfl dg_cX4_worth_1322.2.1)
theorem dX4_worth_245 : decode cX4_worth 245 = .ok (.iaload, 1) := dk_46 (ck1_s (r := 53) dT_cX4_worth_3 rfl dg_cX4_worth_1322.2.2.1)
theorem dX4_worth_246 : decode cX4_worth 246 = .ok (.ifCond .ne 7, 3) := dk_154 (ck3s_s (r := 54) dT_cX4_worth_3 rfl dg_cX4_worth_1322.2.2.2.1)
theorem dX4_worth_249 : decode cX4_worth 249 = .ok (.iconst 1, 1) := dk_4 (ck1_s (r := 57) dT_cX4_worth_3 rfl dg_cX4_worth_1322.2.2.2.2.1)
theorem dX4_worth_250 : decode cX4_worth 250 = .ok (.goto 4, 3) := dk_167 (ck3s_s (r := 58) dT_cX4_worth_3 rfl dg_cX4_worth_1322.2.2.2.2.2.1)
theorem dX4_worth_253 : decode cX4_worth 253 = .ok (.iconst 0, 1) := dk_3 (ck1_s (r := 61) dT_cX4_worth_3 rfl dg_cX4_worth_1322.2.2.2.2.2.2.1)
theorem dX4_worth_254 : decode cX4_worth 254 = .ok (.iastore, 1) := dk_79 (ck1_s (r := 62) dT_cX4_worth_3 rfl dg_cX4_worth_1322.2.2.2.2.2.2.2)
theorem dg_cX4_worth_1323 : ck3sL dS_cX4_worth_3 63 167 44 = true ∧ ck2L dS_cX4_worth_4 2 21 7 = true ∧ ck1L dS_cX4_worth_4 4 5 = true ∧ ck3sL dS_cX4_worth_4 5 161 38 = true ∧ ck1L dS_cX4_worth_4 8 42 = true ∧ ck3L dS_cX4_worth_4 9 180 18 = true ∧ ck2L dS_cX4_worth_4 12 21 7 = true ∧ ck1L dS_cX4_worth_4 14 5 = true := by decide +kernel
theorem dX4_worth_255 : decode cX4_worth 255 = .ok (.goto 44, 3) := dk_167 (ck3s_s (r := 63) dT_cX4_worth_3 rfl dg_cX4_worth_1323.1)
theorem dX4_worth_258 : decode cX4_worth 258 = .ok (.iload 7, 2) := dk_21 (ck2_s (r := 2) dT_cX4_worth_4 rfl dg_cX4_worth_1323.2.1)
theorem dX4_worth_260 : decode cX4_worth 260 = .ok (.iconst 2, 1) := dk_5 (ck1_s (r := 4) dT_cX4_worth_4 rfl dg_cX4_worth_1323.2.2.1)
theorem dX4_worth_261 : decode cX4_worth 261 = .ok (.if_icmp .lt 38, 3) := dk_161 (ck3s_s (r := 5) dT_cX4_worth_4 rfl dg_cX4_worth_1323.2.2.2.1)
theorem dX4_worth_264 : decode cX4_worth 264 = .ok (.aload_n 0, 1) := dk_42 (ck1_s (r := 8) dT_cX4_worth_4 rfl dg_cX4_worth_1323.2.2.2.2.1)
theorem dX4_worth_265 : decode cX4_worth 265 = .ok (.getfield 18, 3) := dk_180 (ck3_s (r := 9) dT_cX4_worth_4 rfl dg_cX4_worth_1323.2.2.2.2.2.1)
theorem dX4_worth_268 : decode cX4_worth 268 = .ok (.iload 7, 2) := dk_21 (ck2_s (r := 12) dT_cX4_worth_4 rfl dg_cX4_worth_1323.2.2.2.2.2.2.1)
theorem dX4_worth_270 : decode cX4_worth 270 = .ok (.iconst 2, 1) := dk_5 (ck1_s (r := 14) dT_cX4_worth_4 rfl dg_cX4_worth_1323.2.2.2.2.2.2.2)
theorem dg_cX4_worth_1324 : ck1L dS_cX4_worth_4 15 100 = true ∧ ck2L dS_cX4_worth_4 16 21 9 = true ∧ ck1L dS_cX4_worth_4 18 42 = true ∧ ck3L dS_cX4_worth_4 19 180 18 = true ∧ ck2L dS_cX4_worth_4 22 21 7 = true ∧ ck1L dS_cX4_worth_4 24 5 = true ∧ ck1L dS_cX4_worth_4 25 100 = true ∧ ck1L dS_cX4_worth_4 26 46 = true := by decide +kernel
theorem dX4_worth_271 : decode cX4_worth 271 = .ok (.isub, 1) := dk_100 (ck1_s (r := 15) dT_cX4_worth_4 rfl dg_cX4_worth_1324.1)
theorem dX4_worth_272 : decode cX4_worth 272 = .ok (.iload 9, 2) := dk_21 (ck2_s (r := 16) dT_cX4_worth_4 rfl dg_cX4_worth_1324.2.1)
theorem dX4_worth_274 : decode cX4_worth 274 = .ok (.aload_n 0, 1) := dk_42 (ck1_s (r := 18) dT_cX4_worth_4 rfl dg_cX4_worth_1324.2.2.1)
theorem dX4_worth_275 : decode cX4_worth 275 = .ok (.getfield 18, 3) := dk_180 (ck3_s (r := 19) dT_cX4_worth_4 rfl dg_cX4_worth_1324.2.2.2.1)
theorem dX4_worth_278 : decode cX4_worth 278 = .ok (.iload 7, 2) := dk_21 (ck2_s (r := 22) dT_cX4_worth_4 rfl dg_cX4_worth_1324.2.2.2.2.1)
theorem dX4_worth_280 : decode cX4_worth 280 = .ok (.iconst 2, 1) := dk_5 (ck1_s (r := 24) dT_cX4_worth_4 rfl dg_cX4_worth_1324.2.2.2.2.2.1)
theorem dX4_worth_281 : decode cX4_worth 281 = .ok (.isub, 1) := dk_100 (ck1_s (r := 25) dT_cX4_worth_4 rfl dg_cX4_worth_1324.2.2.2.2.2.2.1)
theorem dX4_worth_282 : decode cX4_worth 282 = .ok (.iaload, 1) := dk_46 (ck1_s (r := 26) dT_cX4_worth_4 rfl dg_cX4_worth_1324.2.2.2.2.2.2.2)
theorem dg_cX4_worth_1325 : ck1L dS_cX4_worth_4 27 42 = true ∧ ck3L dS_cX4_worth_4 28 180 18 = true ∧ ck2L dS_cX4_worth_4 31 21 7 = true ∧ ck1L dS_cX4_worth_4 33 4 = true ∧ ck1L dS_cX4_worth_4 34 100 = true ∧ ck1L dS_cX4_worth_4 35 46 = true ∧ ck3L dS_cX4_worth_4 36 184 46 = true ∧ ck1L dS_cX4_worth_4 39 79 = true := by decide +kernel
theorem dX4_worth_283 : decode cX4_worth 283 = .ok (.aload_n 0, 1) := dk_42 (ck1_s (r := 27) dT_cX4_worth_4 rfl dg_cX4_worth_1325.1)
theorem dX4_worth_284 : decode cX4_worth 284 = .ok (.getfield 18, 3) := dk_180 (ck3_s (r := 28) dT_cX4_worth_4 rfl dg_cX4_worth_1325.2.1)
theorem dX4_worth_287 : decode cX4_worth 287 = .ok (.iload 7, 2) := dk_21 (ck2_s (r := 31) dT_cX4_worth_4 rfl dg_cX4_worth_1325.2.2.1)
theorem dX4_worth_289 : decode cX4_worth 289 = .ok (.iconst 1, 1) := dk_4 (ck1_s (r := 33) dT_cX4_worth_4 rfl dg_cX4_worth_1325.2.2.2.1)
theorem dX4_worth_290 : decode cX4_worth 290 = .ok (.isub, 1) := dk_100 (ck1_s (r := 34) dT_cX4_worth_4 rfl dg_cX4_worth_1325.2.2.2.2.1)
theorem dX4_worth_291 : decode cX4_worth 291 = .ok (.iaload, 1) := dk_46 (ck1_s (r := 35) dT_cX4_worth_4 rfl dg_cX4_worth_1325.2.2.2.2.2.1)
theorem dX4_worth_292 : decode cX4_worth 292 = .ok (.invokestatic 46, 3) := dk_184 (ck3_s (r := 36) dT_cX4_worth_4 rfl dg_cX4_worth_1325.2.2.2.2.2.2.1)
theorem dX4_worth_295 : decode cX4_worth 295 = .ok (.iastore, 1) := dk_79 (ck1_s (r := 39) dT_cX4_worth_4 rfl dg_cX4_worth_1325.2.2.2.2.2.2.2)
theorem dg_cX4_worth_1326 : ck3iL dS_cX4_worth_4 40 132 7 (-1) = true ∧ ck3iL dS_cX4_worth_4 43 132 8 1 = true ∧ ck3sL dS_cX4_worth_4 46 167 (-178) = true ∧ ck1L dS_cX4_worth_4 49 3 = true ∧ ck3sL dS_cX4_worth_4 50 17 999 = true ∧ ck1L dS_cX4_worth_4 53 42 = true ∧ ck3L dS_cX4_worth_4 54 180 18 = true ∧ ck1L dS_cX4_worth_4 57 3 = true := by decide +kernel
theorem dX4_worth_296 : decode cX4_worth 296 = .ok (.iinc 7 (-1), 3) := dk_132 (ck3i_s (r := 40) dT_cX4_worth_4 rfl dg_cX4_worth_1326.1)
theorem dX4_worth_299 : decode cX4_worth 299 = .ok (.iinc 8 1, 3) := dk_132 (ck3i_s (r := 43) dT_cX4_worth_4 rfl dg_cX4_worth_1326.2.1)
theorem dX4_worth_302 : decode cX4_worth 302 = .ok (.goto (-178), 3) := dk_167 (ck3s_s (r := 46) dT_cX4_worth_4 rfl dg_cX4_worth_1326.2.2.1)
theorem dX4_worth_305 : decode cX4_worth 305 = .ok (.iconst 0, 1) := dk_3 (ck1_s (r := 49) dT_cX4_worth_4 rfl dg_cX4_worth_1326.2.2.2.1)
theorem dX4_worth_306 : decode cX4_worth 306 = .ok (.sipush 999, 3) := dk_17 (ck3s_s (r := 50) dT_cX4_worth_4 rfl dg_cX4_worth_1326.2.2.2.2.1)
theorem dX4_worth_309 : decode cX4_worth 309 = .ok (.aload_n 0, 1) := dk_42 (ck1_s (r := 53) dT_cX4_worth_4 rfl dg_cX4_worth_1326.2.2.2.2.2.1)
theorem dX4_worth_310 : decode cX4_worth 310 = .ok (.getfield 18, 3) := dk_180 (ck3_s (r := 54) dT_cX4_worth_4 rfl dg_cX4_worth_1326.2.2.2.2.2.2.1)
theorem dX4_worth_313 : decode cX4_worth 313 = .ok (.iconst 0, 1) := dk_3 (ck1_s (r := 57) dT_cX4_worth_4 rfl dg_cX4_worth_1326.2.2.2.2.2.2.2)
theorem dg_cX4_worth_1327 : ck1L dS_cX4_worth_4 58 46 = true ∧ ck3L dS_cX4_worth_4 59 184 43 = true ∧ ck3L dS_cX4_worth_4 62 184 37 = true ∧ ck1L dS_cX4_worth_5 1 172 = true := by decide +kernel
theorem dX4_worth_314 : decode cX4_worth 314 = .ok (.iaload, 1) := dk_46 (ck1_s (r := 58) dT_cX4_worth_4 rfl dg_cX4_worth_1327.1)
theorem dX4_worth_315 : decode cX4_worth 315 = .ok (.invokestatic 43, 3) := dk_184 (ck3_s (r := 59) dT_cX4_worth_4 rfl dg_cX4_worth_1327.2.1)
theorem dX4_worth_318 : decode cX4_worth 318 = .ok (.invokestatic 37, 3) := dk_184 (ck3_s (r := 62) dT_cX4_worth_4 rfl dg_cX4_worth_1327.2.2.1)
theorem dX4_worth_321 : decode cX4_worth 321 = .ok (.ireturn, 1) := dk_172 (ck1_s (r := 1) dT_cX4_worth_5 rfl dg_cX4_worth_1327.2.2.2)
theorem dg_cX5_fillBox_1328 : ck1 cX5_fillBox 0 27 = true ∧ ck3s cX5_fillBox 1 155 8 = true ∧ ck1 cX5_fillBox 4 27 = true ∧ ck1 cX5_fillBox 5 6 = true ∧ ck3s cX5_fillBox 6 161 5 = true ∧ ck1 cX5_fillBox 9 3 = true ∧ ck1 cX5_fillBox 10 172 = true ∧ ck1 cX5_fillBox 11 42 = true := by decide +kernel
theorem dX5_fillBox_0 : decode cX5_fillBox 0 = .ok (.iload_n 1, 1) := dk_27 dg_cX5_fillBox_1328.1
theorem dX5_fillBox_1 : decode cX5_fillBox 1 = .ok (.ifCond .lt 8, 3) := dk_155 dg_cX5_fillBox_1328.2.1
theorem dX5_fillBox_4 : decode cX5_fillBox 4 = .ok (.iload_n 1, 1) := dk_27 dg_cX5_fillBox_1328.2.2.1
theorem dX5_fillBox_5 : decode cX5_fillBox 5 = .ok (.iconst 3, 1) := dk_6 dg_cX5_fillBox_1328.2.2.2.1
theorem dX5_fillBox_6 : decode cX5_fillBox 6 = .ok (.if_icmp .lt 5, 3) := dk_161 dg_cX5_fillBox_1328.2.2.2.2.1
theorem dX5_fillBox_9 : decode cX5_fillBox 9 = .ok (.iconst 0, 1) := dk_3 dg_cX5_fillBox_1328.2.2.2.2.2.1
theorem dX5_fillBox_10 : decode cX5_fillBox 10 = .ok (.ireturn, 1) := dk_172 dg_cX5_fillBox_1328.2.2.2.2.2.2.1
theorem dX5_fillBox_11 : decode cX5_fillBox 11 = .ok (.aload_n 0, 1) := dk_42 dg_cX5_fillBox_1328.2.2.2.2.2.2.2
theorem dg_cX5_fillBox_1329 : ck3 cX5_fillBox 12 180 20 = true ∧ ck1 cX5_fillBox 15 42 = true ∧ ck3 cX5_fillBox 16 180 17 = true ∧ ck1 cX5_fillBox 19 27 = true ∧ ck3 cX5_fillBox 20 182 24 = true ∧ ck1 cX5_fillBox 23 42 = true ∧ ck1 cX5_fillBox 24 89 = true ∧ ck3 cX5_fillBox 25 180 28 = true := by decide +kernel
theorem dX5_fillBox_12 : decode cX5_fillBox 12 = .ok (.getfield 20, 3) := dk_180 dg_cX5_fillBox_1329.1
theorem dX5_fillBox_15 : decode cX5_fillBox 15 = .ok (.aload_n 0, 1) := dk_42 dg_cX5_fillBox_1329.2.1
theorem dX5_fillBox_16 : decode cX5_fillBox 16 = .ok (.getfield 17, 3) := dk_180 dg_cX5_fillBox_1329.2.2.1
theorem dX5_fillBox_19 : decode cX5_fillBox 19 = .ok (.iload_n 1, 1) := dk_27 dg_cX5_fillBox_1329.2.2.2.1
theorem dX5_fillBox_20 : decode cX5_fillBox 20 = .ok (.invokevirtual 24, 3) := dk_182 dg_cX5_fillBox_1329.2.2.2.2.1
theorem dX5_fillBox_23 : decode cX5_fillBox 23 = .ok (.aload_n 0, 1) := dk_42 dg_cX5_fillBox_1329.2.2.2.2.2.1
theorem dX5_fillBox_24 : decode cX5_fillBox 24 = .ok (.dup, 1) := dk_89 dg_cX5_fillBox_1329.2.2.2.2.2.2.1
theorem dX5_fillBox_25 : decode cX5_fillBox 25 = .ok (.getfield 28, 3) := dk_180 dg_cX5_fillBox_1329.2.2.2.2.2.2.2
theorem dg_cX5_fillBox_1330 : ck1 cX5_fillBox 28 4 = true ∧ ck1 cX5_fillBox 29 27 = true ∧ ck1 cX5_fillBox 30 120 = true ∧ ck1 cX5_fillBox 31 128 = true ∧ ck3 cX5_fillBox 32 181 28 = true ∧ ck1 cX5_fillBox 35 4 = true ∧ ck1 cX5_fillBox 36 172 = true := by decide +kernel
theorem dX5_fillBox_28 : decode cX5_fillBox 28 = .ok (.iconst 1, 1) := dk_4 dg_cX5_fillBox_1330.1
theorem dX5_fillBox_29 : decode cX5_fillBox 29 = .ok (.iload_n 1, 1) := dk_27 dg_cX5_fillBox_1330.2.1
theorem dX5_fillBox_30 : decode cX5_fillBox 30 = .ok (.ishl, 1) := dk_120 dg_cX5_fillBox_1330.2.2.1
theorem dX5_fillBox_31 : decode cX5_fillBox 31 = .ok (.ior, 1) := dk_128 dg_cX5_fillBox_1330.2.2.2.1
theorem dX5_fillBox_32 : decode cX5_fillBox 32 = .ok (.putfield 28, 3) := dk_181 dg_cX5_fillBox_1330.2.2.2.2.1
theorem dX5_fillBox_35 : decode cX5_fillBox 35 = .ok (.iconst 1, 1) := dk_4 dg_cX5_fillBox_1330.2.2.2.2.2.1
theorem dX5_fillBox_36 : decode cX5_fillBox 36 = .ok (.ireturn, 1) := dk_172 dg_cX5_fillBox_1330.2.2.2.2.2.2
theorem dg_cX5_forgetActs_1331 : ck1 cX5_forgetActs 0 42 = true ∧ ck1 cX5_forgetActs 1 3 = true ∧ ck3 cX5_forgetActs 2 181 35 = true ∧ ck1 cX5_forgetActs 5 42 = true ∧ ck1 cX5_forgetActs 6 3 = true ∧ ck3 cX5_forgetActs 7 181 38 = true ∧ ck1 cX5_forgetActs 10 42 = true ∧ ck1 cX5_forgetActs 11 3 = true := by decide +kernel
theorem dX5_forgetActs_0 : decode cX5_forgetActs 0 = .ok (.aload_n 0, 1) := dk_42 dg_cX5_forgetActs_1331.1
theorem dX5_forgetActs_1 : decode cX5_forgetActs 1 = .ok (.iconst 0, 1) := dk_3 dg_cX5_forgetActs_1331.2.1
theorem dX5_forgetActs_2 : decode cX5_forgetActs 2 = .ok (.putfield 35, 3) := dk_181 dg_cX5_forgetActs_1331.2.2.1
theorem dX5_forgetActs_5 : decode cX5_forgetActs 5 = .ok (.aload_n 0, 1) := dk_42 dg_cX5_forgetActs_1331.2.2.2.1
theorem dX5_forgetActs_6 : decode cX5_forgetActs 6 = .ok (.iconst 0, 1) := dk_3 dg_cX5_forgetActs_1331.2.2.2.2.1
theorem dX5_forgetActs_7 : decode cX5_forgetActs 7 = .ok (.putfield 38, 3) := dk_181 dg_cX5_forgetActs_1331.2.2.2.2.2.1
theorem dX5_forgetActs_10 : decode cX5_forgetActs 10 = .ok (.aload_n 0, 1) := dk_42 dg_cX5_forgetActs_1331.2.2.2.2.2.2.1
theorem dX5_forgetActs_11 : decode cX5_forgetActs 11 = .ok (.iconst 0, 1) := dk_3 dg_cX5_forgetActs_1331.2.2.2.2.2.2.2
theorem dg_cX5_forgetActs_1332 : ck3 cX5_forgetActs 12 181 41 = true ∧ ck1 cX5_forgetActs 15 42 = true ∧ ck3 cX5_forgetActs 16 180 20 = true ∧ ck1 cX5_forgetActs 19 42 = true ∧ ck3 cX5_forgetActs 20 180 13 = true ∧ ck1 cX5_forgetActs 23 3 = true ∧ ck3 cX5_forgetActs 24 182 24 = true ∧ ck1 cX5_forgetActs 27 177 = true := by decide +kernel
theorem dX5_forgetActs_12 : decode cX5_forgetActs 12 = .ok (.putfield 41, 3) := dk_181 dg_cX5_forgetActs_1332.1
theorem dX5_forgetActs_15 : decode cX5_forgetActs 15 = .ok (.aload_n 0, 1) := dk_42 dg_cX5_forgetActs_1332.2.1
theorem dX5_forgetActs_16 : decode cX5_forgetActs 16 = .ok (.getfield 20, 3) := dk_180 dg_cX5_forgetActs_1332.2.2.1
theorem dX5_forgetActs_19 : decode cX5_forgetActs 19 = .ok (.aload_n 0, 1) := dk_42 dg_cX5_forgetActs_1332.2.2.2.1
theorem dX5_forgetActs_20 : decode cX5_forgetActs 20 = .ok (.getfield 13, 3) := dk_180 dg_cX5_forgetActs_1332.2.2.2.2.1
theorem dX5_forgetActs_23 : decode cX5_forgetActs 23 = .ok (.iconst 0, 1) := dk_3 dg_cX5_forgetActs_1332.2.2.2.2.2.1
theorem dX5_forgetActs_24 : decode cX5_forgetActs 24 = .ok (.invokevirtual 24, 3) := dk_182 dg_cX5_forgetActs_1332.2.2.2.2.2.2.1
theorem dX5_forgetActs_27 : decode cX5_forgetActs 27 = .ok (.return_, 1) := dk_177 dg_cX5_forgetActs_1332.2.2.2.2.2.2.2
theorem dg_cX5_forgetAll_1333 : ck1 cX5_forgetAll 0 42 = true ∧ ck1 cX5_forgetAll 1 3 = true ∧ ck3 cX5_forgetAll 2 181 28 = true ∧ ck1 cX5_forgetAll 5 42 = true ∧ ck3 cX5_forgetAll 6 182 32 = true ∧ ck1 cX5_forgetAll 9 177 = true := by decide +kernel
theorem dX5_forgetAll_0 : decode cX5_forgetAll 0 = .ok (.aload_n 0, 1) := dk_42 dg_cX5_forgetAll_1333.1
theorem dX5_forgetAll_1 : decode cX5_forgetAll 1 = .ok (.iconst 0, 1) := dk_3 dg_cX5_forgetAll_1333.2.1
theorem dX5_forgetAll_2 : decode cX5_forgetAll 2 = .ok (.putfield 28, 3) := dk_181 dg_cX5_forgetAll_1333.2.2.1
theorem dX5_forgetAll_5 : decode cX5_forgetAll 5 = .ok (.aload_n 0, 1) := dk_42 dg_cX5_forgetAll_1333.2.2.2.1
theorem dX5_forgetAll_6 : decode cX5_forgetAll 6 = .ok (.invokevirtual 32, 3) := dk_182 dg_cX5_forgetAll_1333.2.2.2.2.1
theorem dX5_forgetAll_9 : decode cX5_forgetAll 9 = .ok (.return_, 1) := dk_177 dg_cX5_forgetAll_1333.2.2.2.2.2
theorem dg_cX5_init_1334 : ck1 cX5_init 0 42 = true ∧ ck3 cX5_init 1 183 3 = true ∧ ck1 cX5_init 4 42 = true ∧ ck3s cX5_init 5 17 1804 = true := by decide +kernel
theorem dX5_init_0 : decode cX5_init 0 = .ok (.aload_n 0, 1) := dk_42 dg_cX5_init_1334.1
theorem dX5_init_1 : decode cX5_init 1 = .ok (.invokespecial 3, 3) := dk_183 dg_cX5_init_1334.2.1
theorem dX5_init_4 : decode cX5_init 4 = .ok (.aload_n 0, 1) := dk_42 dg_cX5_init_1334.2.2.1
theorem dX5_init_5 : decode cX5_init 5 = .ok (.sipush 1804, 3) := dk_17 dg_cX5_init_1334.2.2.2
theorem dX5_init_8 : decode cX5_init 8 = .ok (.newarray .int, 2) := by decide +kernel
theorem dg_cX5_init_1335 : ck3 cX5_init 10 181 13 = true ∧ ck1 cX5_init 13 42 = true ∧ ck3s cX5_init 14 17 132 = true := by decide +kernel
theorem dX5_init_10 : decode cX5_init 10 = .ok (.putfield 13, 3) := dk_181 dg_cX5_init_1335.1
theorem dX5_init_13 : decode cX5_init 13 = .ok (.aload_n 0, 1) := dk_42 dg_cX5_init_1335.2.1
theorem dX5_init_14 : decode cX5_init 14 = .ok (.sipush 132, 3) := dk_17 dg_cX5_init_1335.2.2
theorem dX5_init_17 : decode cX5_init 17 = .ok (.newarray .int, 2) := by decide +kernel
theorem dg_cX5_init_1336 : ck3 cX5_init 19 181 17 = true ∧ ck1 cX5_init 22 42 = true ∧ ck1 cX5_init 23 43 = true ∧ ck3 cX5_init 24 181 20 = true ∧ ck1 cX5_init 27 43 = true ∧ ck1 cX5_init 28 42 = true ∧ ck3 cX5_init 29 180 13 = true ∧ ck1 cX5_init 32 3 = true := by decide +kernel
theorem dX5_init_19 : decode cX5_init 19 = .ok (.putfield 17, 3) := dk_181 dg_cX5_init_1336.1
theorem dX5_init_22 : decode cX5_init 22 = .ok (.aload_n 0, 1) := dk_42 dg_cX5_init_1336.2.1
theorem dX5_init_23 : decode cX5_init 23 = .ok (.aload_n 1, 1) := dk_43 dg_cX5_init_1336.2.2.1
theorem dX5_init_24 : decode cX5_init 24 = .ok (.putfield 20, 3) := dk_181 dg_cX5_init_1336.2.2.2.1
theorem dX5_init_27 : decode cX5_init 27 = .ok (.aload_n 1, 1) := dk_43 dg_cX5_init_1336.2.2.2.2.1
theorem dX5_init_28 : decode cX5_init 28 = .ok (.aload_n 0, 1) := dk_42 dg_cX5_init_1336.2.2.2.2.2.1
theorem dX5_init_29 : decode cX5_init 29 = .ok (.getfield 13, 3) := dk_180 dg_cX5_init_1336.2.2.2.2.2.2.1
theorem dX5_init_32 : decode cX5_init 32 = .ok (.iconst 0, 1) := dk_3 dg_cX5_init_1336.2.2.2.2.2.2.2
theorem dg_cX5_init_1337 : ck3 cX5_init 33 182 24 = true ∧ ck1 cX5_init 36 177 = true := by decide +kernel
theorem dX5_init_33 : decode cX5_init 33 = .ok (.invokevirtual 24, 3) := dk_182 dg_cX5_init_1337.1
theorem dX5_init_36 : decode cX5_init 36 = .ok (.return_, 1) := dk_177 dg_cX5_init_1337.2
theorem dg_cX5_keepAct_1338 : ck1 cX5_keepAct 0 42 = true ∧ ck1 cX5_keepAct 1 3 = true ∧ ck3 cX5_keepAct 2 181 41 = true ∧ ck1 cX5_keepAct 5 42 = true ∧ ck3 cX5_keepAct 6 180 38 = true ∧ ck2s cX5_keepAct 9 16 40 = true ∧ ck3s cX5_keepAct 11 162 16 = true ∧ ck1 cX5_keepAct 14 42 = true := by decide +kernel
theorem dX5_keepAct_0 : decode cX5_keepAct 0 = .ok (.aload_n 0, 1) := dk_42 dg_cX5_keepAct_1338.1
theorem dX5_keepAct_1 : decode cX5_keepAct 1 = .ok (.iconst 0, 1) := dk_3 dg_cX5_keepAct_1338.2.1
theorem dX5_keepAct_2 : decode cX5_keepAct 2 = .ok (.putfield 41, 3) := dk_181 dg_cX5_keepAct_1338.2.2.1
theorem dX5_keepAct_5 : decode cX5_keepAct 5 = .ok (.aload_n 0, 1) := dk_42 dg_cX5_keepAct_1338.2.2.2.1
theorem dX5_keepAct_6 : decode cX5_keepAct 6 = .ok (.getfield 38, 3) := dk_180 dg_cX5_keepAct_1338.2.2.2.2.1
theorem dX5_keepAct_9 : decode cX5_keepAct 9 = .ok (.bipush 40, 2) := dk_16 dg_cX5_keepAct_1338.2.2.2.2.2.1
theorem dX5_keepAct_11 : decode cX5_keepAct 11 = .ok (.if_icmp .ge 16, 3) := dk_162 dg_cX5_keepAct_1338.2.2.2.2.2.2.1
theorem dX5_keepAct_14 : decode cX5_keepAct 14 = .ok (.aload_n 0, 1) := dk_42 dg_cX5_keepAct_1338.2.2.2.2.2.2.2
theorem dg_cX5_keepAct_1339 : ck1 cX5_keepAct 15 89 = true ∧ ck3 cX5_keepAct 16 180 38 = true ∧ ck1 cX5_keepAct 19 4 = true ∧ ck1 cX5_keepAct 20 96 = true ∧ ck3 cX5_keepAct 21 181 38 = true ∧ ck3s cX5_keepAct 24 167 16 = true ∧ ck1 cX5_keepAct 27 42 = true ∧ ck1 cX5_keepAct 28 42 = true := by decide +kernel
theorem dX5_keepAct_15 : decode cX5_keepAct 15 = .ok (.dup, 1) := dk_89 dg_cX5_keepAct_1339.1
theorem dX5_keepAct_16 : decode cX5_keepAct 16 = .ok (.getfield 38, 3) := dk_180 dg_cX5_keepAct_1339.2.1
theorem dX5_keepAct_19 : decode cX5_keepAct 19 = .ok (.iconst 1, 1) := dk_4 dg_cX5_keepAct_1339.2.2.1
theorem dX5_keepAct_20 : decode cX5_keepAct 20 = .ok (.iadd, 1) := dk_96 dg_cX5_keepAct_1339.2.2.2.1
theorem dX5_keepAct_21 : decode cX5_keepAct 21 = .ok (.putfield 38, 3) := dk_181 dg_cX5_keepAct_1339.2.2.2.2.1
theorem dX5_keepAct_24 : decode cX5_keepAct 24 = .ok (.goto 16, 3) := dk_167 dg_cX5_keepAct_1339.2.2.2.2.2.1
theorem dX5_keepAct_27 : decode cX5_keepAct 27 = .ok (.aload_n 0, 1) := dk_42 dg_cX5_keepAct_1339.2.2.2.2.2.2.1
theorem dX5_keepAct_28 : decode cX5_keepAct 28 = .ok (.aload_n 0, 1) := dk_42 dg_cX5_keepAct_1339.2.2.2.2.2.2.2
theorem dg_cX5_keepAct_1340 : ck3 cX5_keepAct 29 180 35 = true ∧ ck1 cX5_keepAct 32 4 = true ∧ ck1 cX5_keepAct 33 96 = true ∧ ck2s cX5_keepAct 34 16 41 = true ∧ ck1 cX5_keepAct 36 112 = true ∧ ck3 cX5_keepAct 37 181 35 = true ∧ ck1 cX5_keepAct 40 42 = true ∧ ck3 cX5_keepAct 41 180 20 = true := by decide +kernel
theorem dX5_keepAct_29 : decode cX5_keepAct 29 = .ok (.getfield 35, 3) := dk_180 dg_cX5_keepAct_1340.1
theorem dX5_keepAct_32 : decode cX5_keepAct 32 = .ok (.iconst 1, 1) := dk_4 dg_cX5_keepAct_1340.2.1
theorem dX5_keepAct_33 : decode cX5_keepAct 33 = .ok (.iadd, 1) := dk_96 dg_cX5_keepAct_1340.2.2.1
theorem dX5_keepAct_34 : decode cX5_keepAct 34 = .ok (.bipush 41, 2) := dk_16 dg_cX5_keepAct_1340.2.2.2.1
theorem dX5_keepAct_36 : decode cX5_keepAct 36 = .ok (.irem, 1) := dk_112 dg_cX5_keepAct_1340.2.2.2.2.1
theorem dX5_keepAct_37 : decode cX5_keepAct 37 = .ok (.putfield 35, 3) := dk_181 dg_cX5_keepAct_1340.2.2.2.2.2.1
theorem dX5_keepAct_40 : decode cX5_keepAct 40 = .ok (.aload_n 0, 1) := dk_42 dg_cX5_keepAct_1340.2.2.2.2.2.2.1
theorem dX5_keepAct_41 : decode cX5_keepAct 41 = .ok (.getfield 20, 3) := dk_180 dg_cX5_keepAct_1340.2.2.2.2.2.2.2
theorem dg_cX5_keepAct_1341 : ck1 cX5_keepAct 44 42 = true ∧ ck3 cX5_keepAct 45 180 13 = true ∧ ck1 cX5_keepAct 48 42 = true ∧ ck3 cX5_keepAct 49 180 35 = true ∧ ck1 cX5_keepAct 52 42 = true ∧ ck3 cX5_keepAct 53 180 38 = true ∧ ck1 cX5_keepAct 56 96 = true ∧ ck2s cX5_keepAct 57 16 41 = true := by decide +kernel
theorem dX5_keepAct_44 : decode cX5_keepAct 44 = .ok (.aload_n 0, 1) := dk_42 dg_cX5_keepAct_1341.1
theorem dX5_keepAct_45 : decode cX5_keepAct 45 = .ok (.getfield 13, 3) := dk_180 dg_cX5_keepAct_1341.2.1
theorem dX5_keepAct_48 : decode cX5_keepAct 48 = .ok (.aload_n 0, 1) := dk_42 dg_cX5_keepAct_1341.2.2.1
theorem dX5_keepAct_49 : decode cX5_keepAct 49 = .ok (.getfield 35, 3) := dk_180 dg_cX5_keepAct_1341.2.2.2.1
theorem dX5_keepAct_52 : decode cX5_keepAct 52 = .ok (.aload_n 0, 1) := dk_42 dg_cX5_keepAct_1341.2.2.2.2.1
theorem dX5_keepAct_53 : decode cX5_keepAct 53 = .ok (.getfield 38, 3) := dk_180 dg_cX5_keepAct_1341.2.2.2.2.2.1
theorem dX5_keepAct_56 : decode cX5_keepAct 56 = .ok (.iadd, 1) := dk_96 dg_cX5_keepAct_1341.2.2.2.2.2.2.1
theorem dX5_keepAct_57 : decode cX5_keepAct 57 = .ok (.bipush 41, 2) := dk_16 dg_cX5_keepAct_1341.2.2.2.2.2.2.2
theorem dg_cX5_keepAct_1342 : ck1 cX5_keepAct 59 112 = true ∧ ck3 cX5_keepAct 60 182 24 = true ∧ ck1 cX5_keepAct 63 177 = true := by decide +kernel
theorem dX5_keepAct_59 : decode cX5_keepAct 59 = .ok (.irem, 1) := dk_112 dg_cX5_keepAct_1342.1
theorem dX5_keepAct_60 : decode cX5_keepAct 60 = .ok (.invokevirtual 24, 3) := dk_182 dg_cX5_keepAct_1342.2.1
theorem dX5_keepAct_63 : decode cX5_keepAct 63 = .ok (.return_, 1) := dk_177 dg_cX5_keepAct_1342.2.2
theorem dg_cX5_stepBack_1343 : ck1 cX5_stepBack 0 42 = true ∧ ck3 cX5_stepBack 1 180 38 = true ∧ ck3s cX5_stepBack 4 154 5 = true ∧ ck1 cX5_stepBack 7 3 = true ∧ ck1 cX5_stepBack 8 172 = true ∧ ck1 cX5_stepBack 9 42 = true ∧ ck1 cX5_stepBack 10 89 = true ∧ ck3 cX5_stepBack 11 180 38 = true := by decide +kernel
theorem dX5_stepBack_0 : decode cX5_stepBack 0 = .ok (.aload_n 0, 1) := dk_42 dg_cX5_stepBack_1343.1
theorem dX5_stepBack_1 : decode cX5_stepBack 1 = .ok (.getfield 38, 3) := dk_180 dg_cX5_stepBack_1343.2.1
theorem dX5_stepBack_4 : decode cX5_stepBack 4 = .ok (.ifCond .ne 5, 3) := dk_154 dg_cX5_stepBack_1343.2.2.1
theorem dX5_stepBack_7 : decode cX5_stepBack 7 = .ok (.iconst 0, 1) := dk_3 dg_cX5_stepBack_1343.2.2.2.1
theorem dX5_stepBack_8 : decode cX5_stepBack 8 = .ok (.ireturn, 1) := dk_172 dg_cX5_stepBack_1343.2.2.2.2.1
theorem dX5_stepBack_9 : decode cX5_stepBack 9 = .ok (.aload_n 0, 1) := dk_42 dg_cX5_stepBack_1343.2.2.2.2.2.1
theorem dX5_stepBack_10 : decode cX5_stepBack 10 = .ok (.dup, 1) := dk_89 dg_cX5_stepBack_1343.2.2.2.2.2.2.1
theorem dX5_stepBack_11 : decode cX5_stepBack 11 = .ok (.getfield 38, 3) := dk_180 dg_cX5_stepBack_1343.2.2.2.2.2.2.2
theorem dg_cX5_stepBack_1344 : ck1 cX5_stepBack 14 4 = true ∧ ck1 cX5_stepBack 15 100 = true ∧ ck3 cX5_stepBack 16 181 38 = true ∧ ck1 cX5_stepBack 19 42 = true ∧ ck1 cX5_stepBack 20 89 = true ∧ ck3 cX5_stepBack 21 180 41 = true ∧ ck1 cX5_stepBack 24 4 = true ∧ ck1 cX5_stepBack 25 96 = true := by decide +kernel
theorem dX5_stepBack_14 : decode cX5_stepBack 14 = .ok (.iconst 1, 1) := dk_4 dg_cX5_stepBack_1344.1
theorem dX5_stepBack_15 : decode cX5_stepBack 15 = .ok (.isub, 1) := dk_100 dg_cX5_stepBack_1344.2.1
theorem dX5_stepBack_16 : decode cX5_stepBack 16 = .ok (.putfield 38, 3) := dk_181 dg_cX5_stepBack_1344.2.2.1
theorem dX5_stepBack_19 : decode cX5_stepBack 19 = .ok (.aload_n 0, 1) := dk_42 dg_cX5_stepBack_1344.2.2.2.1
theorem dX5_stepBack_20 : decode cX5_stepBack 20 = .ok (.dup, 1) := dk_89 dg_cX5_stepBack_1344.2.2.2.2.1
theorem dX5_stepBack_21 : decode cX5_stepBack 21 = .ok (.getfield 41, 3) := dk_180 dg_cX5_stepBack_1344.2.2.2.2.2.1
theorem dX5_stepBack_24 : decode cX5_stepBack 24 = .ok (.iconst 1, 1) := dk_4 dg_cX5_stepBack_1344.2.2.2.2.2.2.1
theorem dX5_stepBack_25 : decode cX5_stepBack 25 = .ok (.iadd, 1) := dk_96 dg_cX5_stepBack_1344.2.2.2.2.2.2.2
theorem dg_cX5_stepBack_1345 : ck3 cX5_stepBack 26 181 41 = true ∧ ck1 cX5_stepBack 29 42 = true ∧ ck3 cX5_stepBack 30 180 20 = true ∧ ck1 cX5_stepBack 33 42 = true ∧ ck3 cX5_stepBack 34 180 13 = true ∧ ck1 cX5_stepBack 37 42 = true ∧ ck3 cX5_stepBack 38 180 35 = true ∧ ck1 cX5_stepBack 41 42 = true := by decide +kernel
theorem dX5_stepBack_26 : decode cX5_stepBack 26 = .ok (.putfield 41, 3) := dk_181 dg_cX5_stepBack_1345.1
theorem dX5_stepBack_29 : decode cX5_stepBack 29 = .ok (.aload_n 0, 1) := dk_42 dg_cX5_stepBack_1345.2.1
theorem dX5_stepBack_30 : decode cX5_stepBack 30 = .ok (.getfield 20, 3) := dk_180 dg_cX5_stepBack_1345.2.2.1
theorem dX5_stepBack_33 : decode cX5_stepBack 33 = .ok (.aload_n 0, 1) := dk_42 dg_cX5_stepBack_1345.2.2.2.1
theorem dX5_stepBack_34 : decode cX5_stepBack 34 = .ok (.getfield 13, 3) := dk_180 dg_cX5_stepBack_1345.2.2.2.2.1
theorem dX5_stepBack_37 : decode cX5_stepBack 37 = .ok (.aload_n 0, 1) := dk_42 dg_cX5_stepBack_1345.2.2.2.2.2.1
theorem dX5_stepBack_38 : decode cX5_stepBack 38 = .ok (.getfield 35, 3) := dk_180 dg_cX5_stepBack_1345.2.2.2.2.2.2.1
theorem dX5_stepBack_41 : decode cX5_stepBack 41 = .ok (.aload_n 0, 1) := dk_42 dg_cX5_stepBack_1345.2.2.2.2.2.2.2
theorem dg_cX5_stepBack_1346 : ck3 cX5_stepBack 42 180 38 = true ∧ ck1 cX5_stepBack 45 96 = true ∧ ck2s cX5_stepBack 46 16 41 = true ∧ ck1 cX5_stepBack 48 112 = true ∧ ck3 cX5_stepBack 49 182 44 = true ∧ ck1 cX5_stepBack 52 4 = true ∧ ck1 cX5_stepBack 53 172 = true := by decide +kernel
theorem dX5_stepBack_42 : decode cX5_stepBack 42 = .ok (.getfield 38, 3) := dk_180 dg_cX5_stepBack_1346.1
theorem dX5_stepBack_45 : decode cX5_stepBack 45 = .ok (.iadd, 1) := dk_96 dg_cX5_stepBack_1346.2.1
theorem dX5_stepBack_46 : decode cX5_stepBack 46 = .ok (.bipush 41, 2) := dk_16 dg_cX5_stepBack_1346.2.2.1
theorem dX5_stepBack_48 : decode cX5_stepBack 48 = .ok (.irem, 1) := dk_112 dg_cX5_stepBack_1346.2.2.2.1
theorem dX5_stepBack_49 : decode cX5_stepBack 49 = .ok (.invokevirtual 44, 3) := dk_182 dg_cX5_stepBack_1346.2.2.2.2.1
theorem dX5_stepBack_52 : decode cX5_stepBack 52 = .ok (.iconst 1, 1) := dk_4 dg_cX5_stepBack_1346.2.2.2.2.2.1
theorem dX5_stepBack_53 : decode cX5_stepBack 53 = .ok (.ireturn, 1) := dk_172 dg_cX5_stepBack_1346.2.2.2.2.2.2
theorem dg_cX5_stepOn_1347 : ck1 cX5_stepOn 0 42 = true ∧ ck3 cX5_stepOn 1 180 41 = true ∧ ck3s cX5_stepOn 4 154 5 = true ∧ ck1 cX5_stepOn 7 3 = true ∧ ck1 cX5_stepOn 8 172 = true ∧ ck1 cX5_stepOn 9 42 = true ∧ ck1 cX5_stepOn 10 89 = true ∧ ck3 cX5_stepOn 11 180 38 = true := by decide +kernel
theorem dX5_stepOn_0 : decode cX5_stepOn 0 = .ok (.aload_n 0, 1) := dk_42 dg_cX5_stepOn_1347.1
theorem dX5_stepOn_1 : decode cX5_stepOn 1 = .ok (.getfield 41, 3) := dk_180 dg_cX5_stepOn_1347.2.1
theorem dX5_stepOn_4 : decode cX5_stepOn 4 = .ok (.ifCond .ne 5, 3) := dk_154 dg_cX5_stepOn_1347.2.2.1
theorem dX5_stepOn_7 : decode cX5_stepOn 7 = .ok (.iconst 0, 1) := dk_3 dg_cX5_stepOn_1347.2.2.2.1
theorem dX5_stepOn_8 : decode cX5_stepOn 8 = .ok (.ireturn, 1) := dk_172 dg_cX5_stepOn_1347.2.2.2.2.1
theorem dX5_stepOn_9 : decode cX5_stepOn 9 = .ok (.aload_n 0, 1) := dk_42 dg_cX5_stepOn_1347.2.2.2.2.2.1
theorem dX5_stepOn_10 : decode cX5_stepOn 10 = .ok (.dup, 1) := dk_89 dg_cX5_stepOn_1347.2.2.2.2.2.2.1
theorem dX5_stepOn_11 : decode cX5_stepOn 11 = .ok (.getfield 38, 3) := dk_180 dg_cX5_stepOn_1347.2.2.2.2.2.2.2
theorem dg_cX5_stepOn_1348 : ck1 cX5_stepOn 14 4 = true ∧ ck1 cX5_stepOn 15 96 = true ∧ ck3 cX5_stepOn 16 181 38 = true ∧ ck1 cX5_stepOn 19 42 = true ∧ ck1 cX5_stepOn 20 89 = true ∧ ck3 cX5_stepOn 21 180 41 = true ∧ ck1 cX5_stepOn 24 4 = true ∧ ck1 cX5_stepOn 25 100 = true := by decide +kernel
theorem dX5_stepOn_14 : decode cX5_stepOn 14 = .ok (.iconst 1, 1) := dk_4 dg_cX5_stepOn_1348.1
theorem dX5_stepOn_15 : decode cX5_stepOn 15 = .ok (.iadd, 1) := dk_96 dg_cX5_stepOn_1348.2.1
theorem dX5_stepOn_16 : decode cX5_stepOn 16 = .ok (.putfield 38, 3) := dk_181 dg_cX5_stepOn_1348.2.2.1
theorem dX5_stepOn_19 : decode cX5_stepOn 19 = .ok (.aload_n 0, 1) := dk_42 dg_cX5_stepOn_1348.2.2.2.1
theorem dX5_stepOn_20 : decode cX5_stepOn 20 = .ok (.dup, 1) := dk_89 dg_cX5_stepOn_1348.2.2.2.2.1
theorem dX5_stepOn_21 : decode cX5_stepOn 21 = .ok (.getfield 41, 3) := dk_180 dg_cX5_stepOn_1348.2.2.2.2.2.1
theorem dX5_stepOn_24 : decode cX5_stepOn 24 = .ok (.iconst 1, 1) := dk_4 dg_cX5_stepOn_1348.2.2.2.2.2.2.1
theorem dX5_stepOn_25 : decode cX5_stepOn 25 = .ok (.isub, 1) := dk_100 dg_cX5_stepOn_1348.2.2.2.2.2.2.2
theorem dg_cX5_stepOn_1349 : ck3 cX5_stepOn 26 181 41 = true ∧ ck1 cX5_stepOn 29 42 = true ∧ ck3 cX5_stepOn 30 180 20 = true ∧ ck1 cX5_stepOn 33 42 = true ∧ ck3 cX5_stepOn 34 180 13 = true ∧ ck1 cX5_stepOn 37 42 = true ∧ ck3 cX5_stepOn 38 180 35 = true ∧ ck1 cX5_stepOn 41 42 = true := by decide +kernel
theorem dX5_stepOn_26 : decode cX5_stepOn 26 = .ok (.putfield 41, 3) := dk_181 dg_cX5_stepOn_1349.1
theorem dX5_stepOn_29 : decode cX5_stepOn 29 = .ok (.aload_n 0, 1) := dk_42 dg_cX5_stepOn_1349.2.1
theorem dX5_stepOn_30 : decode cX5_stepOn 30 = .ok (.getfield 20, 3) := dk_180 dg_cX5_stepOn_1349.2.2.1
theorem dX5_stepOn_33 : decode cX5_stepOn 33 = .ok (.aload_n 0, 1) := dk_42 dg_cX5_stepOn_1349.2.2.2.1
theorem dX5_stepOn_34 : decode cX5_stepOn 34 = .ok (.getfield 13, 3) := dk_180 dg_cX5_stepOn_1349.2.2.2.2.1
theorem dX5_stepOn_37 : decode cX5_stepOn 37 = .ok (.aload_n 0, 1) := dk_42 dg_cX5_stepOn_1349.2.2.2.2.2.1
theorem dX5_stepOn_38 : decode cX5_stepOn 38 = .ok (.getfield 35, 3) := dk_180 dg_cX5_stepOn_1349.2.2.2.2.2.2.1
theorem dX5_stepOn_41 : decode cX5_stepOn 41 = .ok (.aload_n 0, 1) := dk_42 dg_cX5_stepOn_1349.2.2.2.2.2.2.2
theorem dg_cX5_stepOn_1350 : ck3 cX5_stepOn 42 180 38 = true ∧ ck1 cX5_stepOn 45 96 = true ∧ ck2s cX5_stepOn 46 16 41 = true ∧ ck1 cX5_stepOn 48 112 = true ∧ ck3 cX5_stepOn 49 182 44 = true ∧ ck1 cX5_stepOn 52 4 = true ∧ ck1 cX5_stepOn 53 172 = true := by decide +kernel
theorem dX5_stepOn_42 : decode cX5_stepOn 42 = .ok (.getfield 38, 3) := dk_180 dg_cX5_stepOn_1350.1
theorem dX5_stepOn_45 : decode cX5_stepOn 45 = .ok (.iadd, 1) := dk_96 dg_cX5_stepOn_1350.2.1
theorem dX5_stepOn_46 : decode cX5_stepOn 46 = .ok (.bipush 41, 2) := dk_16 dg_cX5_stepOn_1350.2.2.1
theorem dX5_stepOn_48 : decode cX5_stepOn 48 = .ok (.irem, 1) := dk_112 dg_cX5_stepOn_1350.2.2.2.1
theorem dX5_stepOn_49 : decode cX5_stepOn 49 = .ok (.invokevirtual 44, 3) := dk_182 dg_cX5_stepOn_1350.2.2.2.2.1
theorem dX5_stepOn_52 : decode cX5_stepOn 52 = .ok (.iconst 1, 1) := dk_4 dg_cX5_stepOn_1350.2.2.2.2.2.1
theorem dX5_stepOn_53 : decode cX5_stepOn 53 = .ok (.ireturn, 1) := dk_172 dg_cX5_stepOn_1350.2.2.2.2.2.2
theorem dg_cX5_takeBox_1351 : ck1 cX5_takeBox 0 27 = true ∧ ck3s cX5_takeBox 1 155 19 = true ∧ ck1 cX5_takeBox 4 27 = true ∧ ck1 cX5_takeBox 5 6 = true ∧ ck3s cX5_takeBox 6 162 14 = true ∧ ck1 cX5_takeBox 9 42 = true ∧ ck3 cX5_takeBox 10 180 28 = true ∧ ck1 cX5_takeBox 13 27 = true := by decide +kernel
theorem dX5_takeBox_0 : decode cX5_takeBox 0 = .ok (.iload_n 1, 1) := dk_27 dg_cX5_takeBox_1351.1
theorem dX5_takeBox_1 : decode cX5_takeBox 1 = .ok (.ifCond .lt 19, 3) := dk_155 dg_cX5_takeBox_1351.2.1
theorem dX5_takeBox_4 : decode cX5_takeBox 4 = .ok (.iload_n 1, 1) := dk_27 dg_cX5_takeBox_1351.2.2.1
theorem dX5_takeBox_5 : decode cX5_takeBox 5 = .ok (.iconst 3, 1) := dk_6 dg_cX5_takeBox_1351.2.2.2.1
theorem dX5_takeBox_6 : decode cX5_takeBox 6 = .ok (.if_icmp .ge 14, 3) := dk_162 dg_cX5_takeBox_1351.2.2.2.2.1
theorem dX5_takeBox_9 : decode cX5_takeBox 9 = .ok (.aload_n 0, 1) := dk_42 dg_cX5_takeBox_1351.2.2.2.2.2.1
theorem dX5_takeBox_10 : decode cX5_takeBox 10 = .ok (.getfield 28, 3) := dk_180 dg_cX5_takeBox_1351.2.2.2.2.2.2.1
theorem dX5_takeBox_13 : decode cX5_takeBox 13 = .ok (.iload_n 1, 1) := dk_27 dg_cX5_takeBox_1351.2.2.2.2.2.2.2
theorem dg_cX5_takeBox_1352 : ck1 cX5_takeBox 14 122 = true ∧ ck1 cX5_takeBox 15 4 = true ∧ ck1 cX5_takeBox 16 126 = true ∧ ck3s cX5_takeBox 17 154 5 = true ∧ ck1 cX5_takeBox 20 3 = true ∧ ck1 cX5_takeBox 21 172 = true ∧ ck1 cX5_takeBox 22 42 = true ∧ ck3 cX5_takeBox 23 180 20 = true := by decide +kernel
theorem dX5_takeBox_14 : decode cX5_takeBox 14 = .ok (.ishr, 1) := dk_122 dg_cX5_takeBox_1352.1
theorem dX5_takeBox_15 : decode cX5_takeBox 15 = .ok (.iconst 1, 1) := dk_4 dg_cX5_takeBox_1352.2.1
theorem dX5_takeBox_16 : decode cX5_takeBox 16 = .ok (.iand, 1) := dk_126 dg_cX5_takeBox_1352.2.2.1
theorem dX5_takeBox_17 : decode cX5_takeBox 17 = .ok (.ifCond .ne 5, 3) := dk_154 dg_cX5_takeBox_1352.2.2.2.1
theorem dX5_takeBox_20 : decode cX5_takeBox 20 = .ok (.iconst 0, 1) := dk_3 dg_cX5_takeBox_1352.2.2.2.2.1
theorem dX5_takeBox_21 : decode cX5_takeBox 21 = .ok (.ireturn, 1) := dk_172 dg_cX5_takeBox_1352.2.2.2.2.2.1
theorem dX5_takeBox_22 : decode cX5_takeBox 22 = .ok (.aload_n 0, 1) := dk_42 dg_cX5_takeBox_1352.2.2.2.2.2.2.1
theorem dX5_takeBox_23 : decode cX5_takeBox 23 = .ok (.getfield 20, 3) := dk_180 dg_cX5_takeBox_1352.2.2.2.2.2.2.2
theorem dg_cX5_takeBox_1353 : ck1 cX5_takeBox 26 42 = true ∧ ck3 cX5_takeBox 27 180 17 = true ∧ ck1 cX5_takeBox 30 27 = true ∧ ck3 cX5_takeBox 31 182 44 = true ∧ ck1 cX5_takeBox 34 42 = true ∧ ck3 cX5_takeBox 35 182 32 = true ∧ ck1 cX5_takeBox 38 4 = true ∧ ck1 cX5_takeBox 39 172 = true := by decide +kernel
theorem dX5_takeBox_26 : decode cX5_takeBox 26 = .ok (.aload_n 0, 1) := dk_42 dg_cX5_takeBox_1353.1
theorem dX5_takeBox_27 : decode cX5_takeBox 27 = .ok (.getfield 17, 3) := dk_180 dg_cX5_takeBox_1353.2.1
theorem dX5_takeBox_30 : decode cX5_takeBox 30 = .ok (.iload_n 1, 1) := dk_27 dg_cX5_takeBox_1353.2.2.1
theorem dX5_takeBox_31 : decode cX5_takeBox 31 = .ok (.invokevirtual 44, 3) := dk_182 dg_cX5_takeBox_1353.2.2.2.1
theorem dX5_takeBox_34 : decode cX5_takeBox 34 = .ok (.aload_n 0, 1) := dk_42 dg_cX5_takeBox_1353.2.2.2.2.1
theorem dX5_takeBox_35 : decode cX5_takeBox 35 = .ok (.invokevirtual 32, 3) := dk_182 dg_cX5_takeBox_1353.2.2.2.2.2.1
theorem dX5_takeBox_38 : decode cX5_takeBox 38 = .ok (.iconst 1, 1) := dk_4 dg_cX5_takeBox_1353.2.2.2.2.2.2.1
theorem dX5_takeBox_39 : decode cX5_takeBox 39 = .ok (.ireturn, 1) := dk_172 dg_cX5_takeBox_1353.2.2.2.2.2.2.2
theorem dg_cX6_closing_1354 : ck1 cX6_closing 0 42 = true ∧ ck2s cX6_closing 1 16 59 = true ∧ ck3 cX6_closing 3 182 83 = true ∧ ck1 cX6_closing 6 172 = true := by decide +kernel
theorem dX6_closing_0 : decode cX6_closing 0 = .ok (.aload_n 0, 1) := dk_42 dg_cX6_closing_1354.1
theorem dX6_closing_1 : decode cX6_closing 1 = .ok (.bipush 59, 2) := dk_16 dg_cX6_closing_1354.2.1
theorem dX6_closing_3 : decode cX6_closing 3 = .ok (.invokevirtual 83, 3) := dk_182 dg_cX6_closing_1354.2.2.1
theorem dX6_closing_6 : decode cX6_closing 6 = .ok (.ireturn, 1) := dk_172 dg_cX6_closing_1354.2.2.2
theorem dg_cX6_coatLine_1355 : ck1 cX6_coatLine 0 42 = true ∧ ck3 cX6_coatLine 1 180 12 = true ∧ ck3 cX6_coatLine 4 180 104 = true ∧ ck2s cX6_coatLine 7 16 6 = true ∧ ck3s cX6_coatLine 9 161 8 = true ∧ ck1 cX6_coatLine 12 42 = true ∧ ck3 cX6_coatLine 13 182 74 = true ∧ ck1 cX6_coatLine 16 172 = true := by decide +kernel
theorem dX6_coatLine_0 : decode cX6_coatLine 0 = .ok (.aload_n 0, 1) := dk_42 dg_cX6_coatLine_1355.1
theorem dX6_coatLine_1 : decode cX6_coatLine 1 = .ok (.getfield 12, 3) := dk_180 dg_cX6_coatLine_1355.2.1
theorem dX6_coatLine_4 : decode cX6_coatLine 4 = .ok (.getfield 104, 3) := dk_180 dg_cX6_coatLine_1355.2.2.1
theorem dX6_coatLine_7 : decode cX6_coatLine 7 = .ok (.bipush 6, 2) := dk_16 dg_cX6_coatLine_1355.2.2.2.1
theorem dX6_coatLine_9 : decode cX6_coatLine 9 = .ok (.if_icmp .lt 8, 3) := dk_161 dg_cX6_coatLine_1355.2.2.2.2.1
theorem dX6_coatLine_12 : decode cX6_coatLine 12 = .ok (.aload_n 0, 1) := dk_42 dg_cX6_coatLine_1355.2.2.2.2.2.1
theorem dX6_coatLine_13 : decode cX6_coatLine 13 = .ok (.invokevirtual 74, 3) := dk_182 dg_cX6_coatLine_1355.2.2.2.2.2.2.1
theorem dX6_coatLine_16 : decode cX6_coatLine 16 = .ok (.ireturn, 1) := dk_172 dg_cX6_coatLine_1355.2.2.2.2.2.2.2
theorem dg_cX6_coatLine_1356 : ck1 cX6_coatLine 17 42 = true ∧ ck3 cX6_coatLine 18 180 29 = true ∧ ck3 cX6_coatLine 21 182 86 = true ∧ ck1 cX6_coatLine 24 42 = true ∧ ck1 cX6_coatLine 25 42 = true ∧ ck3 cX6_coatLine 26 180 22 = true ∧ ck1 cX6_coatLine 29 42 = true ∧ ck3 cX6_coatLine 30 180 12 = true := by decide +kernel
theorem dX6_coatLine_17 : decode cX6_coatLine 17 = .ok (.aload_n 0, 1) := dk_42 dg_cX6_coatLine_1356.1
theorem dX6_coatLine_18 : decode cX6_coatLine 18 = .ok (.getfield 29, 3) := dk_180 dg_cX6_coatLine_1356.2.1
theorem dX6_coatLine_21 : decode cX6_coatLine 21 = .ok (.invokevirtual 86, 3) := dk_182 dg_cX6_coatLine_1356.2.2.1
theorem dX6_coatLine_24 : decode cX6_coatLine 24 = .ok (.aload_n 0, 1) := dk_42 dg_cX6_coatLine_1356.2.2.2.1
theorem dX6_coatLine_25 : decode cX6_coatLine 25 = .ok (.aload_n 0, 1) := dk_42 dg_cX6_coatLine_1356.2.2.2.2.1
theorem dX6_coatLine_26 : decode cX6_coatLine 26 = .ok (.getfield 22, 3) := dk_180 dg_cX6_coatLine_1356.2.2.2.2.2.1
theorem dX6_coatLine_29 : decode cX6_coatLine 29 = .ok (.aload_n 0, 1) := dk_42 dg_cX6_coatLine_1356.2.2.2.2.2.2.1
theorem dX6_coatLine_30 : decode cX6_coatLine 30 = .ok (.getfield 12, 3) := dk_180 dg_cX6_coatLine_1356.2.2.2.2.2.2.2
theorem dg_cX6_coatLine_1357 : ck3 cX6_coatLine 33 180 104 = true ∧ ck3 cX6_coatLine 36 182 92 = true ∧ ck3s cX6_coatLine 39 154 5 = true ∧ ck1 cX6_coatLine 42 3 = true ∧ ck1 cX6_coatLine 43 172 = true ∧ ck1 cX6_coatLine 44 42 = true ∧ ck2s cX6_coatLine 45 16 109 = true ∧ ck2s cX6_coatLine 47 16 99 = true := by decide +kernel
theorem dX6_coatLine_33 : decode cX6_coatLine 33 = .ok (.getfield 104, 3) := dk_180 dg_cX6_coatLine_1357.1
theorem dX6_coatLine_36 : decode cX6_coatLine 36 = .ok (.invokevirtual 92, 3) := dk_182 dg_cX6_coatLine_1357.2.1
theorem dX6_coatLine_39 : decode cX6_coatLine 39 = .ok (.ifCond .ne 5, 3) := dk_154 dg_cX6_coatLine_1357.2.2.1
theorem dX6_coatLine_42 : decode cX6_coatLine 42 = .ok (.iconst 0, 1) := dk_3 dg_cX6_coatLine_1357.2.2.2.1
theorem dX6_coatLine_43 : decode cX6_coatLine 43 = .ok (.ireturn, 1) := dk_172 dg_cX6_coatLine_1357.2.2.2.2.1
theorem dX6_coatLine_44 : decode cX6_coatLine 44 = .ok (.aload_n 0, 1) := dk_42 dg_cX6_coatLine_1357.2.2.2.2.2.1
theorem dX6_coatLine_45 : decode cX6_coatLine 45 = .ok (.bipush 109, 2) := dk_16 dg_cX6_coatLine_1357.2.2.2.2.2.2.1
theorem dX6_coatLine_47 : decode cX6_coatLine 47 = .ok (.bipush 99, 2) := dk_16 dg_cX6_coatLine_1357.2.2.2.2.2.2.2
theorem dg_cX6_coatLine_1358 : ck3 cX6_coatLine 49 182 96 = true ∧ ck1 cX6_coatLine 52 60 = true ∧ ck1 cX6_coatLine 53 27 = true ∧ ck3s cX6_coatLine 54 156 7 = true ∧ ck1 cX6_coatLine 57 2 = true ∧ ck3s cX6_coatLine 58 167 11 = true ∧ ck1 cX6_coatLine 61 42 = true ∧ ck2s cX6_coatLine 62 16 110 = true := by decide +kernel
theorem dX6_coatLine_49 : decode cX6_coatLine 49 = .ok (.invokevirtual 96, 3) := dk_182 dg_cX6_coatLine_1358.1
theorem dX6_coatLine_52 : decode cX6_coatLine 52 = .ok (.istore_n 1, 1) := dk_60 dg_cX6_coatLine_1358.2.1
theorem dX6_coatLine_53 : decode cX6_coatLine 53 = .ok (.iload_n 1, 1) := dk_27 dg_cX6_coatLine_1358.2.2.1
theorem dX6_coatLine_54 : decode cX6_coatLine 54 = .ok (.ifCond .ge 7, 3) := dk_156 dg_cX6_coatLine_1358.2.2.2.1
theorem dX6_coatLine_57 : decode cX6_coatLine 57 = .ok (.iconst (-1), 1) := dk_2 dg_cX6_coatLine_1358.2.2.2.2.1
theorem dX6_coatLine_58 : decode cX6_coatLine 58 = .ok (.goto 11, 3) := dk_167 dg_cX6_coatLine_1358.2.2.2.2.2.1
theorem dX6_coatLine_61 : decode cX6_coatLine 61 = .ok (.aload_n 0, 1) := dk_42 dg_cX6_coatLine_1358.2.2.2.2.2.2.1
theorem dX6_coatLine_62 : decode cX6_coatLine 62 = .ok (.bipush 110, 2) := dk_16 dg_cX6_coatLine_1358.2.2.2.2.2.2.2
def dS_cX6_coatLine_2 : List UInt8 := 182 :: 0 :: 96 :: 167 :: 0 :: 4 :: 3 :: 54 :: 4 :: 21 :: 4 :: 156 :: 0 :: 5 :: 3 :: 172 :: 42 :: 180 :: 0 :: 12 :: 27 :: 28 :: 29 :: 21 :: 4 :: 182 :: 0 :: 107 :: 4 :: 172 :: []
def dS_cX6_coatLine_1 : List UInt8 := 16 :: 99 :: 182 :: 0 :: 96 :: 61 :: 28 :: 156 :: 0 :: 7 :: 2 :: 167 :: 0 :: 27 :: 42 :: 180 :: 0 :: 29 :: 180 :: 0 :: 47 :: 16 :: 112 :: 160 :: 0 :: 14 :: 42 :: 16 :: 112 :: 16 :: 20 :: 182 :: 0 :: 96 :: 167 :: 0 :: 4 :: 3 :: 62 :: 29 :: 156 :: 0 :: 7 :: 2 :: 167 :: 0 :: 27 :: 42 :: 180 :: 0 :: 29 :: 180 :: 0 :: 47 :: 16 :: 120 :: 160 :: 0 :: 14 :: 42 :: 16 :: 120 :: 16 :: 99 :: dS_cX6_coatLine_2
def dS_cX6_coatLine_0 : List UInt8 := 42 :: 180 :: 0 :: 12 :: 180 :: 0 :: 104 :: 16 :: 6 :: 161 :: 0 :: 8 :: 42 :: 182 :: 0 :: 74 :: 172 :: 42 :: 180 :: 0 :: 29 :: 182 :: 0 :: 86 :: 42 :: 42 :: 180 :: 0 :: 22 :: 42 :: 180 :: 0 :: 12 :: 180 :: 0 :: 104 :: 182 :: 0 :: 92 :: 154 :: 0 :: 5 :: 3 :: 172 :: 42 :: 16 :: 109 :: 16 :: 99 :: 182 :: 0 :: 96 :: 60 :: 27 :: 156 :: 0 :: 7 :: 2 :: 167 :: 0 :: 11 :: 42 :: 16 :: 110 :: dS_cX6_coatLine_1
theorem dT_cX6_coatLine_0 : cX6_coatLine.data.toList.drop 0 = dS_cX6_coatLine_0 := by decide +kernel
theorem dT_cX6_coatLine_1 : cX6_coatLine.data.toList.drop 64 = dS_cX6_coatLine_1 := ck_nx dT_cX6_coatLine_0 (by decide +kernel) rfl
theorem dT_cX6_coatLine_2 : cX6_coatLine.data.toList.drop 128 = dS_cX6_coatLine_2 := ck_nx dT_cX6_coatLine_1 (by decide +kernel) rfl
theorem dg_cX6_coatLine_1359 : ck2sL dS_cX6_coatLine_1 0 16 99 = true ∧ ck3L dS_cX6_coatLine_1 2 182 96 = true ∧ ck1L dS_cX6_coatLine_1 5 61 = true ∧ ck1L dS_cX6_coatLine_1 6 28 = true ∧ ck3sL dS_cX6_coatLine_1 7 156 7 = true ∧ ck1L dS_cX6_coatLine_1 10 2 = true ∧ ck3sL dS_cX6_coatLine_1 11 167 27 = true ∧ ck1L dS_cX6_coatLine_1 14 42 = true := by decide +kernel
theorem dX6_coatLine_64 : decode cX6_coatLine 64 = .ok (.bipush 99, 2) := dk_16 (ck2s_s (r := 0) dT_cX6_coatLine_1 rfl dg_cX6_coatLine_1359.1)
theorem dX6_coatLine_66 : decode cX6_coatLine 66 = .ok (.invokevirtual 96, 3) := dk_182 (ck3_s (r := 2) dT_cX6_coatLine_1 rfl dg_cX6_coatLine_1359.2.1)
theorem dX6_coatLine_69 : decode cX6_coatLine 69 = .ok (.istore_n 2, 1) := dk_61 (ck1_s (r := 5) dT_cX6_coatLine_1 rfl dg_cX6_coatLine_1359.2.2.1)
theorem dX6_coatLine_70 : decode cX6_coatLine 70 = .ok (.iload_n 2, 1) := dk_28 (ck1_s (r := 6) dT_cX6_coatLine_1 rfl dg_cX6_coatLine_1359.2.2.2.1)
theorem dX6_coatLine_71 : decode cX6_coatLine 71 = .ok (.ifCond .ge 7, 3) := dk_156 (ck3s_s (r := 7) dT_cX6_coatLine_1 rfl dg_cX6_coatLine_1359.2.2.2.2.1)
theorem dX6_coatLine_74 : decode cX6_coatLine 74 = .ok (.iconst (-1), 1) := dk_2 (ck1_s (r := 10) dT_cX6_coatLine_1 rfl dg_cX6_coatLine_1359.2.2.2.2.2.1)
theorem dX6_coatLine_75 : decode cX6_coatLine 75 = .ok (.goto 27, 3) := dk_167 (ck3s_s (r := 11) dT_cX6_coatLine_1 rfl dg_cX6_coatLine_1359.2.2.2.2.2.2.1)
theorem dX6_coatLine_78 : decode cX6_coatLine 78 = .ok (.aload_n 0, 1) := dk_42 (ck1_s (r := 14) dT_cX6_coatLine_1 rfl dg_cX6_coatLine_1359.2.2.2.2.2.2.2)
theorem dg_cX6_coatLine_1360 : ck3L dS_cX6_coatLine_1 15 180 29 = true ∧ ck3L dS_cX6_coatLine_1 18 180 47 = true ∧ ck2sL dS_cX6_coatLine_1 21 16 112 = true ∧ ck3sL dS_cX6_coatLine_1 23 160 14 = true ∧ ck1L dS_cX6_coatLine_1 26 42 = true ∧ ck2sL dS_cX6_coatLine_1 27 16 112 = true ∧ ck2sL dS_cX6_coatLine_1 29 16 20 = true ∧ ck3L dS_cX6_coatLine_1 31 182 96 = true := by decide +kernel
theorem dX6_coatLine_79 : decode cX6_coatLine 79 = .ok (.getfield 29, 3) := dk_180 (ck3_s (r := 15) dT_cX6_coatLine_1 rfl dg_cX6_coatLine_1360.1)
theorem dX6_coatLine_82 : decode cX6_coatLine 82 = .ok (.getfield 47, 3) := dk_180 (ck3_s (r := 18) dT_cX6_coatLine_1 rfl dg_cX6_coatLine_1360.2.1)
theorem dX6_coatLine_85 : decode cX6_coatLine 85 = .ok (.bipush 112, 2) := dk_16 (ck2s_s (r := 21) dT_cX6_coatLine_1 rfl dg_cX6_coatLine_1360.2.2.1)
theorem dX6_coatLine_87 : decode cX6_coatLine 87 = .ok (.if_icmp .ne 14, 3) := dk_160 (ck3s_s (r := 23) dT_cX6_coatLine_1 rfl dg_cX6_coatLine_1360.2.2.2.1)
theorem dX6_coatLine_90 : decode cX6_coatLine 90 = .ok (.aload_n 0, 1) := dk_42 (ck1_s (r := 26) dT_cX6_coatLine_1 rfl dg_cX6_coatLine_1360.2.2.2.2.1)
theorem dX6_coatLine_91 : decode cX6_coatLine 91 = .ok (.bipush 112, 2) := dk_16 (ck2s_s (r := 27) dT_cX6_coatLine_1 rfl dg_cX6_coatLine_1360.2.2.2.2.2.1)
theorem dX6_coatLine_93 : decode cX6_coatLine 93 = .ok (.bipush 20, 2) := dk_16 (ck2s_s (r := 29) dT_cX6_coatLine_1 rfl dg_cX6_coatLine_1360.2.2.2.2.2.2.1)
theorem dX6_coatLine_95 : decode cX6_coatLine 95 = .ok (.invokevirtual 96, 3) := dk_182 (ck3_s (r := 31) dT_cX6_coatLine_1 rfl dg_cX6_coatLine_1360.2.2.2.2.2.2.2)
theorem dg_cX6_coatLine_1361 : ck3sL dS_cX6_coatLine_1 34 167 4 = true ∧ ck1L dS_cX6_coatLine_1 37 3 = true ∧ ck1L dS_cX6_coatLine_1 38 62 = true ∧ ck1L dS_cX6_coatLine_1 39 29 = true ∧ ck3sL dS_cX6_coatLine_1 40 156 7 = true ∧ ck1L dS_cX6_coatLine_1 43 2 = true ∧ ck3sL dS_cX6_coatLine_1 44 167 27 = true ∧ ck1L dS_cX6_coatLine_1 47 42 = true := by decide +kernel
theorem dX6_coatLine_98 : decode cX6_coatLine 98 = .ok (.goto 4, 3) := dk_167 (ck3s_s (r := 34) dT_cX6_coatLine_1 rfl dg_cX6_coatLine_1361.1)
theorem dX6_coatLine_101 : decode cX6_coatLine 101 = .ok (.iconst 0, 1) := dk_3 (ck1_s (r := 37) dT_cX6_coatLine_1 rfl dg_cX6_coatLine_1361.2.1)
theorem dX6_coatLine_102 : decode cX6_coatLine 102 = .ok (.istore_n 3, 1) := dk_62 (ck1_s (r := 38) dT_cX6_coatLine_1 rfl dg_cX6_coatLine_1361.2.2.1)
theorem dX6_coatLine_103 : decode cX6_coatLine 103 = .ok (.iload_n 3, 1) := dk_29 (ck1_s (r := 39) dT_cX6_coatLine_1 rfl dg_cX6_coatLine_1361.2.2.2.1)
theorem dX6_coatLine_104 : decode cX6_coatLine 104 = .ok (.ifCond .ge 7, 3) := dk_156 (ck3s_s (r := 40) dT_cX6_coatLine_1 rfl dg_cX6_coatLine_1361.2.2.2.2.1)
theorem dX6_coatLine_107 : decode cX6_coatLine 107 = .ok (.iconst (-1), 1) := dk_2 (ck1_s (r := 43) dT_cX6_coatLine_1 rfl dg_cX6_coatLine_1361.2.2.2.2.2.1)
theorem dX6_coatLine_108 : decode cX6_coatLine 108 = .ok (.goto 27, 3) := dk_167 (ck3s_s (r := 44) dT_cX6_coatLine_1 rfl dg_cX6_coatLine_1361.2.2.2.2.2.2.1)
theorem dX6_coatLine_111 : decode cX6_coatLine 111 = .ok (.aload_n 0, 1) := dk_42 (ck1_s (r := 47) dT_cX6_coatLine_1 rfl dg_cX6_coatLine_1361.2.2.2.2.2.2.2)
theorem dg_cX6_coatLine_1362 : ck3L dS_cX6_coatLine_1 48 180 29 = true ∧ ck3L dS_cX6_coatLine_1 51 180 47 = true ∧ ck2sL dS_cX6_coatLine_1 54 16 120 = true ∧ ck3sL dS_cX6_coatLine_1 56 160 14 = true ∧ ck1L dS_cX6_coatLine_1 59 42 = true ∧ ck2sL dS_cX6_coatLine_1 60 16 120 = true ∧ ck2sL dS_cX6_coatLine_1 62 16 99 = true ∧ ck3L dS_cX6_coatLine_2 0 182 96 = true := by decide +kernel
theorem dX6_coatLine_112 : decode cX6_coatLine 112 = .ok (.getfield 29, 3) := dk_180 (ck3_s (r := 48) dT_cX6_coatLine_1 rfl dg_cX6_coatLine_1362.1)
theorem dX6_coatLine_115 : decode cX6_coatLine 115 = .ok (.getfield 47, 3) := dk_180 (ck3_s (r := 51) dT_cX6_coatLine_1 rfl dg_cX6_coatLine_1362.2.1)
theorem dX6_coatLine_118 : decode cX6_coatLine 118 = .ok (.bipush 120, 2) := dk_16 (ck2s_s (r := 54) dT_cX6_coatLine_1 rfl dg_cX6_coatLine_1362.2.2.1)
theorem dX6_coatLine_120 : decode cX6_coatLine 120 = .ok (.if_icmp .ne 14, 3) := dk_160 (ck3s_s (r := 56) dT_cX6_coatLine_1 rfl dg_cX6_coatLine_1362.2.2.2.1)
theorem dX6_coatLine_123 : decode cX6_coatLine 123 = .ok (.aload_n 0, 1) := dk_42 (ck1_s (r := 59) dT_cX6_coatLine_1 rfl dg_cX6_coatLine_1362.2.2.2.2.1)
theorem dX6_coatLine_124 : decode cX6_coatLine 124 = .ok (.bipush 120, 2) := dk_16 (ck2s_s (r := 60) dT_cX6_coatLine_1 rfl dg_cX6_coatLine_1362.2.2.2.2.2.1)
theorem dX6_coatLine_126 : decode cX6_coatLine 126 = .ok (.bipush 99, 2) := dk_16 (ck2s_s (r := 62) dT_cX6_coatLine_1 rfl dg_cX6_coatLine_1362.2.2.2.2.2.2.1)
theorem dX6_coatLine_128 : decode cX6_coatLine 128 = .ok (.invokevirtual 96, 3) := dk_182 (ck3_s (r := 0) dT_cX6_coatLine_2 rfl dg_cX6_coatLine_1362.2.2.2.2.2.2.2)
theorem dg_cX6_coatLine_1363 : ck3sL dS_cX6_coatLine_2 3 167 4 = true ∧ ck1L dS_cX6_coatLine_2 6 3 = true ∧ ck2L dS_cX6_coatLine_2 7 54 4 = true ∧ ck2L dS_cX6_coatLine_2 9 21 4 = true ∧ ck3sL dS_cX6_coatLine_2 11 156 5 = true ∧ ck1L dS_cX6_coatLine_2 14 3 = true ∧ ck1L dS_cX6_coatLine_2 15 172 = true ∧ ck1L dS_cX6_coatLine_2 16 42 = true := by decide +kernel
theorem dX6_coatLine_131 : decode cX6_coatLine 131 = .ok (.goto 4, 3) := dk_167 (ck3s_s (r := 3) dT_cX6_coatLine_2 rfl dg_cX6_coatLine_1363.1)
theorem dX6_coatLine_134 : decode cX6_coatLine 134 = .ok (.iconst 0, 1) := dk_3 (ck1_s (r := 6) dT_cX6_coatLine_2 rfl dg_cX6_coatLine_1363.2.1)
theorem dX6_coatLine_135 : decode cX6_coatLine 135 = .ok (.istore 4, 2) := dk_54 (ck2_s (r := 7) dT_cX6_coatLine_2 rfl dg_cX6_coatLine_1363.2.2.1)
theorem dX6_coatLine_137 : decode cX6_coatLine 137 = .ok (.iload 4, 2) := dk_21 (ck2_s (r := 9) dT_cX6_coatLine_2 rfl dg_cX6_coatLine_1363.2.2.2.1)
theorem dX6_coatLine_139 : decode cX6_coatLine 139 = .ok (.ifCond .ge 5, 3) := dk_156 (ck3s_s (r := 11) dT_cX6_coatLine_2 rfl dg_cX6_coatLine_1363.2.2.2.2.1)
theorem dX6_coatLine_142 : decode cX6_coatLine 142 = .ok (.iconst 0, 1) := dk_3 (ck1_s (r := 14) dT_cX6_coatLine_2 rfl dg_cX6_coatLine_1363.2.2.2.2.2.1)
theorem dX6_coatLine_143 : decode cX6_coatLine 143 = .ok (.ireturn, 1) := dk_172 (ck1_s (r := 15) dT_cX6_coatLine_2 rfl dg_cX6_coatLine_1363.2.2.2.2.2.2.1)
theorem dX6_coatLine_144 : decode cX6_coatLine 144 = .ok (.aload_n 0, 1) := dk_42 (ck1_s (r := 16) dT_cX6_coatLine_2 rfl dg_cX6_coatLine_1363.2.2.2.2.2.2.2)
theorem dg_cX6_coatLine_1364 : ck3L dS_cX6_coatLine_2 17 180 12 = true ∧ ck1L dS_cX6_coatLine_2 20 27 = true ∧ ck1L dS_cX6_coatLine_2 21 28 = true ∧ ck1L dS_cX6_coatLine_2 22 29 = true ∧ ck2L dS_cX6_coatLine_2 23 21 4 = true ∧ ck3L dS_cX6_coatLine_2 25 182 107 = true ∧ ck1L dS_cX6_coatLine_2 28 4 = true ∧ ck1L dS_cX6_coatLine_2 29 172 = true := by decide +kernel
theorem dX6_coatLine_145 : decode cX6_coatLine 145 = .ok (.getfield 12, 3) := dk_180 (ck3_s (r := 17) dT_cX6_coatLine_2 rfl dg_cX6_coatLine_1364.1)
theorem dX6_coatLine_148 : decode cX6_coatLine 148 = .ok (.iload_n 1, 1) := dk_27 (ck1_s (r := 20) dT_cX6_coatLine_2 rfl dg_cX6_coatLine_1364.2.1)
theorem dX6_coatLine_149 : decode cX6_coatLine 149 = .ok (.iload_n 2, 1) := dk_28 (ck1_s (r := 21) dT_cX6_coatLine_2 rfl dg_cX6_coatLine_1364.2.2.1)
theorem dX6_coatLine_150 : decode cX6_coatLine 150 = .ok (.iload_n 3, 1) := dk_29 (ck1_s (r := 22) dT_cX6_coatLine_2 rfl dg_cX6_coatLine_1364.2.2.2.1)
theorem dX6_coatLine_151 : decode cX6_coatLine 151 = .ok (.iload 4, 2) := dk_21 (ck2_s (r := 23) dT_cX6_coatLine_2 rfl dg_cX6_coatLine_1364.2.2.2.2.1)
theorem dX6_coatLine_153 : decode cX6_coatLine 153 = .ok (.invokevirtual 107, 3) := dk_182 (ck3_s (r := 25) dT_cX6_coatLine_2 rfl dg_cX6_coatLine_1364.2.2.2.2.2.1)
theorem dX6_coatLine_156 : decode cX6_coatLine 156 = .ok (.iconst 1, 1) := dk_4 (ck1_s (r := 28) dT_cX6_coatLine_2 rfl dg_cX6_coatLine_1364.2.2.2.2.2.2.1)
theorem dX6_coatLine_157 : decode cX6_coatLine 157 = .ok (.ireturn, 1) := dk_172 (ck1_s (r := 29) dT_cX6_coatLine_2 rfl dg_cX6_coatLine_1364.2.2.2.2.2.2.2)
theorem dg_cX6_expression_1365 : ck1 cX6_expression 0 27 = true ∧ ck1 cX6_expression 1 8 = true ∧ ck3s cX6_expression 2 161 9 = true ∧ ck1 cX6_expression 5 42 = true ∧ ck1 cX6_expression 6 28 = true ∧ ck3 cX6_expression 7 182 125 = true ∧ ck1 cX6_expression 10 172 = true ∧ ck1 cX6_expression 11 27 = true := by decide +kernel
theorem dX6_expression_0 : decode cX6_expression 0 = .ok (.iload_n 1, 1) := dk_27 dg_cX6_expression_1365.1
theorem dX6_expression_1 : decode cX6_expression 1 = .ok (.iconst 5, 1) := dk_8 dg_cX6_expression_1365.2.1
theorem dX6_expression_2 : decode cX6_expression 2 = .ok (.if_icmp .lt 9, 3) := dk_161 dg_cX6_expression_1365.2.2.1
theorem dX6_expression_5 : decode cX6_expression 5 = .ok (.aload_n 0, 1) := dk_42 dg_cX6_expression_1365.2.2.2.1
theorem dX6_expression_6 : decode cX6_expression 6 = .ok (.iload_n 2, 1) := dk_28 dg_cX6_expression_1365.2.2.2.2.1
theorem dX6_expression_7 : decode cX6_expression 7 = .ok (.invokevirtual 125, 3) := dk_182 dg_cX6_expression_1365.2.2.2.2.2.1
theorem dX6_expression_10 : decode cX6_expression 10 = .ok (.ireturn, 1) := dk_172 dg_cX6_expression_1365.2.2.2.2.2.2.1
theorem dX6_expression_11 : decode cX6_expression 11 = .ok (.iload_n 1, 1) := dk_27 dg_cX6_expression_1365.2.2.2.2.2.2.2
theorem dg_cX6_expression_1366 : ck1 cX6_expression 12 5 = true ∧ ck3s cX6_expression 13 160 21 = true ∧ ck1 cX6_expression 16 42 = true ∧ ck3 cX6_expression 17 180 29 = true ∧ ck3 cX6_expression 20 180 47 = true ∧ ck2s cX6_expression 23 16 115 = true ∧ ck3s cX6_expression 25 160 9 = true ∧ ck1 cX6_expression 28 42 = true := by decide +kernel
theorem dX6_expression_12 : decode cX6_expression 12 = .ok (.iconst 2, 1) := dk_5 dg_cX6_expression_1366.1
theorem dX6_expression_13 : decode cX6_expression 13 = .ok (.if_icmp .ne 21, 3) := dk_160 dg_cX6_expression_1366.2.1
theorem dX6_expression_16 : decode cX6_expression 16 = .ok (.aload_n 0, 1) := dk_42 dg_cX6_expression_1366.2.2.1
theorem dX6_expression_17 : decode cX6_expression 17 = .ok (.getfield 29, 3) := dk_180 dg_cX6_expression_1366.2.2.2.1
theorem dX6_expression_20 : decode cX6_expression 20 = .ok (.getfield 47, 3) := dk_180 dg_cX6_expression_1366.2.2.2.2.1
theorem dX6_expression_23 : decode cX6_expression 23 = .ok (.bipush 115, 2) := dk_16 dg_cX6_expression_1366.2.2.2.2.2.1
theorem dX6_expression_25 : decode cX6_expression 25 = .ok (.if_icmp .ne 9, 3) := dk_160 dg_cX6_expression_1366.2.2.2.2.2.2.1
theorem dX6_expression_28 : decode cX6_expression 28 = .ok (.aload_n 0, 1) := dk_42 dg_cX6_expression_1366.2.2.2.2.2.2.2
theorem dg_cX6_expression_1367 : ck1 cX6_expression 29 28 = true ∧ ck3 cX6_expression 30 182 128 = true ∧ ck1 cX6_expression 33 172 = true ∧ ck1 cX6_expression 34 42 = true ∧ ck1 cX6_expression 35 27 = true ∧ ck1 cX6_expression 36 4 = true ∧ ck1 cX6_expression 37 96 = true ∧ ck1 cX6_expression 38 28 = true := by decide +kernel
theorem dX6_expression_29 : decode cX6_expression 29 = .ok (.iload_n 2, 1) := dk_28 dg_cX6_expression_1367.1
theorem dX6_expression_30 : decode cX6_expression 30 = .ok (.invokevirtual 128, 3) := dk_182 dg_cX6_expression_1367.2.1
theorem dX6_expression_33 : decode cX6_expression 33 = .ok (.ireturn, 1) := dk_172 dg_cX6_expression_1367.2.2.1
theorem dX6_expression_34 : decode cX6_expression 34 = .ok (.aload_n 0, 1) := dk_42 dg_cX6_expression_1367.2.2.2.1
theorem dX6_expression_35 : decode cX6_expression 35 = .ok (.iload_n 1, 1) := dk_27 dg_cX6_expression_1367.2.2.2.2.1
theorem dX6_expression_36 : decode cX6_expression 36 = .ok (.iconst 1, 1) := dk_4 dg_cX6_expression_1367.2.2.2.2.2.1
theorem dX6_expression_37 : decode cX6_expression 37 = .ok (.iadd, 1) := dk_96 dg_cX6_expression_1367.2.2.2.2.2.2.1
theorem dX6_expression_38 : decode cX6_expression 38 = .ok (.iload_n 2, 1) := dk_28 dg_cX6_expression_1367.2.2.2.2.2.2.2
theorem dg_cX6_expression_1368 : ck3 cX6_expression 39 182 67 = true ∧ ck3s cX6_expression 42 154 5 = true ∧ ck1 cX6_expression 45 3 = true ∧ ck1 cX6_expression 46 172 = true ∧ ck1 cX6_expression 47 27 = true ∧ ck1 cX6_expression 48 5 = true ∧ ck3s cX6_expression 49 160 7 = true ∧ ck1 cX6_expression 52 4 = true := by decide +kernel
theorem dX6_expression_39 : decode cX6_expression 39 = .ok (.invokevirtual 67, 3) := dk_182 dg_cX6_expression_1368.1
theorem dX6_expression_42 : decode cX6_expression 42 = .ok (.ifCond .ne 5, 3) := dk_154 dg_cX6_expression_1368.2.1
theorem dX6_expression_45 : decode cX6_expression 45 = .ok (.iconst 0, 1) := dk_3 dg_cX6_expression_1368.2.2.1
theorem dX6_expression_46 : decode cX6_expression 46 = .ok (.ireturn, 1) := dk_172 dg_cX6_expression_1368.2.2.2.1
theorem dX6_expression_47 : decode cX6_expression 47 = .ok (.iload_n 1, 1) := dk_27 dg_cX6_expression_1368.2.2.2.2.1
theorem dX6_expression_48 : decode cX6_expression 48 = .ok (.iconst 2, 1) := dk_5 dg_cX6_expression_1368.2.2.2.2.2.1
theorem dX6_expression_49 : decode cX6_expression 49 = .ok (.if_icmp .ne 7, 3) := dk_160 dg_cX6_expression_1368.2.2.2.2.2.2.1
theorem dX6_expression_52 : decode cX6_expression 52 = .ok (.iconst 1, 1) := dk_4 dg_cX6_expression_1368.2.2.2.2.2.2.2
theorem dg_cX6_expression_1369 : ck3s cX6_expression 53 167 6 = true ∧ ck3s cX6_expression 56 17 1600 = true ∧ ck1 cX6_expression 59 62 = true ∧ ck1 cX6_expression 60 3 = true ∧ ck2 cX6_expression 61 54 4 = true ∧ ck2 cX6_expression 63 21 4 = true := by decide +kernel
theorem dX6_expression_53 : decode cX6_expression 53 = .ok (.goto 6, 3) := dk_167 dg_cX6_expression_1369.1
theorem dX6_expression_56 : decode cX6_expression 56 = .ok (.sipush 1600, 3) := dk_17 dg_cX6_expression_1369.2.1
theorem dX6_expression_59 : decode cX6_expression 59 = .ok (.istore_n 3, 1) := dk_62 dg_cX6_expression_1369.2.2.1
theorem dX6_expression_60 : decode cX6_expression 60 = .ok (.iconst 0, 1) := dk_3 dg_cX6_expression_1369.2.2.2.1
theorem dX6_expression_61 : decode cX6_expression 61 = .ok (.istore 4, 2) := dk_54 dg_cX6_expression_1369.2.2.2.2.1
theorem dX6_expression_63 : decode cX6_expression 63 = .ok (.iload 4, 2) := dk_21 dg_cX6_expression_1369.2.2.2.2.2
def dS_cX6_expression_2 : List UInt8 := 167 :: 255 :: 191 :: 4 :: 172 :: []
def dS_cX6_expression_1 : List UInt8 := 4 :: 29 :: 162 :: 0 :: 65 :: 27 :: 42 :: 180 :: 0 :: 29 :: 180 :: 0 :: 47 :: 184 :: 0 :: 131 :: 153 :: 0 :: 51 :: 42 :: 180 :: 0 :: 29 :: 180 :: 0 :: 47 :: 54 :: 5 :: 42 :: 180 :: 0 :: 29 :: 182 :: 0 :: 86 :: 42 :: 27 :: 4 :: 96 :: 28 :: 182 :: 0 :: 67 :: 154 :: 0 :: 5 :: 3 :: 172 :: 42 :: 180 :: 0 :: 12 :: 180 :: 0 :: 134 :: 21 :: 5 :: 3 :: 182 :: 0 :: 138 :: 132 :: 4 :: 1 :: dS_cX6_expression_2
def dS_cX6_expression_0 : List UInt8 := 27 :: 8 :: 161 :: 0 :: 9 :: 42 :: 28 :: 182 :: 0 :: 125 :: 172 :: 27 :: 5 :: 160 :: 0 :: 21 :: 42 :: 180 :: 0 :: 29 :: 180 :: 0 :: 47 :: 16 :: 115 :: 160 :: 0 :: 9 :: 42 :: 28 :: 182 :: 0 :: 128 :: 172 :: 42 :: 27 :: 4 :: 96 :: 28 :: 182 :: 0 :: 67 :: 154 :: 0 :: 5 :: 3 :: 172 :: 27 :: 5 :: 160 :: 0 :: 7 :: 4 :: 167 :: 0 :: 6 :: 17 :: 6 :: 64 :: 62 :: 3 :: 54 :: 4 :: 21 :: dS_cX6_expression_1
theorem dT_cX6_expression_0 : cX6_expression.data.toList.drop 0 = dS_cX6_expression_0 := by decide +kernel
theorem dT_cX6_expression_1 : cX6_expression.data.toList.drop 64 = dS_cX6_expression_1 := ck_nx dT_cX6_expression_0 (by decide +kernel) rfl
theorem dT_cX6_expression_2 : cX6_expression.data.toList.drop 128 = dS_cX6_expression_2 := ck_nx dT_cX6_expression_1 (by decide +kernel) rfl
theorem dg_cX6_expression_1370 : ck1L dS_cX6_expression_1 1 29 = true ∧ ck3sL dS_cX6_expression_1 2 162 65 = true ∧ ck1L dS_cX6_expression_1 5 27 = true ∧ ck1L dS_cX6_expression_1 6 42 = true ∧ ck3L dS_cX6_expression_1 7 180 29 = true ∧ ck3L dS_cX6_expression_1 10 180 47 = true ∧ ck3L dS_cX6_expression_1 13 184 131 = true ∧ ck3sL dS_cX6_expression_1 16 153 51 = true := by decide +kernel
theorem dX6_expression_65 : decode cX6_expression 65 = .ok (.iload_n 3, 1) := dk_29 (ck1_s (r := 1) dT_cX6_expression_1 rfl dg_cX6_expression_1370.1)
theorem dX6_expression_66 : decode cX6_expression 66 = .ok (.if_icmp .ge 65, 3) := dk_162 (ck3s_s (r := 2) dT_cX6_expression_1 rfl dg_cX6_expression_1370.2.1)
theorem dX6_expression_69 : decode cX6_expression 69 = .ok (.iload_n 1, 1) := dk_27 (ck1_s (r := 5) dT_cX6_expression_1 rfl dg_cX6_expression_1370.2.2.1)
theorem dX6_expression_70 : decode cX6_expression 70 = .ok (.aload_n 0, 1) := dk_42 (ck1_s (r := 6) dT_cX6_expression_1 rfl dg_cX6_expression_1370.2.2.2.1)
theorem dX6_expression_71 : decode cX6_expression 71 = .ok (.getfield 29, 3) := dk_180 (ck3_s (r := 7) dT_cX6_expression_1 rfl dg_cX6_expression_1370.2.2.2.2.1)
theorem dX6_expression_74 : decode cX6_expression 74 = .ok (.getfield 47, 3) := dk_180 (ck3_s (r := 10) dT_cX6_expression_1 rfl dg_cX6_expression_1370.2.2.2.2.2.1)
theorem dX6_expression_77 : decode cX6_expression 77 = .ok (.invokestatic 131, 3) := dk_184 (ck3_s (r := 13) dT_cX6_expression_1 rfl dg_cX6_expression_1370.2.2.2.2.2.2.1)
theorem dX6_expression_80 : decode cX6_expression 80 = .ok (.ifCond .eq 51, 3) := dk_153 (ck3s_s (r := 16) dT_cX6_expression_1 rfl dg_cX6_expression_1370.2.2.2.2.2.2.2)
theorem dg_cX6_expression_1371 : ck1L dS_cX6_expression_1 19 42 = true ∧ ck3L dS_cX6_expression_1 20 180 29 = true ∧ ck3L dS_cX6_expression_1 23 180 47 = true ∧ ck2L dS_cX6_expression_1 26 54 5 = true ∧ ck1L dS_cX6_expression_1 28 42 = true ∧ ck3L dS_cX6_expression_1 29 180 29 = true ∧ ck3L dS_cX6_expression_1 32 182 86 = true ∧ ck1L dS_cX6_expression_1 35 42 = true := by decide +kernel
theorem dX6_expression_83 : decode cX6_expression 83 = .ok (.aload_n 0, 1) := dk_42 (ck1_s (r := 19) dT_cX6_expression_1 rfl dg_cX6_expression_1371.1)
theorem dX6_expression_84 : decode cX6_expression 84 = .ok (.getfield 29, 3) := dk_180 (ck3_s (r := 20) dT_cX6_expression_1 rfl dg_cX6_expression_1371.2.1)
theorem dX6_expression_87 : decode cX6_expression 87 = .ok (.getfield 47, 3) := dk_180 (ck3_s (r := 23) dT_cX6_expression_1 rfl dg_cX6_expression_1371.2.2.1)
theorem dX6_expression_90 : decode cX6_expression 90 = .ok (.istore 5, 2) := dk_54 (ck2_s (r := 26) dT_cX6_expression_1 rfl dg_cX6_expression_1371.2.2.2.1)
theorem dX6_expression_92 : decode cX6_expression 92 = .ok (.aload_n 0, 1) := dk_42 (ck1_s (r := 28) dT_cX6_expression_1 rfl dg_cX6_expression_1371.2.2.2.2.1)
theorem dX6_expression_93 : decode cX6_expression 93 = .ok (.getfield 29, 3) := dk_180 (ck3_s (r := 29) dT_cX6_expression_1 rfl dg_cX6_expression_1371.2.2.2.2.2.1)
theorem dX6_expression_96 : decode cX6_expression 96 = .ok (.invokevirtual 86, 3) := dk_182 (ck3_s (r := 32) dT_cX6_expression_1 rfl dg_cX6_expression_1371.2.2.2.2.2.2.1)
theorem dX6_expression_99 : decode cX6_expression 99 = .ok (.aload_n 0, 1) := dk_42 (ck1_s (r := 35) dT_cX6_expression_1 rfl dg_cX6_expression_1371.2.2.2.2.2.2.2)
theorem dg_cX6_expression_1372 : ck1L dS_cX6_expression_1 36 27 = true ∧ ck1L dS_cX6_expression_1 37 4 = true ∧ ck1L dS_cX6_expression_1 38 96 = true ∧ ck1L dS_cX6_expression_1 39 28 = true ∧ ck3L dS_cX6_expression_1 40 182 67 = true ∧ ck3sL dS_cX6_expression_1 43 154 5 = true ∧ ck1L dS_cX6_expression_1 46 3 = true ∧ ck1L dS_cX6_expression_1 47 172 = true := by decide +kernel
theorem dX6_expression_100 : decode cX6_expression 100 = .ok (.iload_n 1, 1) := dk_27 (ck1_s (r := 36) dT_cX6_expression_1 rfl dg_cX6_expression_1372.1)
theorem dX6_expression_101 : decode cX6_expression 101 = .ok (.iconst 1, 1) := dk_4 (ck1_s (r := 37) dT_cX6_expression_1 rfl dg_cX6_expression_1372.2.1)
theorem dX6_expression_102 : decode cX6_expression 102 = .ok (.iadd, 1) := dk_96 (ck1_s (r := 38) dT_cX6_expression_1 rfl dg_cX6_expression_1372.2.2.1)
theorem dX6_expression_103 : decode cX6_expression 103 = .ok (.iload_n 2, 1) := dk_28 (ck1_s (r := 39) dT_cX6_expression_1 rfl dg_cX6_expression_1372.2.2.2.1)
theorem dX6_expression_104 : decode cX6_expression 104 = .ok (.invokevirtual 67, 3) := dk_182 (ck3_s (r := 40) dT_cX6_expression_1 rfl dg_cX6_expression_1372.2.2.2.2.1)
theorem dX6_expression_107 : decode cX6_expression 107 = .ok (.ifCond .ne 5, 3) := dk_154 (ck3s_s (r := 43) dT_cX6_expression_1 rfl dg_cX6_expression_1372.2.2.2.2.2.1)
theorem dX6_expression_110 : decode cX6_expression 110 = .ok (.iconst 0, 1) := dk_3 (ck1_s (r := 46) dT_cX6_expression_1 rfl dg_cX6_expression_1372.2.2.2.2.2.2.1)
theorem dX6_expression_111 : decode cX6_expression 111 = .ok (.ireturn, 1) := dk_172 (ck1_s (r := 47) dT_cX6_expression_1 rfl dg_cX6_expression_1372.2.2.2.2.2.2.2)
theorem dg_cX6_expression_1373 : ck1L dS_cX6_expression_1 48 42 = true ∧ ck3L dS_cX6_expression_1 49 180 12 = true ∧ ck3L dS_cX6_expression_1 52 180 134 = true ∧ ck2L dS_cX6_expression_1 55 21 5 = true ∧ ck1L dS_cX6_expression_1 57 3 = true ∧ ck3L dS_cX6_expression_1 58 182 138 = true ∧ ck3iL dS_cX6_expression_1 61 132 4 1 = true ∧ ck3sL dS_cX6_expression_2 0 167 (-65) = true := by decide +kernel
theorem dX6_expression_112 : decode cX6_expression 112 = .ok (.aload_n 0, 1) := dk_42 (ck1_s (r := 48) dT_cX6_expression_1 rfl dg_cX6_expression_1373.1)
theorem dX6_expression_113 : decode cX6_expression 113 = .ok (.getfield 12, 3) := dk_180 (ck3_s (r := 49) dT_cX6_expression_1 rfl dg_cX6_expression_1373.2.1)
theorem dX6_expression_116 : decode cX6_expression 116 = .ok (.getfield 134, 3) := dk_180 (ck3_s (r := 52) dT_cX6_expression_1 rfl dg_cX6_expression_1373.2.2.1)
theorem dX6_expression_119 : decode cX6_expression 119 = .ok (.iload 5, 2) := dk_21 (ck2_s (r := 55) dT_cX6_expression_1 rfl dg_cX6_expression_1373.2.2.2.1)
theorem dX6_expression_121 : decode cX6_expression 121 = .ok (.iconst 0, 1) := dk_3 (ck1_s (r := 57) dT_cX6_expression_1 rfl dg_cX6_expression_1373.2.2.2.2.1)
theorem dX6_expression_122 : decode cX6_expression 122 = .ok (.invokevirtual 138, 3) := dk_182 (ck3_s (r := 58) dT_cX6_expression_1 rfl dg_cX6_expression_1373.2.2.2.2.2.1)
theorem dX6_expression_125 : decode cX6_expression 125 = .ok (.iinc 4 1, 3) := dk_132 (ck3i_s (r := 61) dT_cX6_expression_1 rfl dg_cX6_expression_1373.2.2.2.2.2.2.1)
theorem dX6_expression_128 : decode cX6_expression 128 = .ok (.goto (-65), 3) := dk_167 (ck3s_s (r := 0) dT_cX6_expression_2 rfl dg_cX6_expression_1373.2.2.2.2.2.2.2)
theorem dg_cX6_expression_1374 : ck1L dS_cX6_expression_2 3 4 = true ∧ ck1L dS_cX6_expression_2 4 172 = true := by decide +kernel
theorem dX6_expression_131 : decode cX6_expression 131 = .ok (.iconst 1, 1) := dk_4 (ck1_s (r := 3) dT_cX6_expression_2 rfl dg_cX6_expression_1374.1)
theorem dX6_expression_132 : decode cX6_expression 132 = .ok (.ireturn, 1) := dk_172 (ck1_s (r := 4) dT_cX6_expression_2 rfl dg_cX6_expression_1374.2)
theorem dg_cX6_init_1375 : ck1 cX6_init 0 42 = true ∧ ck3 cX6_init 1 183 3 = true ∧ ck1 cX6_init 4 42 = true ∧ ck3 cX6_init 5 187 9 = true ∧ ck1 cX6_init 8 89 = true ∧ ck3 cX6_init 9 183 11 = true ∧ ck3 cX6_init 12 181 12 = true ∧ ck1 cX6_init 15 42 = true := by decide +kernel
theorem dX6_init_0 : decode cX6_init 0 = .ok (.aload_n 0, 1) := dk_42 dg_cX6_init_1375.1
theorem dX6_init_1 : decode cX6_init 1 = .ok (.invokespecial 3, 3) := dk_183 dg_cX6_init_1375.2.1
theorem dX6_init_4 : decode cX6_init 4 = .ok (.aload_n 0, 1) := dk_42 dg_cX6_init_1375.2.2.1
theorem dX6_init_5 : decode cX6_init 5 = .ok (.new 9, 3) := dk_187 dg_cX6_init_1375.2.2.2.1
theorem dX6_init_8 : decode cX6_init 8 = .ok (.dup, 1) := dk_89 dg_cX6_init_1375.2.2.2.2.1
theorem dX6_init_9 : decode cX6_init 9 = .ok (.invokespecial 11, 3) := dk_183 dg_cX6_init_1375.2.2.2.2.2.1
theorem dX6_init_12 : decode cX6_init 12 = .ok (.putfield 12, 3) := dk_181 dg_cX6_init_1375.2.2.2.2.2.2.1
theorem dX6_init_15 : decode cX6_init 15 = .ok (.aload_n 0, 1) := dk_42 dg_cX6_init_1375.2.2.2.2.2.2.2
theorem dg_cX6_init_1376 : ck2s cX6_init 16 16 6 = true := by decide +kernel
theorem dX6_init_16 : decode cX6_init 16 = .ok (.bipush 6, 2) := dk_16 dg_cX6_init_1376
theorem dX6_init_18 : decode cX6_init 18 = .ok (.newarray .int, 2) := by decide +kernel
theorem dg_cX6_init_1377 : ck3 cX6_init 20 181 18 = true ∧ ck1 cX6_init 23 42 = true ∧ ck2s cX6_init 24 16 6 = true := by decide +kernel
theorem dX6_init_20 : decode cX6_init 20 = .ok (.putfield 18, 3) := dk_181 dg_cX6_init_1377.1
theorem dX6_init_23 : decode cX6_init 23 = .ok (.aload_n 0, 1) := dk_42 dg_cX6_init_1377.2.1
theorem dX6_init_24 : decode cX6_init 24 = .ok (.bipush 6, 2) := dk_16 dg_cX6_init_1377.2.2
theorem dX6_init_26 : decode cX6_init 26 = .ok (.newarray .int, 2) := by decide +kernel
theorem dg_cX6_init_1378 : ck3 cX6_init 28 181 22 = true ∧ ck1 cX6_init 31 42 = true ∧ ck1 cX6_init 32 2 = true ∧ ck3 cX6_init 33 181 25 = true ∧ ck1 cX6_init 36 42 = true ∧ ck1 cX6_init 37 43 = true ∧ ck3 cX6_init 38 181 29 = true ∧ ck1 cX6_init 41 177 = true := by decide +kernel
theorem dX6_init_28 : decode cX6_init 28 = .ok (.putfield 22, 3) := dk_181 dg_cX6_init_1378.1
theorem dX6_init_31 : decode cX6_init 31 = .ok (.aload_n 0, 1) := dk_42 dg_cX6_init_1378.2.1
theorem dX6_init_32 : decode cX6_init 32 = .ok (.iconst (-1), 1) := dk_2 dg_cX6_init_1378.2.2.1
theorem dX6_init_33 : decode cX6_init 33 = .ok (.putfield 25, 3) := dk_181 dg_cX6_init_1378.2.2.2.1
theorem dX6_init_36 : decode cX6_init 36 = .ok (.aload_n 0, 1) := dk_42 dg_cX6_init_1378.2.2.2.2.1
theorem dX6_init_37 : decode cX6_init 37 = .ok (.aload_n 1, 1) := dk_43 dg_cX6_init_1378.2.2.2.2.2.1
theorem dX6_init_38 : decode cX6_init 38 = .ok (.putfield 29, 3) := dk_181 dg_cX6_init_1378.2.2.2.2.2.2.1
theorem dX6_init_41 : decode cX6_init 41 = .ok (.return_, 1) := dk_177 dg_cX6_init_1378.2.2.2.2.2.2.2
theorem dg_cX6_joins_1379 : ck1 cX6_joins 0 26 = true := by decide +kernel
theorem dX6_joins_0 : decode cX6_joins 0 = .ok (.iload_n 0, 1) := dk_26 dg_cX6_joins_1379
theorem dX6_joins_1 : decode cX6_joins 1 = .ok (.tableswitch 125 0 4 #[35, 47, 59, 83, 101], 35) := by decide +kernel
theorem dg_cX6_joins_1380 : ck1 cX6_joins 36 27 = true ∧ ck2s cX6_joins 37 16 113 = true ∧ ck3s cX6_joins 39 160 7 = true ∧ ck1 cX6_joins 42 4 = true ∧ ck3s cX6_joins 43 167 4 = true ∧ ck1 cX6_joins 46 3 = true ∧ ck1 cX6_joins 47 172 = true ∧ ck1 cX6_joins 48 27 = true := by decide +kernel
theorem dX6_joins_36 : decode cX6_joins 36 = .ok (.iload_n 1, 1) := dk_27 dg_cX6_joins_1380.1
theorem dX6_joins_37 : decode cX6_joins 37 = .ok (.bipush 113, 2) := dk_16 dg_cX6_joins_1380.2.1
theorem dX6_joins_39 : decode cX6_joins 39 = .ok (.if_icmp .ne 7, 3) := dk_160 dg_cX6_joins_1380.2.2.1
theorem dX6_joins_42 : decode cX6_joins 42 = .ok (.iconst 1, 1) := dk_4 dg_cX6_joins_1380.2.2.2.1
theorem dX6_joins_43 : decode cX6_joins 43 = .ok (.goto 4, 3) := dk_167 dg_cX6_joins_1380.2.2.2.2.1
theorem dX6_joins_46 : decode cX6_joins 46 = .ok (.iconst 0, 1) := dk_3 dg_cX6_joins_1380.2.2.2.2.2.1
theorem dX6_joins_47 : decode cX6_joins 47 = .ok (.ireturn, 1) := dk_172 dg_cX6_joins_1380.2.2.2.2.2.2.1
theorem dX6_joins_48 : decode cX6_joins 48 = .ok (.iload_n 1, 1) := dk_27 dg_cX6_joins_1380.2.2.2.2.2.2.2
theorem dg_cX6_joins_1381 : ck2s cX6_joins 49 16 114 = true ∧ ck3s cX6_joins 51 160 7 = true ∧ ck1 cX6_joins 54 4 = true ∧ ck3s cX6_joins 55 167 4 = true ∧ ck1 cX6_joins 58 3 = true ∧ ck1 cX6_joins 59 172 = true ∧ ck1 cX6_joins 60 27 = true ∧ ck2s cX6_joins 61 16 60 = true := by decide +kernel
theorem dX6_joins_49 : decode cX6_joins 49 = .ok (.bipush 114, 2) := dk_16 dg_cX6_joins_1381.1
theorem dX6_joins_51 : decode cX6_joins 51 = .ok (.if_icmp .ne 7, 3) := dk_160 dg_cX6_joins_1381.2.1
theorem dX6_joins_54 : decode cX6_joins 54 = .ok (.iconst 1, 1) := dk_4 dg_cX6_joins_1381.2.2.1
theorem dX6_joins_55 : decode cX6_joins 55 = .ok (.goto 4, 3) := dk_167 dg_cX6_joins_1381.2.2.2.1
theorem dX6_joins_58 : decode cX6_joins 58 = .ok (.iconst 0, 1) := dk_3 dg_cX6_joins_1381.2.2.2.2.1
theorem dX6_joins_59 : decode cX6_joins 59 = .ok (.ireturn, 1) := dk_172 dg_cX6_joins_1381.2.2.2.2.2.1
theorem dX6_joins_60 : decode cX6_joins 60 = .ok (.iload_n 1, 1) := dk_27 dg_cX6_joins_1381.2.2.2.2.2.2.1
theorem dX6_joins_61 : decode cX6_joins 61 = .ok (.bipush 60, 2) := dk_16 dg_cX6_joins_1381.2.2.2.2.2.2.2
theorem dg_cX6_joins_1382 : ck3s cX6_joins 63 159 15 = true := by decide +kernel
theorem dX6_joins_63 : decode cX6_joins 63 = .ok (.if_icmp .eq 15, 3) := dk_159 dg_cX6_joins_1382
def dS_cX6_joins_1 : List UInt8 := 0 :: 15 :: 27 :: 16 :: 62 :: 159 :: 0 :: 9 :: 27 :: 16 :: 61 :: 160 :: 0 :: 7 :: 4 :: 167 :: 0 :: 4 :: 3 :: 172 :: 27 :: 16 :: 43 :: 159 :: 0 :: 9 :: 27 :: 16 :: 45 :: 160 :: 0 :: 7 :: 4 :: 167 :: 0 :: 4 :: 3 :: 172 :: 27 :: 16 :: 42 :: 159 :: 0 :: 15 :: 27 :: 16 :: 47 :: 159 :: 0 :: 9 :: 27 :: 16 :: 37 :: 160 :: 0 :: 7 :: 4 :: 167 :: 0 :: 4 :: 3 :: 172 :: 3 :: 172 :: []
def dS_cX6_joins_0 : List UInt8 := 26 :: 170 :: 0 :: 0 :: 0 :: 0 :: 0 :: 125 :: 0 :: 0 :: 0 :: 0 :: 0 :: 0 :: 0 :: 4 :: 0 :: 0 :: 0 :: 35 :: 0 :: 0 :: 0 :: 47 :: 0 :: 0 :: 0 :: 59 :: 0 :: 0 :: 0 :: 83 :: 0 :: 0 :: 0 :: 101 :: 27 :: 16 :: 113 :: 160 :: 0 :: 7 :: 4 :: 167 :: 0 :: 4 :: 3 :: 172 :: 27 :: 16 :: 114 :: 160 :: 0 :: 7 :: 4 :: 167 :: 0 :: 4 :: 3 :: 172 :: 27 :: 16 :: 60 :: 159 :: dS_cX6_joins_1
theorem dT_cX6_joins_0 : cX6_joins.data.toList.drop 0 = dS_cX6_joins_0 := by decide +kernel
theorem dT_cX6_joins_1 : cX6_joins.data.toList.drop 64 = dS_cX6_joins_1 := ck_nx dT_cX6_joins_0 (by decide +kernel) rfl
theorem dg_cX6_joins_1383 : ck1L dS_cX6_joins_1 2 27 = true ∧ ck2sL dS_cX6_joins_1 3 16 62 = true ∧ ck3sL dS_cX6_joins_1 5 159 9 = true ∧ ck1L dS_cX6_joins_1 8 27 = true ∧ ck2sL dS_cX6_joins_1 9 16 61 = true ∧ ck3sL dS_cX6_joins_1 11 160 7 = true ∧ ck1L dS_cX6_joins_1 14 4 = true ∧ ck3sL dS_cX6_joins_1 15 167 4 = true := by decide +kernel
theorem dX6_joins_66 : decode cX6_joins 66 = .ok (.iload_n 1, 1) := dk_27 (ck1_s (r := 2) dT_cX6_joins_1 rfl dg_cX6_joins_1383.1)
theorem dX6_joins_67 : decode cX6_joins 67 = .ok (.bipush 62, 2) := dk_16 (ck2s_s (r := 3) dT_cX6_joins_1 rfl dg_cX6_joins_1383.2.1)
theorem dX6_joins_69 : decode cX6_joins 69 = .ok (.if_icmp .eq 9, 3) := dk_159 (ck3s_s (r := 5) dT_cX6_joins_1 rfl dg_cX6_joins_1383.2.2.1)
theorem dX6_joins_72 : decode cX6_joins 72 = .ok (.iload_n 1, 1) := dk_27 (ck1_s (r := 8) dT_cX6_joins_1 rfl dg_cX6_joins_1383.2.2.2.1)
theorem dX6_joins_73 : decode cX6_joins 73 = .ok (.bipush 61, 2) := dk_16 (ck2s_s (r := 9) dT_cX6_joins_1 rfl dg_cX6_joins_1383.2.2.2.2.1)
theorem dX6_joins_75 : decode cX6_joins 75 = .ok (.if_icmp .ne 7, 3) := dk_160 (ck3s_s (r := 11) dT_cX6_joins_1 rfl dg_cX6_joins_1383.2.2.2.2.2.1)
theorem dX6_joins_78 : decode cX6_joins 78 = .ok (.iconst 1, 1) := dk_4 (ck1_s (r := 14) dT_cX6_joins_1 rfl dg_cX6_joins_1383.2.2.2.2.2.2.1)
theorem dX6_joins_79 : decode cX6_joins 79 = .ok (.goto 4, 3) := dk_167 (ck3s_s (r := 15) dT_cX6_joins_1 rfl dg_cX6_joins_1383.2.2.2.2.2.2.2)
theorem dg_cX6_joins_1384 : ck1L dS_cX6_joins_1 18 3 = true ∧ ck1L dS_cX6_joins_1 19 172 = true ∧ ck1L dS_cX6_joins_1 20 27 = true ∧ ck2sL dS_cX6_joins_1 21 16 43 = true ∧ ck3sL dS_cX6_joins_1 23 159 9 = true ∧ ck1L dS_cX6_joins_1 26 27 = true ∧ ck2sL dS_cX6_joins_1 27 16 45 = true ∧ ck3sL dS_cX6_joins_1 29 160 7 = true := by decide +kernel
theorem dX6_joins_82 : decode cX6_joins 82 = .ok (.iconst 0, 1) := dk_3 (ck1_s (r := 18) dT_cX6_joins_1 rfl dg_cX6_joins_1384.1)
theorem dX6_joins_83 : decode cX6_joins 83 = .ok (.ireturn, 1) := dk_172 (ck1_s (r := 19) dT_cX6_joins_1 rfl dg_cX6_joins_1384.2.1)
theorem dX6_joins_84 : decode cX6_joins 84 = .ok (.iload_n 1, 1) := dk_27 (ck1_s (r := 20) dT_cX6_joins_1 rfl dg_cX6_joins_1384.2.2.1)
theorem dX6_joins_85 : decode cX6_joins 85 = .ok (.bipush 43, 2) := dk_16 (ck2s_s (r := 21) dT_cX6_joins_1 rfl dg_cX6_joins_1384.2.2.2.1)
theorem dX6_joins_87 : decode cX6_joins 87 = .ok (.if_icmp .eq 9, 3) := dk_159 (ck3s_s (r := 23) dT_cX6_joins_1 rfl dg_cX6_joins_1384.2.2.2.2.1)
theorem dX6_joins_90 : decode cX6_joins 90 = .ok (.iload_n 1, 1) := dk_27 (ck1_s (r := 26) dT_cX6_joins_1 rfl dg_cX6_joins_1384.2.2.2.2.2.1)
theorem dX6_joins_91 : decode cX6_joins 91 = .ok (.bipush 45, 2) := dk_16 (ck2s_s (r := 27) dT_cX6_joins_1 rfl dg_cX6_joins_1384.2.2.2.2.2.2.1)
theorem dX6_joins_93 : decode cX6_joins 93 = .ok (.if_icmp .ne 7, 3) := dk_160 (ck3s_s (r := 29) dT_cX6_joins_1 rfl dg_cX6_joins_1384.2.2.2.2.2.2.2)
theorem dg_cX6_joins_1385 : ck1L dS_cX6_joins_1 32 4 = true ∧ ck3sL dS_cX6_joins_1 33 167 4 = true ∧ ck1L dS_cX6_joins_1 36 3 = true ∧ ck1L dS_cX6_joins_1 37 172 = true ∧ ck1L dS_cX6_joins_1 38 27 = true ∧ ck2sL dS_cX6_joins_1 39 16 42 = true ∧ ck3sL dS_cX6_joins_1 41 159 15 = true ∧ ck1L dS_cX6_joins_1 44 27 = true := by decide +kernel
theorem dX6_joins_96 : decode cX6_joins 96 = .ok (.iconst 1, 1) := dk_4 (ck1_s (r := 32) dT_cX6_joins_1 rfl dg_cX6_joins_1385.1)
theorem dX6_joins_97 : decode cX6_joins 97 = .ok (.goto 4, 3) := dk_167 (ck3s_s (r := 33) dT_cX6_joins_1 rfl dg_cX6_joins_1385.2.1)
theorem dX6_joins_100 : decode cX6_joins 100 = .ok (.iconst 0, 1) := dk_3 (ck1_s (r := 36) dT_cX6_joins_1 rfl dg_cX6_joins_1385.2.2.1)
theorem dX6_joins_101 : decode cX6_joins 101 = .ok (.ireturn, 1) := dk_172 (ck1_s (r := 37) dT_cX6_joins_1 rfl dg_cX6_joins_1385.2.2.2.1)
theorem dX6_joins_102 : decode cX6_joins 102 = .ok (.iload_n 1, 1) := dk_27 (ck1_s (r := 38) dT_cX6_joins_1 rfl dg_cX6_joins_1385.2.2.2.2.1)
theorem dX6_joins_103 : decode cX6_joins 103 = .ok (.bipush 42, 2) := dk_16 (ck2s_s (r := 39) dT_cX6_joins_1 rfl dg_cX6_joins_1385.2.2.2.2.2.1)
theorem dX6_joins_105 : decode cX6_joins 105 = .ok (.if_icmp .eq 15, 3) := dk_159 (ck3s_s (r := 41) dT_cX6_joins_1 rfl dg_cX6_joins_1385.2.2.2.2.2.2.1)
theorem dX6_joins_108 : decode cX6_joins 108 = .ok (.iload_n 1, 1) := dk_27 (ck1_s (r := 44) dT_cX6_joins_1 rfl dg_cX6_joins_1385.2.2.2.2.2.2.2)
theorem dg_cX6_joins_1386 : ck2sL dS_cX6_joins_1 45 16 47 = true ∧ ck3sL dS_cX6_joins_1 47 159 9 = true ∧ ck1L dS_cX6_joins_1 50 27 = true ∧ ck2sL dS_cX6_joins_1 51 16 37 = true ∧ ck3sL dS_cX6_joins_1 53 160 7 = true ∧ ck1L dS_cX6_joins_1 56 4 = true ∧ ck3sL dS_cX6_joins_1 57 167 4 = true ∧ ck1L dS_cX6_joins_1 60 3 = true := by decide +kernel
theorem dX6_joins_109 : decode cX6_joins 109 = .ok (.bipush 47, 2) := dk_16 (ck2s_s (r := 45) dT_cX6_joins_1 rfl dg_cX6_joins_1386.1)
theorem dX6_joins_111 : decode cX6_joins 111 = .ok (.if_icmp .eq 9, 3) := dk_159 (ck3s_s (r := 47) dT_cX6_joins_1 rfl dg_cX6_joins_1386.2.1)
theorem dX6_joins_114 : decode cX6_joins 114 = .ok (.iload_n 1, 1) := dk_27 (ck1_s (r := 50) dT_cX6_joins_1 rfl dg_cX6_joins_1386.2.2.1)
theorem dX6_joins_115 : decode cX6_joins 115 = .ok (.bipush 37, 2) := dk_16 (ck2s_s (r := 51) dT_cX6_joins_1 rfl dg_cX6_joins_1386.2.2.2.1)
theorem dX6_joins_117 : decode cX6_joins 117 = .ok (.if_icmp .ne 7, 3) := dk_160 (ck3s_s (r := 53) dT_cX6_joins_1 rfl dg_cX6_joins_1386.2.2.2.2.1)
theorem dX6_joins_120 : decode cX6_joins 120 = .ok (.iconst 1, 1) := dk_4 (ck1_s (r := 56) dT_cX6_joins_1 rfl dg_cX6_joins_1386.2.2.2.2.2.1)
theorem dX6_joins_121 : decode cX6_joins 121 = .ok (.goto 4, 3) := dk_167 (ck3s_s (r := 57) dT_cX6_joins_1 rfl dg_cX6_joins_1386.2.2.2.2.2.2.1)
theorem dX6_joins_124 : decode cX6_joins 124 = .ok (.iconst 0, 1) := dk_3 (ck1_s (r := 60) dT_cX6_joins_1 rfl dg_cX6_joins_1386.2.2.2.2.2.2.2)
theorem dg_cX6_joins_1387 : ck1L dS_cX6_joins_1 61 172 = true ∧ ck1L dS_cX6_joins_1 62 3 = true ∧ ck1L dS_cX6_joins_1 63 172 = true := by decide +kernel
theorem dX6_joins_125 : decode cX6_joins 125 = .ok (.ireturn, 1) := dk_172 (ck1_s (r := 61) dT_cX6_joins_1 rfl dg_cX6_joins_1387.1)
theorem dX6_joins_126 : decode cX6_joins 126 = .ok (.iconst 0, 1) := dk_3 (ck1_s (r := 62) dT_cX6_joins_1 rfl dg_cX6_joins_1387.2.1)
theorem dX6_joins_127 : decode cX6_joins 127 = .ok (.ireturn, 1) := dk_172 (ck1_s (r := 63) dT_cX6_joins_1 rfl dg_cX6_joins_1387.2.2)
theorem dg_cX6_labelled_1388 : ck1 cX6_labelled 0 42 = true ∧ ck3 cX6_labelled 1 180 29 = true ∧ ck3 cX6_labelled 4 180 47 = true ∧ ck1 cX6_labelled 7 27 = true ∧ ck3s cX6_labelled 8 159 10 = true ∧ ck1 cX6_labelled 11 42 = true ∧ ck3 cX6_labelled 12 182 74 = true ∧ ck1 cX6_labelled 15 87 = true := by decide +kernel
theorem dX6_labelled_0 : decode cX6_labelled 0 = .ok (.aload_n 0, 1) := dk_42 dg_cX6_labelled_1388.1
theorem dX6_labelled_1 : decode cX6_labelled 1 = .ok (.getfield 29, 3) := dk_180 dg_cX6_labelled_1388.2.1
theorem dX6_labelled_4 : decode cX6_labelled 4 = .ok (.getfield 47, 3) := dk_180 dg_cX6_labelled_1388.2.2.1
theorem dX6_labelled_7 : decode cX6_labelled 7 = .ok (.iload_n 1, 1) := dk_27 dg_cX6_labelled_1388.2.2.2.1
theorem dX6_labelled_8 : decode cX6_labelled 8 = .ok (.if_icmp .eq 10, 3) := dk_159 dg_cX6_labelled_1388.2.2.2.2.1
theorem dX6_labelled_11 : decode cX6_labelled 11 = .ok (.aload_n 0, 1) := dk_42 dg_cX6_labelled_1388.2.2.2.2.2.1
theorem dX6_labelled_12 : decode cX6_labelled 12 = .ok (.invokevirtual 74, 3) := dk_182 dg_cX6_labelled_1388.2.2.2.2.2.2.1
theorem dX6_labelled_15 : decode cX6_labelled 15 = .ok (.pop, 1) := dk_87 dg_cX6_labelled_1388.2.2.2.2.2.2.2
theorem dg_cX6_labelled_1389 : ck1 cX6_labelled 16 2 = true ∧ ck1 cX6_labelled 17 172 = true ∧ ck1 cX6_labelled 18 42 = true ∧ ck3 cX6_labelled 19 180 29 = true ∧ ck3 cX6_labelled 22 182 86 = true ∧ ck1 cX6_labelled 25 42 = true ∧ ck1 cX6_labelled 26 28 = true ∧ ck3 cX6_labelled 27 182 114 = true := by decide +kernel
theorem dX6_labelled_16 : decode cX6_labelled 16 = .ok (.iconst (-1), 1) := dk_2 dg_cX6_labelled_1389.1
theorem dX6_labelled_17 : decode cX6_labelled 17 = .ok (.ireturn, 1) := dk_172 dg_cX6_labelled_1389.2.1
theorem dX6_labelled_18 : decode cX6_labelled 18 = .ok (.aload_n 0, 1) := dk_42 dg_cX6_labelled_1389.2.2.1
theorem dX6_labelled_19 : decode cX6_labelled 19 = .ok (.getfield 29, 3) := dk_180 dg_cX6_labelled_1389.2.2.2.1
theorem dX6_labelled_22 : decode cX6_labelled 22 = .ok (.invokevirtual 86, 3) := dk_182 dg_cX6_labelled_1389.2.2.2.2.1
theorem dX6_labelled_25 : decode cX6_labelled 25 = .ok (.aload_n 0, 1) := dk_42 dg_cX6_labelled_1389.2.2.2.2.2.1
theorem dX6_labelled_26 : decode cX6_labelled 26 = .ok (.iload_n 2, 1) := dk_28 dg_cX6_labelled_1389.2.2.2.2.2.2.1
theorem dX6_labelled_27 : decode cX6_labelled 27 = .ok (.invokevirtual 114, 3) := dk_182 dg_cX6_labelled_1389.2.2.2.2.2.2.2
theorem dg_cX6_labelled_1390 : ck1 cX6_labelled 30 172 = true := by decide +kernel
theorem dX6_labelled_30 : decode cX6_labelled 30 = .ok (.ireturn, 1) := dk_172 dg_cX6_labelled_1390
theorem dg_cX6_line_1391 : ck1 cX6_line 0 42 = true ∧ ck3 cX6_line 1 180 29 = true ∧ ck3 cX6_line 4 180 47 = true := by decide +kernel
theorem dX6_line_0 : decode cX6_line 0 = .ok (.aload_n 0, 1) := dk_42 dg_cX6_line_1391.1
theorem dX6_line_1 : decode cX6_line 1 = .ok (.getfield 29, 3) := dk_180 dg_cX6_line_1391.2.1
theorem dX6_line_4 : decode cX6_line 4 = .ok (.getfield 47, 3) := dk_180 dg_cX6_line_1391.2.2
theorem dX6_line_7 : decode cX6_line 7 = .ok (.tableswitch 183 101 108 #[45, 65, 85, 116, 116, 139, 161, 116], 45) := by decide +kernel
theorem dg_cX6_line_1392 : ck1 cX6_line 52 42 = true ∧ ck3 cX6_line 53 182 54 = true ∧ ck3s cX6_line 56 153 14 = true ∧ ck1 cX6_line 59 42 = true ∧ ck3 cX6_line 60 182 57 = true ∧ ck3s cX6_line 63 153 7 = true := by decide +kernel
theorem dX6_line_52 : decode cX6_line 52 = .ok (.aload_n 0, 1) := dk_42 dg_cX6_line_1392.1
theorem dX6_line_53 : decode cX6_line 53 = .ok (.invokevirtual 54, 3) := dk_182 dg_cX6_line_1392.2.1
theorem dX6_line_56 : decode cX6_line 56 = .ok (.ifCond .eq 14, 3) := dk_153 dg_cX6_line_1392.2.2.1
theorem dX6_line_59 : decode cX6_line 59 = .ok (.aload_n 0, 1) := dk_42 dg_cX6_line_1392.2.2.2.1
theorem dX6_line_60 : decode cX6_line 60 = .ok (.invokevirtual 57, 3) := dk_182 dg_cX6_line_1392.2.2.2.2.1
theorem dX6_line_63 : decode cX6_line 63 = .ok (.ifCond .eq 7, 3) := dk_153 dg_cX6_line_1392.2.2.2.2.2
def dS_cX6_line_3 : List UInt8 := 0 :: 74 :: 172 :: []
def dS_cX6_line_2 : List UInt8 := 0 :: 71 :: 153 :: 0 :: 14 :: 42 :: 182 :: 0 :: 57 :: 153 :: 0 :: 7 :: 4 :: 167 :: 0 :: 4 :: 3 :: 172 :: 42 :: 16 :: 99 :: 182 :: 0 :: 71 :: 153 :: 0 :: 14 :: 42 :: 182 :: 0 :: 57 :: 153 :: 0 :: 7 :: 4 :: 167 :: 0 :: 4 :: 3 :: 172 :: 42 :: 16 :: 100 :: 182 :: 0 :: 71 :: 153 :: 0 :: 14 :: 42 :: 182 :: 0 :: 57 :: 153 :: 0 :: 7 :: 4 :: 167 :: 0 :: 4 :: 3 :: 172 :: 42 :: 182 :: dS_cX6_line_3
def dS_cX6_line_1 : List UInt8 := 0 :: 7 :: 4 :: 167 :: 0 :: 4 :: 3 :: 172 :: 42 :: 182 :: 0 :: 60 :: 153 :: 0 :: 14 :: 42 :: 182 :: 0 :: 57 :: 153 :: 0 :: 7 :: 4 :: 167 :: 0 :: 4 :: 3 :: 172 :: 42 :: 16 :: 103 :: 182 :: 0 :: 63 :: 153 :: 0 :: 23 :: 42 :: 3 :: 3 :: 182 :: 0 :: 67 :: 153 :: 0 :: 14 :: 42 :: 182 :: 0 :: 57 :: 153 :: 0 :: 7 :: 4 :: 167 :: 0 :: 4 :: 3 :: 172 :: 42 :: 17 :: 3 :: 231 :: 182 :: dS_cX6_line_2
def dS_cX6_line_0 : List UInt8 := 42 :: 180 :: 0 :: 29 :: 180 :: 0 :: 47 :: 170 :: 0 :: 0 :: 0 :: 183 :: 0 :: 0 :: 0 :: 101 :: 0 :: 0 :: 0 :: 108 :: 0 :: 0 :: 0 :: 45 :: 0 :: 0 :: 0 :: 65 :: 0 :: 0 :: 0 :: 85 :: 0 :: 0 :: 0 :: 116 :: 0 :: 0 :: 0 :: 116 :: 0 :: 0 :: 0 :: 139 :: 0 :: 0 :: 0 :: 161 :: 0 :: 0 :: 0 :: 116 :: 42 :: 182 :: 0 :: 54 :: 153 :: 0 :: 14 :: 42 :: 182 :: 0 :: 57 :: 153 :: dS_cX6_line_1
theorem dT_cX6_line_0 : cX6_line.data.toList.drop 0 = dS_cX6_line_0 := by decide +kernel
theorem dT_cX6_line_1 : cX6_line.data.toList.drop 64 = dS_cX6_line_1 := ck_nx dT_cX6_line_0 (by decide +kernel) rfl
theorem dT_cX6_line_2 : cX6_line.data.toList.drop 128 = dS_cX6_line_2 := ck_nx dT_cX6_line_1 (by decide +kernel) rfl
theorem dT_cX6_line_3 : cX6_line.data.toList.drop 192 = dS_cX6_line_3 := ck_nx dT_cX6_line_2 (by decide +kernel) rfl
theorem dg_cX6_line_1393 : ck1L dS_cX6_line_1 2 4 = true ∧ ck3sL dS_cX6_line_1 3 167 4 = true ∧ ck1L dS_cX6_line_1 6 3 = true ∧ ck1L dS_cX6_line_1 7 172 = true ∧ ck1L dS_cX6_line_1 8 42 = true ∧ ck3L dS_cX6_line_1 9 182 60 = true ∧ ck3sL dS_cX6_line_1 12 153 14 = true ∧ ck1L dS_cX6_line_1 15 42 = true := by decide +kernel
theorem dX6_line_66 : decode cX6_line 66 = .ok (.iconst 1, 1) := dk_4 (ck1_s (r := 2) dT_cX6_line_1 rfl dg_cX6_line_1393.1)
theorem dX6_line_67 : decode cX6_line 67 = .ok (.goto 4, 3) := dk_167 (ck3s_s (r := 3) dT_cX6_line_1 rfl dg_cX6_line_1393.2.1)
theorem dX6_line_70 : decode cX6_line 70 = .ok (.iconst 0, 1) := dk_3 (ck1_s (r := 6) dT_cX6_line_1 rfl dg_cX6_line_1393.2.2.1)
theorem dX6_line_71 : decode cX6_line 71 = .ok (.ireturn, 1) := dk_172 (ck1_s (r := 7) dT_cX6_line_1 rfl dg_cX6_line_1393.2.2.2.1)
theorem dX6_line_72 : decode cX6_line 72 = .ok (.aload_n 0, 1) := dk_42 (ck1_s (r := 8) dT_cX6_line_1 rfl dg_cX6_line_1393.2.2.2.2.1)
theorem dX6_line_73 : decode cX6_line 73 = .ok (.invokevirtual 60, 3) := dk_182 (ck3_s (r := 9) dT_cX6_line_1 rfl dg_cX6_line_1393.2.2.2.2.2.1)
theorem dX6_line_76 : decode cX6_line 76 = .ok (.ifCond .eq 14, 3) := dk_153 (ck3s_s (r := 12) dT_cX6_line_1 rfl dg_cX6_line_1393.2.2.2.2.2.2.1)
theorem dX6_line_79 : decode cX6_line 79 = .ok (.aload_n 0, 1) := dk_42 (ck1_s (r := 15) dT_cX6_line_1 rfl dg_cX6_line_1393.2.2.2.2.2.2.2)
theorem dg_cX6_line_1394 : ck3L dS_cX6_line_1 16 182 57 = true ∧ ck3sL dS_cX6_line_1 19 153 7 = true ∧ ck1L dS_cX6_line_1 22 4 = true ∧ ck3sL dS_cX6_line_1 23 167 4 = true ∧ ck1L dS_cX6_line_1 26 3 = true ∧ ck1L dS_cX6_line_1 27 172 = true ∧ ck1L dS_cX6_line_1 28 42 = true ∧ ck2sL dS_cX6_line_1 29 16 103 = true := by decide +kernel
theorem dX6_line_80 : decode cX6_line 80 = .ok (.invokevirtual 57, 3) := dk_182 (ck3_s (r := 16) dT_cX6_line_1 rfl dg_cX6_line_1394.1)
theorem dX6_line_83 : decode cX6_line 83 = .ok (.ifCond .eq 7, 3) := dk_153 (ck3s_s (r := 19) dT_cX6_line_1 rfl dg_cX6_line_1394.2.1)
theorem dX6_line_86 : decode cX6_line 86 = .ok (.iconst 1, 1) := dk_4 (ck1_s (r := 22) dT_cX6_line_1 rfl dg_cX6_line_1394.2.2.1)
theorem dX6_line_87 : decode cX6_line 87 = .ok (.goto 4, 3) := dk_167 (ck3s_s (r := 23) dT_cX6_line_1 rfl dg_cX6_line_1394.2.2.2.1)
theorem dX6_line_90 : decode cX6_line 90 = .ok (.iconst 0, 1) := dk_3 (ck1_s (r := 26) dT_cX6_line_1 rfl dg_cX6_line_1394.2.2.2.2.1)
theorem dX6_line_91 : decode cX6_line 91 = .ok (.ireturn, 1) := dk_172 (ck1_s (r := 27) dT_cX6_line_1 rfl dg_cX6_line_1394.2.2.2.2.2.1)
theorem dX6_line_92 : decode cX6_line 92 = .ok (.aload_n 0, 1) := dk_42 (ck1_s (r := 28) dT_cX6_line_1 rfl dg_cX6_line_1394.2.2.2.2.2.2.1)
theorem dX6_line_93 : decode cX6_line 93 = .ok (.bipush 103, 2) := dk_16 (ck2s_s (r := 29) dT_cX6_line_1 rfl dg_cX6_line_1394.2.2.2.2.2.2.2)
theorem dg_cX6_line_1395 : ck3L dS_cX6_line_1 31 182 63 = true ∧ ck3sL dS_cX6_line_1 34 153 23 = true ∧ ck1L dS_cX6_line_1 37 42 = true ∧ ck1L dS_cX6_line_1 38 3 = true ∧ ck1L dS_cX6_line_1 39 3 = true ∧ ck3L dS_cX6_line_1 40 182 67 = true ∧ ck3sL dS_cX6_line_1 43 153 14 = true ∧ ck1L dS_cX6_line_1 46 42 = true := by decide +kernel
theorem dX6_line_95 : decode cX6_line 95 = .ok (.invokevirtual 63, 3) := dk_182 (ck3_s (r := 31) dT_cX6_line_1 rfl dg_cX6_line_1395.1)
theorem dX6_line_98 : decode cX6_line 98 = .ok (.ifCond .eq 23, 3) := dk_153 (ck3s_s (r := 34) dT_cX6_line_1 rfl dg_cX6_line_1395.2.1)
theorem dX6_line_101 : decode cX6_line 101 = .ok (.aload_n 0, 1) := dk_42 (ck1_s (r := 37) dT_cX6_line_1 rfl dg_cX6_line_1395.2.2.1)
theorem dX6_line_102 : decode cX6_line 102 = .ok (.iconst 0, 1) := dk_3 (ck1_s (r := 38) dT_cX6_line_1 rfl dg_cX6_line_1395.2.2.2.1)
theorem dX6_line_103 : decode cX6_line 103 = .ok (.iconst 0, 1) := dk_3 (ck1_s (r := 39) dT_cX6_line_1 rfl dg_cX6_line_1395.2.2.2.2.1)
theorem dX6_line_104 : decode cX6_line 104 = .ok (.invokevirtual 67, 3) := dk_182 (ck3_s (r := 40) dT_cX6_line_1 rfl dg_cX6_line_1395.2.2.2.2.2.1)
theorem dX6_line_107 : decode cX6_line 107 = .ok (.ifCond .eq 14, 3) := dk_153 (ck3s_s (r := 43) dT_cX6_line_1 rfl dg_cX6_line_1395.2.2.2.2.2.2.1)
theorem dX6_line_110 : decode cX6_line 110 = .ok (.aload_n 0, 1) := dk_42 (ck1_s (r := 46) dT_cX6_line_1 rfl dg_cX6_line_1395.2.2.2.2.2.2.2)
theorem dg_cX6_line_1396 : ck3L dS_cX6_line_1 47 182 57 = true ∧ ck3sL dS_cX6_line_1 50 153 7 = true ∧ ck1L dS_cX6_line_1 53 4 = true ∧ ck3sL dS_cX6_line_1 54 167 4 = true ∧ ck1L dS_cX6_line_1 57 3 = true ∧ ck1L dS_cX6_line_1 58 172 = true ∧ ck1L dS_cX6_line_1 59 42 = true ∧ ck3sL dS_cX6_line_1 60 17 999 = true := by decide +kernel
theorem dX6_line_111 : decode cX6_line 111 = .ok (.invokevirtual 57, 3) := dk_182 (ck3_s (r := 47) dT_cX6_line_1 rfl dg_cX6_line_1396.1)
theorem dX6_line_114 : decode cX6_line 114 = .ok (.ifCond .eq 7, 3) := dk_153 (ck3s_s (r := 50) dT_cX6_line_1 rfl dg_cX6_line_1396.2.1)
theorem dX6_line_117 : decode cX6_line 117 = .ok (.iconst 1, 1) := dk_4 (ck1_s (r := 53) dT_cX6_line_1 rfl dg_cX6_line_1396.2.2.1)
theorem dX6_line_118 : decode cX6_line 118 = .ok (.goto 4, 3) := dk_167 (ck3s_s (r := 54) dT_cX6_line_1 rfl dg_cX6_line_1396.2.2.2.1)
theorem dX6_line_121 : decode cX6_line 121 = .ok (.iconst 0, 1) := dk_3 (ck1_s (r := 57) dT_cX6_line_1 rfl dg_cX6_line_1396.2.2.2.2.1)
theorem dX6_line_122 : decode cX6_line 122 = .ok (.ireturn, 1) := dk_172 (ck1_s (r := 58) dT_cX6_line_1 rfl dg_cX6_line_1396.2.2.2.2.2.1)
theorem dX6_line_123 : decode cX6_line 123 = .ok (.aload_n 0, 1) := dk_42 (ck1_s (r := 59) dT_cX6_line_1 rfl dg_cX6_line_1396.2.2.2.2.2.2.1)
theorem dX6_line_124 : decode cX6_line 124 = .ok (.sipush 999, 3) := dk_17 (ck3s_s (r := 60) dT_cX6_line_1 rfl dg_cX6_line_1396.2.2.2.2.2.2.2)
theorem dg_cX6_line_1397 : ck3L dS_cX6_line_1 63 182 71 = true ∧ ck3sL dS_cX6_line_2 2 153 14 = true ∧ ck1L dS_cX6_line_2 5 42 = true ∧ ck3L dS_cX6_line_2 6 182 57 = true ∧ ck3sL dS_cX6_line_2 9 153 7 = true ∧ ck1L dS_cX6_line_2 12 4 = true ∧ ck3sL dS_cX6_line_2 13 167 4 = true ∧ ck1L dS_cX6_line_2 16 3 = true := by decide +kernel
theorem dX6_line_127 : decode cX6_line 127 = .ok (.invokevirtual 71, 3) := dk_182 (ck3_s (r := 63) dT_cX6_line_1 rfl dg_cX6_line_1397.1)
theorem dX6_line_130 : decode cX6_line 130 = .ok (.ifCond .eq 14, 3) := dk_153 (ck3s_s (r := 2) dT_cX6_line_2 rfl dg_cX6_line_1397.2.1)
theorem dX6_line_133 : decode cX6_line 133 = .ok (.aload_n 0, 1) := dk_42 (ck1_s (r := 5) dT_cX6_line_2 rfl dg_cX6_line_1397.2.2.1)
theorem dX6_line_134 : decode cX6_line 134 = .ok (.invokevirtual 57, 3) := dk_182 (ck3_s (r := 6) dT_cX6_line_2 rfl dg_cX6_line_1397.2.2.2.1)
theorem dX6_line_137 : decode cX6_line 137 = .ok (.ifCond .eq 7, 3) := dk_153 (ck3s_s (r := 9) dT_cX6_line_2 rfl dg_cX6_line_1397.2.2.2.2.1)
theorem dX6_line_140 : decode cX6_line 140 = .ok (.iconst 1, 1) := dk_4 (ck1_s (r := 12) dT_cX6_line_2 rfl dg_cX6_line_1397.2.2.2.2.2.1)
theorem dX6_line_141 : decode cX6_line 141 = .ok (.goto 4, 3) := dk_167 (ck3s_s (r := 13) dT_cX6_line_2 rfl dg_cX6_line_1397.2.2.2.2.2.2.1)
theorem dX6_line_144 : decode cX6_line 144 = .ok (.iconst 0, 1) := dk_3 (ck1_s (r := 16) dT_cX6_line_2 rfl dg_cX6_line_1397.2.2.2.2.2.2.2)
theorem dg_cX6_line_1398 : ck1L dS_cX6_line_2 17 172 = true ∧ ck1L dS_cX6_line_2 18 42 = true ∧ ck2sL dS_cX6_line_2 19 16 99 = true ∧ ck3L dS_cX6_line_2 21 182 71 = true ∧ ck3sL dS_cX6_line_2 24 153 14 = true ∧ ck1L dS_cX6_line_2 27 42 = true ∧ ck3L dS_cX6_line_2 28 182 57 = true ∧ ck3sL dS_cX6_line_2 31 153 7 = true := by decide +kernel
theorem dX6_line_145 : decode cX6_line 145 = .ok (.ireturn, 1) := dk_172 (ck1_s (r := 17) dT_cX6_line_2 rfl dg_cX6_line_1398.1)
theorem dX6_line_146 : decode cX6_line 146 = .ok (.aload_n 0, 1) := dk_42 (ck1_s (r := 18) dT_cX6_line_2 rfl dg_cX6_line_1398.2.1)
theorem dX6_line_147 : decode cX6_line 147 = .ok (.bipush 99, 2) := dk_16 (ck2s_s (r := 19) dT_cX6_line_2 rfl dg_cX6_line_1398.2.2.1)
theorem dX6_line_149 : decode cX6_line 149 = .ok (.invokevirtual 71, 3) := dk_182 (ck3_s (r := 21) dT_cX6_line_2 rfl dg_cX6_line_1398.2.2.2.1)
theorem dX6_line_152 : decode cX6_line 152 = .ok (.ifCond .eq 14, 3) := dk_153 (ck3s_s (r := 24) dT_cX6_line_2 rfl dg_cX6_line_1398.2.2.2.2.1)
theorem dX6_line_155 : decode cX6_line 155 = .ok (.aload_n 0, 1) := dk_42 (ck1_s (r := 27) dT_cX6_line_2 rfl dg_cX6_line_1398.2.2.2.2.2.1)
theorem dX6_line_156 : decode cX6_line 156 = .ok (.invokevirtual 57, 3) := dk_182 (ck3_s (r := 28) dT_cX6_line_2 rfl dg_cX6_line_1398.2.2.2.2.2.2.1)
theorem dX6_line_159 : decode cX6_line 159 = .ok (.ifCond .eq 7, 3) := dk_153 (ck3s_s (r := 31) dT_cX6_line_2 rfl dg_cX6_line_1398.2.2.2.2.2.2.2)
theorem dg_cX6_line_1399 : ck1L dS_cX6_line_2 34 4 = true ∧ ck3sL dS_cX6_line_2 35 167 4 = true ∧ ck1L dS_cX6_line_2 38 3 = true ∧ ck1L dS_cX6_line_2 39 172 = true ∧ ck1L dS_cX6_line_2 40 42 = true ∧ ck2sL dS_cX6_line_2 41 16 100 = true ∧ ck3L dS_cX6_line_2 43 182 71 = true ∧ ck3sL dS_cX6_line_2 46 153 14 = true := by decide +kernel
theorem dX6_line_162 : decode cX6_line 162 = .ok (.iconst 1, 1) := dk_4 (ck1_s (r := 34) dT_cX6_line_2 rfl dg_cX6_line_1399.1)
theorem dX6_line_163 : decode cX6_line 163 = .ok (.goto 4, 3) := dk_167 (ck3s_s (r := 35) dT_cX6_line_2 rfl dg_cX6_line_1399.2.1)
theorem dX6_line_166 : decode cX6_line 166 = .ok (.iconst 0, 1) := dk_3 (ck1_s (r := 38) dT_cX6_line_2 rfl dg_cX6_line_1399.2.2.1)
theorem dX6_line_167 : decode cX6_line 167 = .ok (.ireturn, 1) := dk_172 (ck1_s (r := 39) dT_cX6_line_2 rfl dg_cX6_line_1399.2.2.2.1)
theorem dX6_line_168 : decode cX6_line 168 = .ok (.aload_n 0, 1) := dk_42 (ck1_s (r := 40) dT_cX6_line_2 rfl dg_cX6_line_1399.2.2.2.2.1)
theorem dX6_line_169 : decode cX6_line 169 = .ok (.bipush 100, 2) := dk_16 (ck2s_s (r := 41) dT_cX6_line_2 rfl dg_cX6_line_1399.2.2.2.2.2.1)
theorem dX6_line_171 : decode cX6_line 171 = .ok (.invokevirtual 71, 3) := dk_182 (ck3_s (r := 43) dT_cX6_line_2 rfl dg_cX6_line_1399.2.2.2.2.2.2.1)
theorem dX6_line_174 : decode cX6_line 174 = .ok (.ifCond .eq 14, 3) := dk_153 (ck3s_s (r := 46) dT_cX6_line_2 rfl dg_cX6_line_1399.2.2.2.2.2.2.2)
theorem dg_cX6_line_1400 : ck1L dS_cX6_line_2 49 42 = true ∧ ck3L dS_cX6_line_2 50 182 57 = true ∧ ck3sL dS_cX6_line_2 53 153 7 = true ∧ ck1L dS_cX6_line_2 56 4 = true ∧ ck3sL dS_cX6_line_2 57 167 4 = true ∧ ck1L dS_cX6_line_2 60 3 = true ∧ ck1L dS_cX6_line_2 61 172 = true ∧ ck1L dS_cX6_line_2 62 42 = true := by decide +kernel
theorem dX6_line_177 : decode cX6_line 177 = .ok (.aload_n 0, 1) := dk_42 (ck1_s (r := 49) dT_cX6_line_2 rfl dg_cX6_line_1400.1)
theorem dX6_line_178 : decode cX6_line 178 = .ok (.invokevirtual 57, 3) := dk_182 (ck3_s (r := 50) dT_cX6_line_2 rfl dg_cX6_line_1400.2.1)
theorem dX6_line_181 : decode cX6_line 181 = .ok (.ifCond .eq 7, 3) := dk_153 (ck3s_s (r := 53) dT_cX6_line_2 rfl dg_cX6_line_1400.2.2.1)
theorem dX6_line_184 : decode cX6_line 184 = .ok (.iconst 1, 1) := dk_4 (ck1_s (r := 56) dT_cX6_line_2 rfl dg_cX6_line_1400.2.2.2.1)
theorem dX6_line_185 : decode cX6_line 185 = .ok (.goto 4, 3) := dk_167 (ck3s_s (r := 57) dT_cX6_line_2 rfl dg_cX6_line_1400.2.2.2.2.1)
theorem dX6_line_188 : decode cX6_line 188 = .ok (.iconst 0, 1) := dk_3 (ck1_s (r := 60) dT_cX6_line_2 rfl dg_cX6_line_1400.2.2.2.2.2.1)
theorem dX6_line_189 : decode cX6_line 189 = .ok (.ireturn, 1) := dk_172 (ck1_s (r := 61) dT_cX6_line_2 rfl dg_cX6_line_1400.2.2.2.2.2.2.1)
theorem dX6_line_190 : decode cX6_line 190 = .ok (.aload_n 0, 1) := dk_42 (ck1_s (r := 62) dT_cX6_line_2 rfl dg_cX6_line_1400.2.2.2.2.2.2.2)
theorem dg_cX6_line_1401 : ck3L dS_cX6_line_2 63 182 74 = true ∧ ck1L dS_cX6_line_3 2 172 = true := by decide +kernel
theorem dX6_line_191 : decode cX6_line 191 = .ok (.invokevirtual 74, 3) := dk_182 (ck3_s (r := 63) dT_cX6_line_2 rfl dg_cX6_line_1401.1)
theorem dX6_line_194 : decode cX6_line 194 = .ok (.ireturn, 1) := dk_172 (ck1_s (r := 2) dT_cX6_line_3 rfl dg_cX6_line_1401.2)
theorem dg_cX6_manLine_1402 : ck1 cX6_manLine 0 42 = true ∧ ck3 cX6_manLine 1 180 12 = true ∧ ck3 cX6_manLine 4 180 89 = true ∧ ck2s cX6_manLine 7 16 6 = true ∧ ck3s cX6_manLine 9 161 8 = true ∧ ck1 cX6_manLine 12 42 = true ∧ ck3 cX6_manLine 13 182 74 = true ∧ ck1 cX6_manLine 16 172 = true := by decide +kernel
theorem dX6_manLine_0 : decode cX6_manLine 0 = .ok (.aload_n 0, 1) := dk_42 dg_cX6_manLine_1402.1
theorem dX6_manLine_1 : decode cX6_manLine 1 = .ok (.getfield 12, 3) := dk_180 dg_cX6_manLine_1402.2.1
theorem dX6_manLine_4 : decode cX6_manLine 4 = .ok (.getfield 89, 3) := dk_180 dg_cX6_manLine_1402.2.2.1
theorem dX6_manLine_7 : decode cX6_manLine 7 = .ok (.bipush 6, 2) := dk_16 dg_cX6_manLine_1402.2.2.2.1
theorem dX6_manLine_9 : decode cX6_manLine 9 = .ok (.if_icmp .lt 8, 3) := dk_161 dg_cX6_manLine_1402.2.2.2.2.1
theorem dX6_manLine_12 : decode cX6_manLine 12 = .ok (.aload_n 0, 1) := dk_42 dg_cX6_manLine_1402.2.2.2.2.2.1
theorem dX6_manLine_13 : decode cX6_manLine 13 = .ok (.invokevirtual 74, 3) := dk_182 dg_cX6_manLine_1402.2.2.2.2.2.2.1
theorem dX6_manLine_16 : decode cX6_manLine 16 = .ok (.ireturn, 1) := dk_172 dg_cX6_manLine_1402.2.2.2.2.2.2.2
theorem dg_cX6_manLine_1403 : ck1 cX6_manLine 17 42 = true ∧ ck3 cX6_manLine 18 180 29 = true ∧ ck3 cX6_manLine 21 182 86 = true ∧ ck1 cX6_manLine 24 42 = true ∧ ck1 cX6_manLine 25 42 = true ∧ ck3 cX6_manLine 26 180 18 = true ∧ ck1 cX6_manLine 29 42 = true ∧ ck3 cX6_manLine 30 180 12 = true := by decide +kernel
theorem dX6_manLine_17 : decode cX6_manLine 17 = .ok (.aload_n 0, 1) := dk_42 dg_cX6_manLine_1403.1
theorem dX6_manLine_18 : decode cX6_manLine 18 = .ok (.getfield 29, 3) := dk_180 dg_cX6_manLine_1403.2.1
theorem dX6_manLine_21 : decode cX6_manLine 21 = .ok (.invokevirtual 86, 3) := dk_182 dg_cX6_manLine_1403.2.2.1
theorem dX6_manLine_24 : decode cX6_manLine 24 = .ok (.aload_n 0, 1) := dk_42 dg_cX6_manLine_1403.2.2.2.1
theorem dX6_manLine_25 : decode cX6_manLine 25 = .ok (.aload_n 0, 1) := dk_42 dg_cX6_manLine_1403.2.2.2.2.1
theorem dX6_manLine_26 : decode cX6_manLine 26 = .ok (.getfield 18, 3) := dk_180 dg_cX6_manLine_1403.2.2.2.2.2.1
theorem dX6_manLine_29 : decode cX6_manLine 29 = .ok (.aload_n 0, 1) := dk_42 dg_cX6_manLine_1403.2.2.2.2.2.2.1
theorem dX6_manLine_30 : decode cX6_manLine 30 = .ok (.getfield 12, 3) := dk_180 dg_cX6_manLine_1403.2.2.2.2.2.2.2
theorem dg_cX6_manLine_1404 : ck3 cX6_manLine 33 180 89 = true ∧ ck3 cX6_manLine 36 182 92 = true ∧ ck3s cX6_manLine 39 154 5 = true ∧ ck1 cX6_manLine 42 3 = true ∧ ck1 cX6_manLine 43 172 = true ∧ ck1 cX6_manLine 44 42 = true ∧ ck2s cX6_manLine 45 16 109 = true ∧ ck2s cX6_manLine 47 16 99 = true := by decide +kernel
theorem dX6_manLine_33 : decode cX6_manLine 33 = .ok (.getfield 89, 3) := dk_180 dg_cX6_manLine_1404.1
theorem dX6_manLine_36 : decode cX6_manLine 36 = .ok (.invokevirtual 92, 3) := dk_182 dg_cX6_manLine_1404.2.1
theorem dX6_manLine_39 : decode cX6_manLine 39 = .ok (.ifCond .ne 5, 3) := dk_154 dg_cX6_manLine_1404.2.2.1
theorem dX6_manLine_42 : decode cX6_manLine 42 = .ok (.iconst 0, 1) := dk_3 dg_cX6_manLine_1404.2.2.2.1
theorem dX6_manLine_43 : decode cX6_manLine 43 = .ok (.ireturn, 1) := dk_172 dg_cX6_manLine_1404.2.2.2.2.1
theorem dX6_manLine_44 : decode cX6_manLine 44 = .ok (.aload_n 0, 1) := dk_42 dg_cX6_manLine_1404.2.2.2.2.2.1
theorem dX6_manLine_45 : decode cX6_manLine 45 = .ok (.bipush 109, 2) := dk_16 dg_cX6_manLine_1404.2.2.2.2.2.2.1
theorem dX6_manLine_47 : decode cX6_manLine 47 = .ok (.bipush 99, 2) := dk_16 dg_cX6_manLine_1404.2.2.2.2.2.2.2
theorem dg_cX6_manLine_1405 : ck3 cX6_manLine 49 182 96 = true ∧ ck1 cX6_manLine 52 60 = true ∧ ck1 cX6_manLine 53 27 = true ∧ ck3s cX6_manLine 54 156 7 = true ∧ ck1 cX6_manLine 57 2 = true ∧ ck3s cX6_manLine 58 167 11 = true ∧ ck1 cX6_manLine 61 42 = true ∧ ck2s cX6_manLine 62 16 110 = true := by decide +kernel
theorem dX6_manLine_49 : decode cX6_manLine 49 = .ok (.invokevirtual 96, 3) := dk_182 dg_cX6_manLine_1405.1
theorem dX6_manLine_52 : decode cX6_manLine 52 = .ok (.istore_n 1, 1) := dk_60 dg_cX6_manLine_1405.2.1
theorem dX6_manLine_53 : decode cX6_manLine 53 = .ok (.iload_n 1, 1) := dk_27 dg_cX6_manLine_1405.2.2.1
theorem dX6_manLine_54 : decode cX6_manLine 54 = .ok (.ifCond .ge 7, 3) := dk_156 dg_cX6_manLine_1405.2.2.2.1
theorem dX6_manLine_57 : decode cX6_manLine 57 = .ok (.iconst (-1), 1) := dk_2 dg_cX6_manLine_1405.2.2.2.2.1
theorem dX6_manLine_58 : decode cX6_manLine 58 = .ok (.goto 11, 3) := dk_167 dg_cX6_manLine_1405.2.2.2.2.2.1
theorem dX6_manLine_61 : decode cX6_manLine 61 = .ok (.aload_n 0, 1) := dk_42 dg_cX6_manLine_1405.2.2.2.2.2.2.1
theorem dX6_manLine_62 : decode cX6_manLine 62 = .ok (.bipush 110, 2) := dk_16 dg_cX6_manLine_1405.2.2.2.2.2.2.2
def dS_cX6_manLine_1 : List UInt8 := 16 :: 99 :: 182 :: 0 :: 96 :: 61 :: 28 :: 156 :: 0 :: 7 :: 2 :: 167 :: 0 :: 27 :: 42 :: 180 :: 0 :: 29 :: 180 :: 0 :: 47 :: 16 :: 111 :: 160 :: 0 :: 14 :: 42 :: 16 :: 111 :: 16 :: 9 :: 182 :: 0 :: 96 :: 167 :: 0 :: 4 :: 3 :: 62 :: 29 :: 156 :: 0 :: 5 :: 3 :: 172 :: 42 :: 180 :: 0 :: 12 :: 27 :: 28 :: 29 :: 182 :: 0 :: 100 :: 4 :: 172 :: []
def dS_cX6_manLine_0 : List UInt8 := 42 :: 180 :: 0 :: 12 :: 180 :: 0 :: 89 :: 16 :: 6 :: 161 :: 0 :: 8 :: 42 :: 182 :: 0 :: 74 :: 172 :: 42 :: 180 :: 0 :: 29 :: 182 :: 0 :: 86 :: 42 :: 42 :: 180 :: 0 :: 18 :: 42 :: 180 :: 0 :: 12 :: 180 :: 0 :: 89 :: 182 :: 0 :: 92 :: 154 :: 0 :: 5 :: 3 :: 172 :: 42 :: 16 :: 109 :: 16 :: 99 :: 182 :: 0 :: 96 :: 60 :: 27 :: 156 :: 0 :: 7 :: 2 :: 167 :: 0 :: 11 :: 42 :: 16 :: 110 :: dS_cX6_manLine_1
theorem dT_cX6_manLine_0 : cX6_manLine.data.toList.drop 0 = dS_cX6_manLine_0 := by decide +kernel
theorem dT_cX6_manLine_1 : cX6_manLine.data.toList.drop 64 = dS_cX6_manLine_1 := ck_nx dT_cX6_manLine_0 (by decide +kernel) rfl
theorem dg_cX6_manLine_1406 : ck2sL dS_cX6_manLine_1 0 16 99 = true ∧ ck3L dS_cX6_manLine_1 2 182 96 = true ∧ ck1L dS_cX6_manLine_1 5 61 = true ∧ ck1L dS_cX6_manLine_1 6 28 = true ∧ ck3sL dS_cX6_manLine_1 7 156 7 = true ∧ ck1L dS_cX6_manLine_1 10 2 = true ∧ ck3sL dS_cX6_manLine_1 11 167 27 = true ∧ ck1L dS_cX6_manLine_1 14 42 = true := by decide +kernel
theorem dX6_manLine_64 : decode cX6_manLine 64 = .ok (.bipush 99, 2) := dk_16 (ck2s_s (r := 0) dT_cX6_manLine_1 rfl dg_cX6_manLine_1406.1)
theorem dX6_manLine_66 : decode cX6_manLine 66 = .ok (.invokevirtual 96, 3) := dk_182 (ck3_s (r := 2) dT_cX6_manLine_1 rfl dg_cX6_manLine_1406.2.1)
theorem dX6_manLine_69 : decode cX6_manLine 69 = .ok (.istore_n 2, 1) := dk_61 (ck1_s (r := 5) dT_cX6_manLine_1 rfl dg_cX6_manLine_1406.2.2.1)
theorem dX6_manLine_70 : decode cX6_manLine 70 = .ok (.iload_n 2, 1) := dk_28 (ck1_s (r := 6) dT_cX6_manLine_1 rfl dg_cX6_manLine_1406.2.2.2.1)
theorem dX6_manLine_71 : decode cX6_manLine 71 = .ok (.ifCond .ge 7, 3) := dk_156 (ck3s_s (r := 7) dT_cX6_manLine_1 rfl dg_cX6_manLine_1406.2.2.2.2.1)
theorem dX6_manLine_74 : decode cX6_manLine 74 = .ok (.iconst (-1), 1) := dk_2 (ck1_s (r := 10) dT_cX6_manLine_1 rfl dg_cX6_manLine_1406.2.2.2.2.2.1)
theorem dX6_manLine_75 : decode cX6_manLine 75 = .ok (.goto 27, 3) := dk_167 (ck3s_s (r := 11) dT_cX6_manLine_1 rfl dg_cX6_manLine_1406.2.2.2.2.2.2.1)
theorem dX6_manLine_78 : decode cX6_manLine 78 = .ok (.aload_n 0, 1) := dk_42 (ck1_s (r := 14) dT_cX6_manLine_1 rfl dg_cX6_manLine_1406.2.2.2.2.2.2.2)
theorem dg_cX6_manLine_1407 : ck3L dS_cX6_manLine_1 15 180 29 = true ∧ ck3L dS_cX6_manLine_1 18 180 47 = true ∧ ck2sL dS_cX6_manLine_1 21 16 111 = true ∧ ck3sL dS_cX6_manLine_1 23 160 14 = true ∧ ck1L dS_cX6_manLine_1 26 42 = true ∧ ck2sL dS_cX6_manLine_1 27 16 111 = true ∧ ck2sL dS_cX6_manLine_1 29 16 9 = true ∧ ck3L dS_cX6_manLine_1 31 182 96 = true := by decide +kernel
theorem dX6_manLine_79 : decode cX6_manLine 79 = .ok (.getfield 29, 3) := dk_180 (ck3_s (r := 15) dT_cX6_manLine_1 rfl dg_cX6_manLine_1407.1)
theorem dX6_manLine_82 : decode cX6_manLine 82 = .ok (.getfield 47, 3) := dk_180 (ck3_s (r := 18) dT_cX6_manLine_1 rfl dg_cX6_manLine_1407.2.1)
theorem dX6_manLine_85 : decode cX6_manLine 85 = .ok (.bipush 111, 2) := dk_16 (ck2s_s (r := 21) dT_cX6_manLine_1 rfl dg_cX6_manLine_1407.2.2.1)
theorem dX6_manLine_87 : decode cX6_manLine 87 = .ok (.if_icmp .ne 14, 3) := dk_160 (ck3s_s (r := 23) dT_cX6_manLine_1 rfl dg_cX6_manLine_1407.2.2.2.1)
theorem dX6_manLine_90 : decode cX6_manLine 90 = .ok (.aload_n 0, 1) := dk_42 (ck1_s (r := 26) dT_cX6_manLine_1 rfl dg_cX6_manLine_1407.2.2.2.2.1)
theorem dX6_manLine_91 : decode cX6_manLine 91 = .ok (.bipush 111, 2) := dk_16 (ck2s_s (r := 27) dT_cX6_manLine_1 rfl dg_cX6_manLine_1407.2.2.2.2.2.1)
theorem dX6_manLine_93 : decode cX6_manLine 93 = .ok (.bipush 9, 2) := dk_16 (ck2s_s (r := 29) dT_cX6_manLine_1 rfl dg_cX6_manLine_1407.2.2.2.2.2.2.1)
theorem dX6_manLine_95 : decode cX6_manLine 95 = .ok (.invokevirtual 96, 3) := dk_182 (ck3_s (r := 31) dT_cX6_manLine_1 rfl dg_cX6_manLine_1407.2.2.2.2.2.2.2)
theorem dg_cX6_manLine_1408 : ck3sL dS_cX6_manLine_1 34 167 4 = true ∧ ck1L dS_cX6_manLine_1 37 3 = true ∧ ck1L dS_cX6_manLine_1 38 62 = true ∧ ck1L dS_cX6_manLine_1 39 29 = true ∧ ck3sL dS_cX6_manLine_1 40 156 5 = true ∧ ck1L dS_cX6_manLine_1 43 3 = true ∧ ck1L dS_cX6_manLine_1 44 172 = true ∧ ck1L dS_cX6_manLine_1 45 42 = true := by decide +kernel
theorem dX6_manLine_98 : decode cX6_manLine 98 = .ok (.goto 4, 3) := dk_167 (ck3s_s (r := 34) dT_cX6_manLine_1 rfl dg_cX6_manLine_1408.1)
theorem dX6_manLine_101 : decode cX6_manLine 101 = .ok (.iconst 0, 1) := dk_3 (ck1_s (r := 37) dT_cX6_manLine_1 rfl dg_cX6_manLine_1408.2.1)
theorem dX6_manLine_102 : decode cX6_manLine 102 = .ok (.istore_n 3, 1) := dk_62 (ck1_s (r := 38) dT_cX6_manLine_1 rfl dg_cX6_manLine_1408.2.2.1)
theorem dX6_manLine_103 : decode cX6_manLine 103 = .ok (.iload_n 3, 1) := dk_29 (ck1_s (r := 39) dT_cX6_manLine_1 rfl dg_cX6_manLine_1408.2.2.2.1)
theorem dX6_manLine_104 : decode cX6_manLine 104 = .ok (.ifCond .ge 5, 3) := dk_156 (ck3s_s (r := 40) dT_cX6_manLine_1 rfl dg_cX6_manLine_1408.2.2.2.2.1)
theorem dX6_manLine_107 : decode cX6_manLine 107 = .ok (.iconst 0, 1) := dk_3 (ck1_s (r := 43) dT_cX6_manLine_1 rfl dg_cX6_manLine_1408.2.2.2.2.2.1)
theorem dX6_manLine_108 : decode cX6_manLine 108 = .ok (.ireturn, 1) := dk_172 (ck1_s (r := 44) dT_cX6_manLine_1 rfl dg_cX6_manLine_1408.2.2.2.2.2.2.1)
theorem dX6_manLine_109 : decode cX6_manLine 109 = .ok (.aload_n 0, 1) := dk_42 (ck1_s (r := 45) dT_cX6_manLine_1 rfl dg_cX6_manLine_1408.2.2.2.2.2.2.2)
theorem dg_cX6_manLine_1409 : ck3L dS_cX6_manLine_1 46 180 12 = true ∧ ck1L dS_cX6_manLine_1 49 27 = true ∧ ck1L dS_cX6_manLine_1 50 28 = true ∧ ck1L dS_cX6_manLine_1 51 29 = true ∧ ck3L dS_cX6_manLine_1 52 182 100 = true ∧ ck1L dS_cX6_manLine_1 55 4 = true ∧ ck1L dS_cX6_manLine_1 56 172 = true := by decide +kernel
theorem dX6_manLine_110 : decode cX6_manLine 110 = .ok (.getfield 12, 3) := dk_180 (ck3_s (r := 46) dT_cX6_manLine_1 rfl dg_cX6_manLine_1409.1)
theorem dX6_manLine_113 : decode cX6_manLine 113 = .ok (.iload_n 1, 1) := dk_27 (ck1_s (r := 49) dT_cX6_manLine_1 rfl dg_cX6_manLine_1409.2.1)
theorem dX6_manLine_114 : decode cX6_manLine 114 = .ok (.iload_n 2, 1) := dk_28 (ck1_s (r := 50) dT_cX6_manLine_1 rfl dg_cX6_manLine_1409.2.2.1)
theorem dX6_manLine_115 : decode cX6_manLine 115 = .ok (.iload_n 3, 1) := dk_29 (ck1_s (r := 51) dT_cX6_manLine_1 rfl dg_cX6_manLine_1409.2.2.2.1)
theorem dX6_manLine_116 : decode cX6_manLine 116 = .ok (.invokevirtual 100, 3) := dk_182 (ck3_s (r := 52) dT_cX6_manLine_1 rfl dg_cX6_manLine_1409.2.2.2.2.1)
theorem dX6_manLine_119 : decode cX6_manLine 119 = .ok (.iconst 1, 1) := dk_4 (ck1_s (r := 55) dT_cX6_manLine_1 rfl dg_cX6_manLine_1409.2.2.2.2.2.1)
theorem dX6_manLine_120 : decode cX6_manLine 120 = .ok (.ireturn, 1) := dk_172 (ck1_s (r := 56) dT_cX6_manLine_1 rfl dg_cX6_manLine_1409.2.2.2.2.2.2)
theorem dg_cX6_name_1410 : ck1 cX6_name 0 42 = true ∧ ck3 cX6_name 1 180 29 = true ∧ ck3 cX6_name 4 180 47 = true ∧ ck1 cX6_name 7 6 = true ∧ ck3s cX6_name 8 159 8 = true ∧ ck1 cX6_name 11 42 = true ∧ ck3 cX6_name 12 182 74 = true ∧ ck1 cX6_name 15 172 = true := by decide +kernel
theorem dX6_name_0 : decode cX6_name 0 = .ok (.aload_n 0, 1) := dk_42 dg_cX6_name_1410.1
theorem dX6_name_1 : decode cX6_name 1 = .ok (.getfield 29, 3) := dk_180 dg_cX6_name_1410.2.1
theorem dX6_name_4 : decode cX6_name 4 = .ok (.getfield 47, 3) := dk_180 dg_cX6_name_1410.2.2.1
theorem dX6_name_7 : decode cX6_name 7 = .ok (.iconst 3, 1) := dk_6 dg_cX6_name_1410.2.2.2.1
theorem dX6_name_8 : decode cX6_name 8 = .ok (.if_icmp .eq 8, 3) := dk_159 dg_cX6_name_1410.2.2.2.2.1
theorem dX6_name_11 : decode cX6_name 11 = .ok (.aload_n 0, 1) := dk_42 dg_cX6_name_1410.2.2.2.2.2.1
theorem dX6_name_12 : decode cX6_name 12 = .ok (.invokevirtual 74, 3) := dk_182 dg_cX6_name_1410.2.2.2.2.2.2.1
theorem dX6_name_15 : decode cX6_name 15 = .ok (.ireturn, 1) := dk_172 dg_cX6_name_1410.2.2.2.2.2.2.2
theorem dg_cX6_name_1411 : ck1 cX6_name 16 3 = true ∧ ck1 cX6_name 17 62 = true ∧ ck1 cX6_name 18 29 = true ∧ ck1 cX6_name 19 28 = true ∧ ck3s cX6_name 20 162 41 = true ∧ ck1 cX6_name 23 29 = true ∧ ck1 cX6_name 24 43 = true ∧ ck1 cX6_name 25 190 = true := by decide +kernel
theorem dX6_name_16 : decode cX6_name 16 = .ok (.iconst 0, 1) := dk_3 dg_cX6_name_1411.1
theorem dX6_name_17 : decode cX6_name 17 = .ok (.istore_n 3, 1) := dk_62 dg_cX6_name_1411.2.1
theorem dX6_name_18 : decode cX6_name 18 = .ok (.iload_n 3, 1) := dk_29 dg_cX6_name_1411.2.2.1
theorem dX6_name_19 : decode cX6_name 19 = .ok (.iload_n 2, 1) := dk_28 dg_cX6_name_1411.2.2.2.1
theorem dX6_name_20 : decode cX6_name 20 = .ok (.if_icmp .ge 41, 3) := dk_162 dg_cX6_name_1411.2.2.2.2.1
theorem dX6_name_23 : decode cX6_name 23 = .ok (.iload_n 3, 1) := dk_29 dg_cX6_name_1411.2.2.2.2.2.1
theorem dX6_name_24 : decode cX6_name 24 = .ok (.aload_n 1, 1) := dk_43 dg_cX6_name_1411.2.2.2.2.2.2.1
theorem dX6_name_25 : decode cX6_name 25 = .ok (.arraylength, 1) := dk_190 dg_cX6_name_1411.2.2.2.2.2.2.2
theorem dg_cX6_name_1412 : ck3s cX6_name 26 162 35 = true ∧ ck1 cX6_name 29 42 = true ∧ ck3 cX6_name 30 180 29 = true ∧ ck1 cX6_name 33 43 = true ∧ ck1 cX6_name 34 29 = true ∧ ck1 cX6_name 35 46 = true ∧ ck1 cX6_name 36 42 = true ∧ ck3 cX6_name 37 180 29 = true := by decide +kernel
theorem dX6_name_26 : decode cX6_name 26 = .ok (.if_icmp .ge 35, 3) := dk_162 dg_cX6_name_1412.1
theorem dX6_name_29 : decode cX6_name 29 = .ok (.aload_n 0, 1) := dk_42 dg_cX6_name_1412.2.1
theorem dX6_name_30 : decode cX6_name 30 = .ok (.getfield 29, 3) := dk_180 dg_cX6_name_1412.2.2.1
theorem dX6_name_33 : decode cX6_name 33 = .ok (.aload_n 1, 1) := dk_43 dg_cX6_name_1412.2.2.2.1
theorem dX6_name_34 : decode cX6_name 34 = .ok (.iload_n 3, 1) := dk_29 dg_cX6_name_1412.2.2.2.2.1
theorem dX6_name_35 : decode cX6_name 35 = .ok (.iaload, 1) := dk_46 dg_cX6_name_1412.2.2.2.2.2.1
theorem dX6_name_36 : decode cX6_name 36 = .ok (.aload_n 0, 1) := dk_42 dg_cX6_name_1412.2.2.2.2.2.2.1
theorem dX6_name_37 : decode cX6_name 37 = .ok (.getfield 29, 3) := dk_180 dg_cX6_name_1412.2.2.2.2.2.2.2
theorem dg_cX6_name_1413 : ck3 cX6_name 40 180 80 = true ∧ ck3 cX6_name 43 182 111 = true ∧ ck3s cX6_name 46 153 9 = true ∧ ck1 cX6_name 49 42 = true ∧ ck1 cX6_name 50 6 = true ∧ ck3 cX6_name 51 182 77 = true ∧ ck1 cX6_name 54 172 = true ∧ ck3i cX6_name 55 132 3 1 = true := by decide +kernel
theorem dX6_name_40 : decode cX6_name 40 = .ok (.getfield 80, 3) := dk_180 dg_cX6_name_1413.1
theorem dX6_name_43 : decode cX6_name 43 = .ok (.invokevirtual 111, 3) := dk_182 dg_cX6_name_1413.2.1
theorem dX6_name_46 : decode cX6_name 46 = .ok (.ifCond .eq 9, 3) := dk_153 dg_cX6_name_1413.2.2.1
theorem dX6_name_49 : decode cX6_name 49 = .ok (.aload_n 0, 1) := dk_42 dg_cX6_name_1413.2.2.2.1
theorem dX6_name_50 : decode cX6_name 50 = .ok (.iconst 3, 1) := dk_6 dg_cX6_name_1413.2.2.2.2.1
theorem dX6_name_51 : decode cX6_name 51 = .ok (.invokevirtual 77, 3) := dk_182 dg_cX6_name_1413.2.2.2.2.2.1
theorem dX6_name_54 : decode cX6_name 54 = .ok (.ireturn, 1) := dk_172 dg_cX6_name_1413.2.2.2.2.2.2.1
theorem dX6_name_55 : decode cX6_name 55 = .ok (.iinc 3 1, 3) := dk_132 dg_cX6_name_1413.2.2.2.2.2.2.2
theorem dg_cX6_name_1414 : ck3s cX6_name 58 167 (-40) = true ∧ ck1 cX6_name 61 28 = true ∧ ck3s cX6_name 62 155 19 = true := by decide +kernel
theorem dX6_name_58 : decode cX6_name 58 = .ok (.goto (-40), 3) := dk_167 dg_cX6_name_1414.1
theorem dX6_name_61 : decode cX6_name 61 = .ok (.iload_n 2, 1) := dk_28 dg_cX6_name_1414.2.1
theorem dX6_name_62 : decode cX6_name 62 = .ok (.ifCond .lt 19, 3) := dk_155 dg_cX6_name_1414.2.2
def dS_cX6_name_1 : List UInt8 := 19 :: 28 :: 43 :: 190 :: 162 :: 0 :: 13 :: 43 :: 28 :: 42 :: 180 :: 0 :: 29 :: 180 :: 0 :: 80 :: 79 :: 42 :: 180 :: 0 :: 29 :: 182 :: 0 :: 86 :: 4 :: 172 :: []
def dS_cX6_name_0 : List UInt8 := 42 :: 180 :: 0 :: 29 :: 180 :: 0 :: 47 :: 6 :: 159 :: 0 :: 8 :: 42 :: 182 :: 0 :: 74 :: 172 :: 3 :: 62 :: 29 :: 28 :: 162 :: 0 :: 41 :: 29 :: 43 :: 190 :: 162 :: 0 :: 35 :: 42 :: 180 :: 0 :: 29 :: 43 :: 29 :: 46 :: 42 :: 180 :: 0 :: 29 :: 180 :: 0 :: 80 :: 182 :: 0 :: 111 :: 153 :: 0 :: 9 :: 42 :: 6 :: 182 :: 0 :: 77 :: 172 :: 132 :: 3 :: 1 :: 167 :: 255 :: 216 :: 28 :: 155 :: 0 :: dS_cX6_name_1
theorem dT_cX6_name_0 : cX6_name.data.toList.drop 0 = dS_cX6_name_0 := by decide +kernel
theorem dT_cX6_name_1 : cX6_name.data.toList.drop 64 = dS_cX6_name_1 := ck_nx dT_cX6_name_0 (by decide +kernel) rfl
theorem dg_cX6_name_1415 : ck1L dS_cX6_name_1 1 28 = true ∧ ck1L dS_cX6_name_1 2 43 = true ∧ ck1L dS_cX6_name_1 3 190 = true ∧ ck3sL dS_cX6_name_1 4 162 13 = true ∧ ck1L dS_cX6_name_1 7 43 = true ∧ ck1L dS_cX6_name_1 8 28 = true ∧ ck1L dS_cX6_name_1 9 42 = true ∧ ck3L dS_cX6_name_1 10 180 29 = true := by decide +kernel
theorem dX6_name_65 : decode cX6_name 65 = .ok (.iload_n 2, 1) := dk_28 (ck1_s (r := 1) dT_cX6_name_1 rfl dg_cX6_name_1415.1)
theorem dX6_name_66 : decode cX6_name 66 = .ok (.aload_n 1, 1) := dk_43 (ck1_s (r := 2) dT_cX6_name_1 rfl dg_cX6_name_1415.2.1)
theorem dX6_name_67 : decode cX6_name 67 = .ok (.arraylength, 1) := dk_190 (ck1_s (r := 3) dT_cX6_name_1 rfl dg_cX6_name_1415.2.2.1)
theorem dX6_name_68 : decode cX6_name 68 = .ok (.if_icmp .ge 13, 3) := dk_162 (ck3s_s (r := 4) dT_cX6_name_1 rfl dg_cX6_name_1415.2.2.2.1)
theorem dX6_name_71 : decode cX6_name 71 = .ok (.aload_n 1, 1) := dk_43 (ck1_s (r := 7) dT_cX6_name_1 rfl dg_cX6_name_1415.2.2.2.2.1)
theorem dX6_name_72 : decode cX6_name 72 = .ok (.iload_n 2, 1) := dk_28 (ck1_s (r := 8) dT_cX6_name_1 rfl dg_cX6_name_1415.2.2.2.2.2.1)
theorem dX6_name_73 : decode cX6_name 73 = .ok (.aload_n 0, 1) := dk_42 (ck1_s (r := 9) dT_cX6_name_1 rfl dg_cX6_name_1415.2.2.2.2.2.2.1)
theorem dX6_name_74 : decode cX6_name 74 = .ok (.getfield 29, 3) := dk_180 (ck3_s (r := 10) dT_cX6_name_1 rfl dg_cX6_name_1415.2.2.2.2.2.2.2)
theorem dg_cX6_name_1416 : ck3L dS_cX6_name_1 13 180 80 = true ∧ ck1L dS_cX6_name_1 16 79 = true ∧ ck1L dS_cX6_name_1 17 42 = true ∧ ck3L dS_cX6_name_1 18 180 29 = true ∧ ck3L dS_cX6_name_1 21 182 86 = true ∧ ck1L dS_cX6_name_1 24 4 = true ∧ ck1L dS_cX6_name_1 25 172 = true := by decide +kernel
theorem dX6_name_77 : decode cX6_name 77 = .ok (.getfield 80, 3) := dk_180 (ck3_s (r := 13) dT_cX6_name_1 rfl dg_cX6_name_1416.1)
theorem dX6_name_80 : decode cX6_name 80 = .ok (.iastore, 1) := dk_79 (ck1_s (r := 16) dT_cX6_name_1 rfl dg_cX6_name_1416.2.1)
theorem dX6_name_81 : decode cX6_name 81 = .ok (.aload_n 0, 1) := dk_42 (ck1_s (r := 17) dT_cX6_name_1 rfl dg_cX6_name_1416.2.2.1)
theorem dX6_name_82 : decode cX6_name 82 = .ok (.getfield 29, 3) := dk_180 (ck3_s (r := 18) dT_cX6_name_1 rfl dg_cX6_name_1416.2.2.2.1)
theorem dX6_name_85 : decode cX6_name 85 = .ok (.invokevirtual 86, 3) := dk_182 (ck3_s (r := 21) dT_cX6_name_1 rfl dg_cX6_name_1416.2.2.2.2.1)
theorem dX6_name_88 : decode cX6_name 88 = .ok (.iconst 1, 1) := dk_4 (ck1_s (r := 24) dT_cX6_name_1 rfl dg_cX6_name_1416.2.2.2.2.2.1)
theorem dX6_name_89 : decode cX6_name 89 = .ok (.ireturn, 1) := dk_172 (ck1_s (r := 25) dT_cX6_name_1 rfl dg_cX6_name_1416.2.2.2.2.2.2)
theorem dg_cX6_negation_1417 : ck1 cX6_negation 0 27 = true ∧ ck2s cX6_negation 1 16 7 = true ∧ ck3s cX6_negation 3 161 8 = true ∧ ck1 cX6_negation 6 42 = true ∧ ck3 cX6_negation 7 182 74 = true ∧ ck1 cX6_negation 10 172 = true ∧ ck1 cX6_negation 11 42 = true ∧ ck3 cX6_negation 12 180 29 = true := by decide +kernel
theorem dX6_negation_0 : decode cX6_negation 0 = .ok (.iload_n 1, 1) := dk_27 dg_cX6_negation_1417.1
theorem dX6_negation_1 : decode cX6_negation 1 = .ok (.bipush 7, 2) := dk_16 dg_cX6_negation_1417.2.1
theorem dX6_negation_3 : decode cX6_negation 3 = .ok (.if_icmp .lt 8, 3) := dk_161 dg_cX6_negation_1417.2.2.1
theorem dX6_negation_6 : decode cX6_negation 6 = .ok (.aload_n 0, 1) := dk_42 dg_cX6_negation_1417.2.2.2.1
theorem dX6_negation_7 : decode cX6_negation 7 = .ok (.invokevirtual 74, 3) := dk_182 dg_cX6_negation_1417.2.2.2.2.1
theorem dX6_negation_10 : decode cX6_negation 10 = .ok (.ireturn, 1) := dk_172 dg_cX6_negation_1417.2.2.2.2.2.1
theorem dX6_negation_11 : decode cX6_negation 11 = .ok (.aload_n 0, 1) := dk_42 dg_cX6_negation_1417.2.2.2.2.2.2.1
theorem dX6_negation_12 : decode cX6_negation 12 = .ok (.getfield 29, 3) := dk_180 dg_cX6_negation_1417.2.2.2.2.2.2.2
theorem dg_cX6_negation_1418 : ck3 cX6_negation 15 182 86 = true ∧ ck1 cX6_negation 18 42 = true ∧ ck1 cX6_negation 19 5 = true ∧ ck1 cX6_negation 20 27 = true ∧ ck1 cX6_negation 21 4 = true ∧ ck1 cX6_negation 22 96 = true ∧ ck3 cX6_negation 23 182 67 = true ∧ ck3s cX6_negation 26 154 5 = true := by decide +kernel
theorem dX6_negation_15 : decode cX6_negation 15 = .ok (.invokevirtual 86, 3) := dk_182 dg_cX6_negation_1418.1
theorem dX6_negation_18 : decode cX6_negation 18 = .ok (.aload_n 0, 1) := dk_42 dg_cX6_negation_1418.2.1
theorem dX6_negation_19 : decode cX6_negation 19 = .ok (.iconst 2, 1) := dk_5 dg_cX6_negation_1418.2.2.1
theorem dX6_negation_20 : decode cX6_negation 20 = .ok (.iload_n 1, 1) := dk_27 dg_cX6_negation_1418.2.2.2.1
theorem dX6_negation_21 : decode cX6_negation 21 = .ok (.iconst 1, 1) := dk_4 dg_cX6_negation_1418.2.2.2.2.1
theorem dX6_negation_22 : decode cX6_negation 22 = .ok (.iadd, 1) := dk_96 dg_cX6_negation_1418.2.2.2.2.2.1
theorem dX6_negation_23 : decode cX6_negation 23 = .ok (.invokevirtual 67, 3) := dk_182 dg_cX6_negation_1418.2.2.2.2.2.2.1
theorem dX6_negation_26 : decode cX6_negation 26 = .ok (.ifCond .ne 5, 3) := dk_154 dg_cX6_negation_1418.2.2.2.2.2.2.2
theorem dg_cX6_negation_1419 : ck1 cX6_negation 29 3 = true ∧ ck1 cX6_negation 30 172 = true ∧ ck1 cX6_negation 31 42 = true ∧ ck3 cX6_negation 32 180 12 = true ∧ ck3 cX6_negation 35 180 134 = true ∧ ck2s cX6_negation 38 16 115 = true ∧ ck1 cX6_negation 40 3 = true ∧ ck3 cX6_negation 41 182 138 = true := by decide +kernel
theorem dX6_negation_29 : decode cX6_negation 29 = .ok (.iconst 0, 1) := dk_3 dg_cX6_negation_1419.1
theorem dX6_negation_30 : decode cX6_negation 30 = .ok (.ireturn, 1) := dk_172 dg_cX6_negation_1419.2.1
theorem dX6_negation_31 : decode cX6_negation 31 = .ok (.aload_n 0, 1) := dk_42 dg_cX6_negation_1419.2.2.1
theorem dX6_negation_32 : decode cX6_negation 32 = .ok (.getfield 12, 3) := dk_180 dg_cX6_negation_1419.2.2.2.1
theorem dX6_negation_35 : decode cX6_negation 35 = .ok (.getfield 134, 3) := dk_180 dg_cX6_negation_1419.2.2.2.2.1
theorem dX6_negation_38 : decode cX6_negation 38 = .ok (.bipush 115, 2) := dk_16 dg_cX6_negation_1419.2.2.2.2.2.1
theorem dX6_negation_40 : decode cX6_negation 40 = .ok (.iconst 0, 1) := dk_3 dg_cX6_negation_1419.2.2.2.2.2.2.1
theorem dX6_negation_41 : decode cX6_negation 41 = .ok (.invokevirtual 138, 3) := dk_182 dg_cX6_negation_1419.2.2.2.2.2.2.2
theorem dg_cX6_negation_1420 : ck1 cX6_negation 44 4 = true ∧ ck1 cX6_negation 45 172 = true := by decide +kernel
theorem dX6_negation_44 : decode cX6_negation 44 = .ok (.iconst 1, 1) := dk_4 dg_cX6_negation_1420.1
theorem dX6_negation_45 : decode cX6_negation 45 = .ok (.ireturn, 1) := dk_172 dg_cX6_negation_1420.2
theorem dg_cX6_numbered_1421 : ck1 cX6_numbered 0 42 = true ∧ ck3 cX6_numbered 1 180 29 = true ∧ ck3 cX6_numbered 4 180 118 = true ∧ ck1 cX6_numbered 7 61 = true ∧ ck1 cX6_numbered 8 42 = true ∧ ck3 cX6_numbered 9 180 29 = true ∧ ck3 cX6_numbered 12 180 47 = true ∧ ck1 cX6_numbered 15 5 = true := by decide +kernel
theorem dX6_numbered_0 : decode cX6_numbered 0 = .ok (.aload_n 0, 1) := dk_42 dg_cX6_numbered_1421.1
theorem dX6_numbered_1 : decode cX6_numbered 1 = .ok (.getfield 29, 3) := dk_180 dg_cX6_numbered_1421.2.1
theorem dX6_numbered_4 : decode cX6_numbered 4 = .ok (.getfield 118, 3) := dk_180 dg_cX6_numbered_1421.2.2.1
theorem dX6_numbered_7 : decode cX6_numbered 7 = .ok (.istore_n 2, 1) := dk_61 dg_cX6_numbered_1421.2.2.2.1
theorem dX6_numbered_8 : decode cX6_numbered 8 = .ok (.aload_n 0, 1) := dk_42 dg_cX6_numbered_1421.2.2.2.2.1
theorem dX6_numbered_9 : decode cX6_numbered 9 = .ok (.getfield 29, 3) := dk_180 dg_cX6_numbered_1421.2.2.2.2.2.1
theorem dX6_numbered_12 : decode cX6_numbered 12 = .ok (.getfield 47, 3) := dk_180 dg_cX6_numbered_1421.2.2.2.2.2.2.1
theorem dX6_numbered_15 : decode cX6_numbered 15 = .ok (.iconst 2, 1) := dk_5 dg_cX6_numbered_1421.2.2.2.2.2.2.2
theorem dg_cX6_numbered_1422 : ck3s cX6_numbered 16 159 10 = true ∧ ck1 cX6_numbered 19 42 = true ∧ ck3 cX6_numbered 20 182 74 = true ∧ ck1 cX6_numbered 23 87 = true ∧ ck1 cX6_numbered 24 2 = true ∧ ck1 cX6_numbered 25 172 = true ∧ ck1 cX6_numbered 26 28 = true ∧ ck1 cX6_numbered 27 27 = true := by decide +kernel
theorem dX6_numbered_16 : decode cX6_numbered 16 = .ok (.if_icmp .eq 10, 3) := dk_159 dg_cX6_numbered_1422.1
theorem dX6_numbered_19 : decode cX6_numbered 19 = .ok (.aload_n 0, 1) := dk_42 dg_cX6_numbered_1422.2.1
theorem dX6_numbered_20 : decode cX6_numbered 20 = .ok (.invokevirtual 74, 3) := dk_182 dg_cX6_numbered_1422.2.2.1
theorem dX6_numbered_23 : decode cX6_numbered 23 = .ok (.pop, 1) := dk_87 dg_cX6_numbered_1422.2.2.2.1
theorem dX6_numbered_24 : decode cX6_numbered 24 = .ok (.iconst (-1), 1) := dk_2 dg_cX6_numbered_1422.2.2.2.2.1
theorem dX6_numbered_25 : decode cX6_numbered 25 = .ok (.ireturn, 1) := dk_172 dg_cX6_numbered_1422.2.2.2.2.2.1
theorem dX6_numbered_26 : decode cX6_numbered 26 = .ok (.iload_n 2, 1) := dk_28 dg_cX6_numbered_1422.2.2.2.2.2.2.1
theorem dX6_numbered_27 : decode cX6_numbered 27 = .ok (.iload_n 1, 1) := dk_27 dg_cX6_numbered_1422.2.2.2.2.2.2.2
theorem dg_cX6_numbered_1423 : ck3s cX6_numbered 28 164 11 = true ∧ ck1 cX6_numbered 31 42 = true ∧ ck1 cX6_numbered 32 7 = true ∧ ck3 cX6_numbered 33 182 77 = true ∧ ck1 cX6_numbered 36 87 = true ∧ ck1 cX6_numbered 37 2 = true ∧ ck1 cX6_numbered 38 172 = true ∧ ck1 cX6_numbered 39 42 = true := by decide +kernel
theorem dX6_numbered_28 : decode cX6_numbered 28 = .ok (.if_icmp .le 11, 3) := dk_164 dg_cX6_numbered_1423.1
theorem dX6_numbered_31 : decode cX6_numbered 31 = .ok (.aload_n 0, 1) := dk_42 dg_cX6_numbered_1423.2.1
theorem dX6_numbered_32 : decode cX6_numbered 32 = .ok (.iconst 4, 1) := dk_7 dg_cX6_numbered_1423.2.2.1
theorem dX6_numbered_33 : decode cX6_numbered 33 = .ok (.invokevirtual 77, 3) := dk_182 dg_cX6_numbered_1423.2.2.2.1
theorem dX6_numbered_36 : decode cX6_numbered 36 = .ok (.pop, 1) := dk_87 dg_cX6_numbered_1423.2.2.2.2.1
theorem dX6_numbered_37 : decode cX6_numbered 37 = .ok (.iconst (-1), 1) := dk_2 dg_cX6_numbered_1423.2.2.2.2.2.1
theorem dX6_numbered_38 : decode cX6_numbered 38 = .ok (.ireturn, 1) := dk_172 dg_cX6_numbered_1423.2.2.2.2.2.2.1
theorem dX6_numbered_39 : decode cX6_numbered 39 = .ok (.aload_n 0, 1) := dk_42 dg_cX6_numbered_1423.2.2.2.2.2.2.2
theorem dg_cX6_numbered_1424 : ck3 cX6_numbered 40 180 29 = true ∧ ck3 cX6_numbered 43 182 86 = true ∧ ck1 cX6_numbered 46 28 = true ∧ ck1 cX6_numbered 47 172 = true := by decide +kernel
theorem dX6_numbered_40 : decode cX6_numbered 40 = .ok (.getfield 29, 3) := dk_180 dg_cX6_numbered_1424.1
theorem dX6_numbered_43 : decode cX6_numbered 43 = .ok (.invokevirtual 86, 3) := dk_182 dg_cX6_numbered_1424.2.1
theorem dX6_numbered_46 : decode cX6_numbered 46 = .ok (.iload_n 2, 1) := dk_28 dg_cX6_numbered_1424.2.2.1
theorem dX6_numbered_47 : decode cX6_numbered 47 = .ok (.ireturn, 1) := dk_172 dg_cX6_numbered_1424.2.2.2
theorem dg_cX6_opened_1425 : ck1 cX6_opened 0 4 = true ∧ ck1 cX6_opened 1 27 = true ∧ ck2s cX6_opened 2 16 103 = true ∧ ck1 cX6_opened 4 100 = true ∧ ck1 cX6_opened 5 120 = true ∧ ck1 cX6_opened 6 61 = true ∧ ck1 cX6_opened 7 42 = true ∧ ck3 cX6_opened 8 180 36 = true := by decide +kernel
theorem dX6_opened_0 : decode cX6_opened 0 = .ok (.iconst 1, 1) := dk_4 dg_cX6_opened_1425.1
theorem dX6_opened_1 : decode cX6_opened 1 = .ok (.iload_n 1, 1) := dk_27 dg_cX6_opened_1425.2.1
theorem dX6_opened_2 : decode cX6_opened 2 = .ok (.bipush 103, 2) := dk_16 dg_cX6_opened_1425.2.2.1
theorem dX6_opened_4 : decode cX6_opened 4 = .ok (.isub, 1) := dk_100 dg_cX6_opened_1425.2.2.2.1
theorem dX6_opened_5 : decode cX6_opened 5 = .ok (.ishl, 1) := dk_120 dg_cX6_opened_1425.2.2.2.2.1
theorem dX6_opened_6 : decode cX6_opened 6 = .ok (.istore_n 2, 1) := dk_61 dg_cX6_opened_1425.2.2.2.2.2.1
theorem dX6_opened_7 : decode cX6_opened 7 = .ok (.aload_n 0, 1) := dk_42 dg_cX6_opened_1425.2.2.2.2.2.2.1
theorem dX6_opened_8 : decode cX6_opened 8 = .ok (.getfield 36, 3) := dk_180 dg_cX6_opened_1425.2.2.2.2.2.2.2
theorem dg_cX6_opened_1426 : ck1 cX6_opened 11 28 = true ∧ ck1 cX6_opened 12 126 = true ∧ ck3s cX6_opened 13 153 8 = true ∧ ck1 cX6_opened 16 42 = true ∧ ck3 cX6_opened 17 182 74 = true ∧ ck1 cX6_opened 20 172 = true ∧ ck1 cX6_opened 21 42 = true ∧ ck1 cX6_opened 22 89 = true := by decide +kernel
theorem dX6_opened_11 : decode cX6_opened 11 = .ok (.iload_n 2, 1) := dk_28 dg_cX6_opened_1426.1
theorem dX6_opened_12 : decode cX6_opened 12 = .ok (.iand, 1) := dk_126 dg_cX6_opened_1426.2.1
theorem dX6_opened_13 : decode cX6_opened 13 = .ok (.ifCond .eq 8, 3) := dk_153 dg_cX6_opened_1426.2.2.1
theorem dX6_opened_16 : decode cX6_opened 16 = .ok (.aload_n 0, 1) := dk_42 dg_cX6_opened_1426.2.2.2.1
theorem dX6_opened_17 : decode cX6_opened 17 = .ok (.invokevirtual 74, 3) := dk_182 dg_cX6_opened_1426.2.2.2.2.1
theorem dX6_opened_20 : decode cX6_opened 20 = .ok (.ireturn, 1) := dk_172 dg_cX6_opened_1426.2.2.2.2.2.1
theorem dX6_opened_21 : decode cX6_opened 21 = .ok (.aload_n 0, 1) := dk_42 dg_cX6_opened_1426.2.2.2.2.2.2.1
theorem dX6_opened_22 : decode cX6_opened 22 = .ok (.dup, 1) := dk_89 dg_cX6_opened_1426.2.2.2.2.2.2.2
theorem dg_cX6_opened_1427 : ck3 cX6_opened 23 180 36 = true ∧ ck1 cX6_opened 26 28 = true ∧ ck1 cX6_opened 27 128 = true ∧ ck3 cX6_opened 28 181 36 = true ∧ ck1 cX6_opened 31 42 = true ∧ ck3 cX6_opened 32 180 29 = true ∧ ck3 cX6_opened 35 182 86 = true ∧ ck1 cX6_opened 38 4 = true := by decide +kernel
theorem dX6_opened_23 : decode cX6_opened 23 = .ok (.getfield 36, 3) := dk_180 dg_cX6_opened_1427.1
theorem dX6_opened_26 : decode cX6_opened 26 = .ok (.iload_n 2, 1) := dk_28 dg_cX6_opened_1427.2.1
theorem dX6_opened_27 : decode cX6_opened 27 = .ok (.ior, 1) := dk_128 dg_cX6_opened_1427.2.2.1
theorem dX6_opened_28 : decode cX6_opened 28 = .ok (.putfield 36, 3) := dk_181 dg_cX6_opened_1427.2.2.2.1
theorem dX6_opened_31 : decode cX6_opened 31 = .ok (.aload_n 0, 1) := dk_42 dg_cX6_opened_1427.2.2.2.2.1
theorem dX6_opened_32 : decode cX6_opened 32 = .ok (.getfield 29, 3) := dk_180 dg_cX6_opened_1427.2.2.2.2.2.1
theorem dX6_opened_35 : decode cX6_opened 35 = .ok (.invokevirtual 86, 3) := dk_182 dg_cX6_opened_1427.2.2.2.2.2.2.1
theorem dX6_opened_38 : decode cX6_opened 38 = .ok (.iconst 1, 1) := dk_4 dg_cX6_opened_1427.2.2.2.2.2.2.2
theorem dg_cX6_opened_1428 : ck1 cX6_opened 39 172 = true := by decide +kernel
theorem dX6_opened_39 : decode cX6_opened 39 = .ok (.ireturn, 1) := dk_172 dg_cX6_opened_1428
theorem dg_cX6_read_1429 : ck1 cX6_read 0 42 = true ∧ ck3 cX6_read 1 180 12 = true ∧ ck3 cX6_read 4 182 33 = true ∧ ck1 cX6_read 7 42 = true ∧ ck1 cX6_read 8 3 = true ∧ ck3 cX6_read 9 181 36 = true ∧ ck1 cX6_read 12 42 = true ∧ ck1 cX6_read 13 3 = true := by decide +kernel
theorem dX6_read_0 : decode cX6_read 0 = .ok (.aload_n 0, 1) := dk_42 dg_cX6_read_1429.1
theorem dX6_read_1 : decode cX6_read 1 = .ok (.getfield 12, 3) := dk_180 dg_cX6_read_1429.2.1
theorem dX6_read_4 : decode cX6_read 4 = .ok (.invokevirtual 33, 3) := dk_182 dg_cX6_read_1429.2.2.1
theorem dX6_read_7 : decode cX6_read 7 = .ok (.aload_n 0, 1) := dk_42 dg_cX6_read_1429.2.2.2.1
theorem dX6_read_8 : decode cX6_read 8 = .ok (.iconst 0, 1) := dk_3 dg_cX6_read_1429.2.2.2.2.1
theorem dX6_read_9 : decode cX6_read 9 = .ok (.putfield 36, 3) := dk_181 dg_cX6_read_1429.2.2.2.2.2.1
theorem dX6_read_12 : decode cX6_read 12 = .ok (.aload_n 0, 1) := dk_42 dg_cX6_read_1429.2.2.2.2.2.2.1
theorem dX6_read_13 : decode cX6_read 13 = .ok (.iconst 0, 1) := dk_3 dg_cX6_read_1429.2.2.2.2.2.2.2
theorem dg_cX6_read_1430 : ck3 cX6_read 14 181 39 = true ∧ ck1 cX6_read 17 42 = true ∧ ck1 cX6_read 18 2 = true ∧ ck3 cX6_read 19 181 25 = true ∧ ck1 cX6_read 22 42 = true ∧ ck3 cX6_read 23 180 29 = true ∧ ck3 cX6_read 26 182 42 = true ∧ ck1 cX6_read 29 3 = true := by decide +kernel
theorem dX6_read_14 : decode cX6_read 14 = .ok (.putfield 39, 3) := dk_181 dg_cX6_read_1430.1
theorem dX6_read_17 : decode cX6_read 17 = .ok (.aload_n 0, 1) := dk_42 dg_cX6_read_1430.2.1
theorem dX6_read_18 : decode cX6_read 18 = .ok (.iconst (-1), 1) := dk_2 dg_cX6_read_1430.2.2.1
theorem dX6_read_19 : decode cX6_read 19 = .ok (.putfield 25, 3) := dk_181 dg_cX6_read_1430.2.2.2.1
theorem dX6_read_22 : decode cX6_read 22 = .ok (.aload_n 0, 1) := dk_42 dg_cX6_read_1430.2.2.2.2.1
theorem dX6_read_23 : decode cX6_read 23 = .ok (.getfield 29, 3) := dk_180 dg_cX6_read_1430.2.2.2.2.2.1
theorem dX6_read_26 : decode cX6_read 26 = .ok (.invokevirtual 42, 3) := dk_182 dg_cX6_read_1430.2.2.2.2.2.2.1
theorem dX6_read_29 : decode cX6_read 29 = .ok (.iconst 0, 1) := dk_3 dg_cX6_read_1430.2.2.2.2.2.2.2
theorem dg_cX6_read_1431 : ck1 cX6_read 30 60 = true ∧ ck1 cX6_read 31 27 = true ∧ ck3s cX6_read 32 17 1600 = true ∧ ck3s cX6_read 35 162 28 = true ∧ ck1 cX6_read 38 42 = true ∧ ck3 cX6_read 39 180 29 = true ∧ ck3 cX6_read 42 180 47 = true ∧ ck3s cX6_read 45 153 18 = true := by decide +kernel
theorem dX6_read_30 : decode cX6_read 30 = .ok (.istore_n 1, 1) := dk_60 dg_cX6_read_1431.1
theorem dX6_read_31 : decode cX6_read 31 = .ok (.iload_n 1, 1) := dk_27 dg_cX6_read_1431.2.1
theorem dX6_read_32 : decode cX6_read 32 = .ok (.sipush 1600, 3) := dk_17 dg_cX6_read_1431.2.2.1
theorem dX6_read_35 : decode cX6_read 35 = .ok (.if_icmp .ge 28, 3) := dk_162 dg_cX6_read_1431.2.2.2.1
theorem dX6_read_38 : decode cX6_read 38 = .ok (.aload_n 0, 1) := dk_42 dg_cX6_read_1431.2.2.2.2.1
theorem dX6_read_39 : decode cX6_read 39 = .ok (.getfield 29, 3) := dk_180 dg_cX6_read_1431.2.2.2.2.2.1
theorem dX6_read_42 : decode cX6_read 42 = .ok (.getfield 47, 3) := dk_180 dg_cX6_read_1431.2.2.2.2.2.2.1
theorem dX6_read_45 : decode cX6_read 45 = .ok (.ifCond .eq 18, 3) := dk_153 dg_cX6_read_1431.2.2.2.2.2.2.2
theorem dg_cX6_read_1432 : ck1 cX6_read 48 42 = true ∧ ck3 cX6_read 49 182 50 = true ∧ ck3s cX6_read 52 154 5 = true ∧ ck1 cX6_read 55 3 = true ∧ ck1 cX6_read 56 172 = true ∧ ck3i cX6_read 57 132 1 1 = true ∧ ck3s cX6_read 60 167 (-29) = true ∧ ck1 cX6_read 63 4 = true := by decide +kernel
theorem dX6_read_48 : decode cX6_read 48 = .ok (.aload_n 0, 1) := dk_42 dg_cX6_read_1432.1
theorem dX6_read_49 : decode cX6_read 49 = .ok (.invokevirtual 50, 3) := dk_182 dg_cX6_read_1432.2.1
theorem dX6_read_52 : decode cX6_read 52 = .ok (.ifCond .ne 5, 3) := dk_154 dg_cX6_read_1432.2.2.1
theorem dX6_read_55 : decode cX6_read 55 = .ok (.iconst 0, 1) := dk_3 dg_cX6_read_1432.2.2.2.1
theorem dX6_read_56 : decode cX6_read 56 = .ok (.ireturn, 1) := dk_172 dg_cX6_read_1432.2.2.2.2.1
theorem dX6_read_57 : decode cX6_read 57 = .ok (.iinc 1 1, 3) := dk_132 dg_cX6_read_1432.2.2.2.2.2.1
theorem dX6_read_60 : decode cX6_read 60 = .ok (.goto (-29), 3) := dk_167 dg_cX6_read_1432.2.2.2.2.2.2.1
theorem dX6_read_63 : decode cX6_read 63 = .ok (.iconst 1, 1) := dk_4 dg_cX6_read_1432.2.2.2.2.2.2.2
def dS_cX6_read_1 : List UInt8 := 172 :: []
def dS_cX6_read_0 : List UInt8 := 42 :: 180 :: 0 :: 12 :: 182 :: 0 :: 33 :: 42 :: 3 :: 181 :: 0 :: 36 :: 42 :: 3 :: 181 :: 0 :: 39 :: 42 :: 2 :: 181 :: 0 :: 25 :: 42 :: 180 :: 0 :: 29 :: 182 :: 0 :: 42 :: 3 :: 60 :: 27 :: 17 :: 6 :: 64 :: 162 :: 0 :: 28 :: 42 :: 180 :: 0 :: 29 :: 180 :: 0 :: 47 :: 153 :: 0 :: 18 :: 42 :: 182 :: 0 :: 50 :: 154 :: 0 :: 5 :: 3 :: 172 :: 132 :: 1 :: 1 :: 167 :: 255 :: 227 :: 4 :: dS_cX6_read_1
theorem dT_cX6_read_0 : cX6_read.data.toList.drop 0 = dS_cX6_read_0 := by decide +kernel
theorem dT_cX6_read_1 : cX6_read.data.toList.drop 64 = dS_cX6_read_1 := ck_nx dT_cX6_read_0 (by decide +kernel) rfl
theorem dg_cX6_read_1433 : ck1L dS_cX6_read_1 0 172 = true := by decide +kernel
theorem dX6_read_64 : decode cX6_read 64 = .ok (.ireturn, 1) := dk_172 (ck1_s (r := 0) dT_cX6_read_1 rfl dg_cX6_read_1433)
theorem dg_cX6_refuse_1434 : ck1 cX6_refuse 0 42 = true ∧ ck1 cX6_refuse 1 42 = true ∧ ck3 cX6_refuse 2 180 29 = true ∧ ck3 cX6_refuse 5 180 47 = true ∧ ck1 cX6_refuse 8 4 = true ∧ ck3s cX6_refuse 9 160 7 = true ∧ ck1 cX6_refuse 12 4 = true ∧ ck3s cX6_refuse 13 167 4 = true := by decide +kernel
theorem dX6_refuse_0 : decode cX6_refuse 0 = .ok (.aload_n 0, 1) := dk_42 dg_cX6_refuse_1434.1
theorem dX6_refuse_1 : decode cX6_refuse 1 = .ok (.aload_n 0, 1) := dk_42 dg_cX6_refuse_1434.2.1
theorem dX6_refuse_2 : decode cX6_refuse 2 = .ok (.getfield 29, 3) := dk_180 dg_cX6_refuse_1434.2.2.1
theorem dX6_refuse_5 : decode cX6_refuse 5 = .ok (.getfield 47, 3) := dk_180 dg_cX6_refuse_1434.2.2.2.1
theorem dX6_refuse_8 : decode cX6_refuse 8 = .ok (.iconst 1, 1) := dk_4 dg_cX6_refuse_1434.2.2.2.2.1
theorem dX6_refuse_9 : decode cX6_refuse 9 = .ok (.if_icmp .ne 7, 3) := dk_160 dg_cX6_refuse_1434.2.2.2.2.2.1
theorem dX6_refuse_12 : decode cX6_refuse 12 = .ok (.iconst 1, 1) := dk_4 dg_cX6_refuse_1434.2.2.2.2.2.2.1
theorem dX6_refuse_13 : decode cX6_refuse 13 = .ok (.goto 4, 3) := dk_167 dg_cX6_refuse_1434.2.2.2.2.2.2.2
theorem dg_cX6_refuse_1435 : ck1 cX6_refuse 16 5 = true ∧ ck3 cX6_refuse 17 182 77 = true ∧ ck1 cX6_refuse 20 172 = true := by decide +kernel
theorem dX6_refuse_16 : decode cX6_refuse 16 = .ok (.iconst 2, 1) := dk_5 dg_cX6_refuse_1435.1
theorem dX6_refuse_17 : decode cX6_refuse 17 = .ok (.invokevirtual 77, 3) := dk_182 dg_cX6_refuse_1435.2.1
theorem dX6_refuse_20 : decode cX6_refuse 20 = .ok (.ireturn, 1) := dk_172 dg_cX6_refuse_1435.2.2
theorem dg_cX6_refuseAs_1436 : ck1 cX6_refuseAs 0 42 = true ∧ ck1 cX6_refuseAs 1 27 = true ∧ ck3 cX6_refuseAs 2 181 39 = true ∧ ck1 cX6_refuseAs 5 42 = true ∧ ck1 cX6_refuseAs 6 42 = true ∧ ck3 cX6_refuseAs 7 180 29 = true ∧ ck3 cX6_refuseAs 10 180 80 = true ∧ ck3 cX6_refuseAs 13 181 25 = true := by decide +kernel
theorem dX6_refuseAs_0 : decode cX6_refuseAs 0 = .ok (.aload_n 0, 1) := dk_42 dg_cX6_refuseAs_1436.1
theorem dX6_refuseAs_1 : decode cX6_refuseAs 1 = .ok (.iload_n 1, 1) := dk_27 dg_cX6_refuseAs_1436.2.1
theorem dX6_refuseAs_2 : decode cX6_refuseAs 2 = .ok (.putfield 39, 3) := dk_181 dg_cX6_refuseAs_1436.2.2.1
theorem dX6_refuseAs_5 : decode cX6_refuseAs 5 = .ok (.aload_n 0, 1) := dk_42 dg_cX6_refuseAs_1436.2.2.2.1
theorem dX6_refuseAs_6 : decode cX6_refuseAs 6 = .ok (.aload_n 0, 1) := dk_42 dg_cX6_refuseAs_1436.2.2.2.2.1
theorem dX6_refuseAs_7 : decode cX6_refuseAs 7 = .ok (.getfield 29, 3) := dk_180 dg_cX6_refuseAs_1436.2.2.2.2.2.1
theorem dX6_refuseAs_10 : decode cX6_refuseAs 10 = .ok (.getfield 80, 3) := dk_180 dg_cX6_refuseAs_1436.2.2.2.2.2.2.1
theorem dX6_refuseAs_13 : decode cX6_refuseAs 13 = .ok (.putfield 25, 3) := dk_181 dg_cX6_refuseAs_1436.2.2.2.2.2.2.2
theorem dg_cX6_refuseAs_1437 : ck1 cX6_refuseAs 16 3 = true ∧ ck1 cX6_refuseAs 17 172 = true := by decide +kernel
theorem dX6_refuseAs_16 : decode cX6_refuseAs 16 = .ok (.iconst 0, 1) := dk_3 dg_cX6_refuseAs_1437.1
theorem dX6_refuseAs_17 : decode cX6_refuseAs 17 = .ok (.ireturn, 1) := dk_172 dg_cX6_refuseAs_1437.2
theorem dg_cX6_settingLine_1438 : ck1 cX6_settingLine 0 42 = true ∧ ck3 cX6_settingLine 1 180 29 = true ∧ ck3 cX6_settingLine 4 180 47 = true ∧ ck1 cX6_settingLine 7 61 = true ∧ ck1 cX6_settingLine 8 42 = true ∧ ck1 cX6_settingLine 9 28 = true ∧ ck3 cX6_settingLine 10 182 63 = true ∧ ck3s cX6_settingLine 13 153 11 = true := by decide +kernel
theorem dX6_settingLine_0 : decode cX6_settingLine 0 = .ok (.aload_n 0, 1) := dk_42 dg_cX6_settingLine_1438.1
theorem dX6_settingLine_1 : decode cX6_settingLine 1 = .ok (.getfield 29, 3) := dk_180 dg_cX6_settingLine_1438.2.1
theorem dX6_settingLine_4 : decode cX6_settingLine 4 = .ok (.getfield 47, 3) := dk_180 dg_cX6_settingLine_1438.2.2.1
theorem dX6_settingLine_7 : decode cX6_settingLine 7 = .ok (.istore_n 2, 1) := dk_61 dg_cX6_settingLine_1438.2.2.2.1
theorem dX6_settingLine_8 : decode cX6_settingLine 8 = .ok (.aload_n 0, 1) := dk_42 dg_cX6_settingLine_1438.2.2.2.2.1
theorem dX6_settingLine_9 : decode cX6_settingLine 9 = .ok (.iload_n 2, 1) := dk_28 dg_cX6_settingLine_1438.2.2.2.2.2.1
theorem dX6_settingLine_10 : decode cX6_settingLine 10 = .ok (.invokevirtual 63, 3) := dk_182 dg_cX6_settingLine_1438.2.2.2.2.2.2.1
theorem dX6_settingLine_13 : decode cX6_settingLine 13 = .ok (.ifCond .eq 11, 3) := dk_153 dg_cX6_settingLine_1438.2.2.2.2.2.2.2
theorem dg_cX6_settingLine_1439 : ck1 cX6_settingLine 16 42 = true ∧ ck1 cX6_settingLine 17 27 = true ∧ ck3 cX6_settingLine 18 182 114 = true ∧ ck3s cX6_settingLine 21 167 4 = true ∧ ck1 cX6_settingLine 24 2 = true ∧ ck1 cX6_settingLine 25 62 = true ∧ ck1 cX6_settingLine 26 29 = true ∧ ck3s cX6_settingLine 27 156 5 = true := by decide +kernel
theorem dX6_settingLine_16 : decode cX6_settingLine 16 = .ok (.aload_n 0, 1) := dk_42 dg_cX6_settingLine_1439.1
theorem dX6_settingLine_17 : decode cX6_settingLine 17 = .ok (.iload_n 1, 1) := dk_27 dg_cX6_settingLine_1439.2.1
theorem dX6_settingLine_18 : decode cX6_settingLine 18 = .ok (.invokevirtual 114, 3) := dk_182 dg_cX6_settingLine_1439.2.2.1
theorem dX6_settingLine_21 : decode cX6_settingLine 21 = .ok (.goto 4, 3) := dk_167 dg_cX6_settingLine_1439.2.2.2.1
theorem dX6_settingLine_24 : decode cX6_settingLine 24 = .ok (.iconst (-1), 1) := dk_2 dg_cX6_settingLine_1439.2.2.2.2.1
theorem dX6_settingLine_25 : decode cX6_settingLine 25 = .ok (.istore_n 3, 1) := dk_62 dg_cX6_settingLine_1439.2.2.2.2.2.1
theorem dX6_settingLine_26 : decode cX6_settingLine 26 = .ok (.iload_n 3, 1) := dk_29 dg_cX6_settingLine_1439.2.2.2.2.2.2.1
theorem dX6_settingLine_27 : decode cX6_settingLine 27 = .ok (.ifCond .ge 5, 3) := dk_156 dg_cX6_settingLine_1439.2.2.2.2.2.2.2
theorem dg_cX6_settingLine_1440 : ck1 cX6_settingLine 30 3 = true ∧ ck1 cX6_settingLine 31 172 = true ∧ ck1 cX6_settingLine 32 42 = true ∧ ck3 cX6_settingLine 33 180 12 = true ∧ ck1 cX6_settingLine 36 28 = true ∧ ck1 cX6_settingLine 37 29 = true ∧ ck3 cX6_settingLine 38 182 121 = true ∧ ck1 cX6_settingLine 41 4 = true := by decide +kernel
theorem dX6_settingLine_30 : decode cX6_settingLine 30 = .ok (.iconst 0, 1) := dk_3 dg_cX6_settingLine_1440.1
theorem dX6_settingLine_31 : decode cX6_settingLine 31 = .ok (.ireturn, 1) := dk_172 dg_cX6_settingLine_1440.2.1
theorem dX6_settingLine_32 : decode cX6_settingLine 32 = .ok (.aload_n 0, 1) := dk_42 dg_cX6_settingLine_1440.2.2.1
theorem dX6_settingLine_33 : decode cX6_settingLine 33 = .ok (.getfield 12, 3) := dk_180 dg_cX6_settingLine_1440.2.2.2.1
theorem dX6_settingLine_36 : decode cX6_settingLine 36 = .ok (.iload_n 2, 1) := dk_28 dg_cX6_settingLine_1440.2.2.2.2.1
theorem dX6_settingLine_37 : decode cX6_settingLine 37 = .ok (.iload_n 3, 1) := dk_29 dg_cX6_settingLine_1440.2.2.2.2.2.1
theorem dX6_settingLine_38 : decode cX6_settingLine 38 = .ok (.invokevirtual 121, 3) := dk_182 dg_cX6_settingLine_1440.2.2.2.2.2.2.1
theorem dX6_settingLine_41 : decode cX6_settingLine 41 = .ok (.iconst 1, 1) := dk_4 dg_cX6_settingLine_1440.2.2.2.2.2.2.2
theorem dg_cX6_settingLine_1441 : ck1 cX6_settingLine 42 172 = true := by decide +kernel
theorem dX6_settingLine_42 : decode cX6_settingLine 42 = .ok (.ireturn, 1) := dk_172 dg_cX6_settingLine_1441
theorem dg_cX6_taken_1442 : ck1 cX6_taken 0 42 = true ∧ ck3 cX6_taken 1 180 29 = true ∧ ck3 cX6_taken 4 180 47 = true ∧ ck1 cX6_taken 7 27 = true ∧ ck3s cX6_taken 8 159 8 = true ∧ ck1 cX6_taken 11 42 = true ∧ ck3 cX6_taken 12 182 74 = true ∧ ck1 cX6_taken 15 172 = true := by decide +kernel
theorem dX6_taken_0 : decode cX6_taken 0 = .ok (.aload_n 0, 1) := dk_42 dg_cX6_taken_1442.1
theorem dX6_taken_1 : decode cX6_taken 1 = .ok (.getfield 29, 3) := dk_180 dg_cX6_taken_1442.2.1
theorem dX6_taken_4 : decode cX6_taken 4 = .ok (.getfield 47, 3) := dk_180 dg_cX6_taken_1442.2.2.1
theorem dX6_taken_7 : decode cX6_taken 7 = .ok (.iload_n 1, 1) := dk_27 dg_cX6_taken_1442.2.2.2.1
theorem dX6_taken_8 : decode cX6_taken 8 = .ok (.if_icmp .eq 8, 3) := dk_159 dg_cX6_taken_1442.2.2.2.2.1
