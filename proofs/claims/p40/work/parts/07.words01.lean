theorem k_0 : Cond.selects RX7 yX7_setDefaults yX7_setDefaults ∈ BIG := mB (tb_p (List.mem_of_getElem? (i := 0) (by decide +kernel))) rfl
theorem k_1 : Cond.selects RX9 yX9_isLetter yX9_isLetter ∈ BIG := mB (tb_p (List.mem_of_getElem? (i := 1) (by decide +kernel))) rfl
theorem k_2 : Cond.selects RX9 yX9_wordKind yX9_wordKind ∈ BIG := mB (tb_p (List.mem_of_getElem? (i := 2) (by decide +kernel))) rfl
theorem k_3 : Cond.selects RX9 yX9_isDigit yX9_isDigit ∈ BIG := mB (tb_p (List.mem_of_getElem? (i := 3) (by decide +kernel))) rfl
theorem k_4 : Cond.selects RX6 yX6_line yX6_line ∈ BIG := mB (tb_p (List.mem_of_getElem? (i := 4) (by decide +kernel))) rfl
theorem k_5 : Cond.selects RX6 yX6_manLine yX6_manLine ∈ BIG := mB (tb_p (List.mem_of_getElem? (i := 5) (by decide +kernel))) rfl
theorem k_6 : Cond.selects RX6 yX6_refuse yX6_refuse ∈ BIG := mB (tb_p (List.mem_of_getElem? (i := 6) (by decide +kernel))) rfl
theorem k_7 : Cond.selects RX6 yX6_refuseAs yX6_refuseAs ∈ BIG := mB (tb_p (List.mem_of_getElem? (i := 7) (by decide +kernel))) rfl
theorem k_8 : Cond.selects RX6 yX6_name yX6_name ∈ BIG := mB (tb_p (List.mem_of_getElem? (i := 8) (by decide +kernel))) rfl
theorem k_9 : Cond.selects RX6 yX6_labelled yX6_labelled ∈ BIG := mB (tb_p (List.mem_of_getElem? (i := 9) (by decide +kernel))) rfl
theorem k_10 : Cond.selects RX6 yX6_numbered yX6_numbered ∈ BIG := mB (tb_p (List.mem_of_getElem? (i := 10) (by decide +kernel))) rfl
theorem k_11 : Cond.selects RX6 yX6_closing yX6_closing ∈ BIG := mB (tb_p (List.mem_of_getElem? (i := 11) (by decide +kernel))) rfl
theorem k_12 : Cond.selects RX6 yX6_taken yX6_taken ∈ BIG := mB (tb_p (List.mem_of_getElem? (i := 12) (by decide +kernel))) rfl
theorem k_13 : Cond.selects RX6 yX6_coatLine yX6_coatLine ∈ BIG := mB (tb_p (List.mem_of_getElem? (i := 13) (by decide +kernel))) rfl
theorem k_14 : Cond.selects RX6 yX6_opened yX6_opened ∈ BIG := mB (tb_p (List.mem_of_getElem? (i := 14) (by decide +kernel))) rfl
theorem k_15 : Cond.selects RX6 yX6_expression yX6_expression ∈ BIG := mB (tb_p (List.mem_of_getElem? (i := 15) (by decide +kernel))) rfl
theorem k_16 : Cond.selects RX6 yX6_unit yX6_unit ∈ BIG := mB (tb_p (List.mem_of_getElem? (i := 16) (by decide +kernel))) rfl
theorem k_17 : Cond.selects RX6 yX6_negation yX6_negation ∈ BIG := mB (tb_p (List.mem_of_getElem? (i := 17) (by decide +kernel))) rfl
theorem k_18 : Cond.selects RX6 yX6_settingLine yX6_settingLine ∈ BIG := mB (tb_p (List.mem_of_getElem? (i := 18) (by decide +kernel))) rfl
theorem k_19 : Cond.selects RX5 yX5_forgetActs yX5_forgetActs ∈ BIG := mB (tb_p (List.mem_of_getElem? (i := 19) (by decide +kernel))) rfl
theorem k_20 : Cond.selects RX1 yX1_weather yX1_weather ∈ BIG := mB (tb_p (List.mem_of_getElem? (i := 20) (by decide +kernel))) rfl
theorem k_21 : Cond.selects RX10 yX10_widen yX10_widen ∈ BIG := mB (tb_p (List.mem_of_getElem? (i := 21) (by decide +kernel))) rfl
theorem k_22 : Cond.selects RX0 yX0_reckonGains yX0_reckonGains ∈ BIG := mB (tb_p (List.mem_of_getElem? (i := 22) (by decide +kernel))) rfl
theorem k_23 : Cond.selects RX0 yX0_reckonBest yX0_reckonBest ∈ BIG := mB (tb_p (List.mem_of_getElem? (i := 23) (by decide +kernel))) rfl
theorem k_24 : Cond.selects RX0 yX0_worthOf yX0_worthOf ∈ BIG := mB (tb_p (List.mem_of_getElem? (i := 24) (by decide +kernel))) rfl
theorem k_25 : Cond.selects RX0 yX0_firstBest yX0_firstBest ∈ BIG := mB (tb_p (List.mem_of_getElem? (i := 25) (by decide +kernel))) rfl
theorem k_26 : Cond.selects RX0 yX0_lay yX0_lay ∈ BIG := mB (tb_p (List.mem_of_getElem? (i := 26) (by decide +kernel))) rfl
theorem k_27 : Cond.selects RX3 yX3_sewnFits yX3_sewnFits ∈ BIG := mB (tb_p (List.mem_of_getElem? (i := 27) (by decide +kernel))) rfl
theorem k_28 : Cond.selects RX3 yX3_rotaCount yX3_rotaCount ∈ BIG := mB (tb_p (List.mem_of_getElem? (i := 28) (by decide +kernel))) rfl
theorem k_29 : Cond.selects RX3 yX3_changedCount yX3_changedCount ∈ BIG := mB (tb_p (List.mem_of_getElem? (i := 29) (by decide +kernel))) rfl
theorem k_30 : Cond.selects RX2 yX2_isEvener yX2_isEvener ∈ BIG := mB (tb_p (List.mem_of_getElem? (i := 30) (by decide +kernel))) rfl
theorem k_31 : Cond.selects RX2 yX2_leastLength yX2_leastLength ∈ BIG := mB (tb_p (List.mem_of_getElem? (i := 31) (by decide +kernel))) rfl
theorem k_32 : Cond.selects RX2 yX2_rowLength yX2_rowLength ∈ BIG := mB (tb_p (List.mem_of_getElem? (i := 32) (by decide +kernel))) rfl
theorem k_33 : Cond.selects RX0 yX0_painted yX0_painted ∈ BIG := mB (tb_p (List.mem_of_getElem? (i := 33) (by decide +kernel))) rfl
theorem k_34 : Cond.selects RX0 yX0_isClear yX0_isClear ∈ BIG := mB (tb_p (List.mem_of_getElem? (i := 34) (by decide +kernel))) rfl
theorem k_35 : Cond.selects RX0 yX0_isFree yX0_isFree ∈ BIG := mB (tb_p (List.mem_of_getElem? (i := 35) (by decide +kernel))) rfl
theorem k_36 : Cond.selects RX0 yX0_isContent yX0_isContent ∈ BIG := mB (tb_p (List.mem_of_getElem? (i := 36) (by decide +kernel))) rfl
theorem k_37 : Cond.selects RX0 yX0_illGetting yX0_illGetting ∈ BIG := mB (tb_p (List.mem_of_getElem? (i := 37) (by decide +kernel))) rfl
theorem k_38 : Cond.selects RX8 yX8_fittingBehind yX8_fittingBehind ∈ BIG := mB (tb_p (List.mem_of_getElem? (i := 38) (by decide +kernel))) rfl
theorem k_39 : Cond.selects RX8 yX8_fitsGrown yX8_fitsGrown ∈ BIG := mB (tb_p (List.mem_of_getElem? (i := 39) (by decide +kernel))) rfl
theorem k_40 : Cond.selects RX11 yX11_four yX11_four ∈ BIG := mB (tb_p (List.mem_of_getElem? (i := 40) (by decide +kernel))) rfl
theorem k_41 : Cond.selects RX11 yX11_readAll yX11_readAll ∈ BIG := mB (tb_p (List.mem_of_getElem? (i := 41) (by decide +kernel))) rfl
theorem k_42 : Cond.selects RX11 yX11_token yX11_token ∈ BIG := mB (tb_p (List.mem_of_getElem? (i := 42) (by decide +kernel))) rfl
theorem k_43 : Cond.selects RX11 yX11_here yX11_here ∈ BIG := mB (tb_p (List.mem_of_getElem? (i := 43) (by decide +kernel))) rfl
theorem k_44 : Cond.selects RX11 yX11_readLine yX11_readLine ∈ BIG := mB (tb_p (List.mem_of_getElem? (i := 44) (by decide +kernel))) rfl
theorem k_45 : Cond.selects RX11 yX11_isWord yX11_isWord ∈ BIG := mB (tb_p (List.mem_of_getElem? (i := 45) (by decide +kernel))) rfl
theorem k_46 : Cond.selects RX11 yX11_readMan yX11_readMan ∈ BIG := mB (tb_p (List.mem_of_getElem? (i := 46) (by decide +kernel))) rfl
theorem k_47 : Cond.selects RX11 yX11_newName yX11_newName ∈ BIG := mB (tb_p (List.mem_of_getElem? (i := 47) (by decide +kernel))) rfl
theorem k_48 : Cond.selects RX11 yX11_isName yX11_isName ∈ BIG := mB (tb_p (List.mem_of_getElem? (i := 48) (by decide +kernel))) rfl
theorem k_49 : Cond.selects RX11 yX11_isOwn yX11_isOwn ∈ BIG := mB (tb_p (List.mem_of_getElem? (i := 49) (by decide +kernel))) rfl
theorem k_50 : Cond.selects RX11 yX11_wrong yX11_wrong ∈ BIG := mB (tb_p (List.mem_of_getElem? (i := 50) (by decide +kernel))) rfl
theorem k_51 : Cond.selects RX11 yX11_told yX11_told ∈ BIG := mB (tb_p (List.mem_of_getElem? (i := 51) (by decide +kernel))) rfl
theorem k_52 : Cond.selects RX11 yX11_want yX11_want ∈ BIG := mB (tb_p (List.mem_of_getElem? (i := 52) (by decide +kernel))) rfl
theorem k_53 : Cond.selects RX11 yX11_toldNumber yX11_toldNumber ∈ BIG := mB (tb_p (List.mem_of_getElem? (i := 53) (by decide +kernel))) rfl
theorem k_54 : Cond.selects RX11 yX11_option yX11_option ∈ BIG := mB (tb_p (List.mem_of_getElem? (i := 54) (by decide +kernel))) rfl
theorem k_55 : Cond.selects RX11 yX11_readCoat yX11_readCoat ∈ BIG := mB (tb_p (List.mem_of_getElem? (i := 55) (by decide +kernel))) rfl
theorem k_56 : Cond.selects RX11 yX11_formula yX11_formula ∈ BIG := mB (tb_p (List.mem_of_getElem? (i := 56) (by decide +kernel))) rfl
theorem k_57 : Cond.selects RX11 yX11_unit yX11_unit ∈ BIG := mB (tb_p (List.mem_of_getElem? (i := 57) (by decide +kernel))) rfl
theorem k_58 : Cond.selects RX11 yX11_mayNot yX11_mayNot ∈ BIG := mB (tb_p (List.mem_of_getElem? (i := 58) (by decide +kernel))) rfl
theorem k_59 : Cond.selects RX11 yX11_openUp yX11_openUp ∈ BIG := mB (tb_p (List.mem_of_getElem? (i := 59) (by decide +kernel))) rfl
theorem k_60 : Cond.selects RX11 yX11_isFull yX11_isFull ∈ BIG := mB (tb_p (List.mem_of_getElem? (i := 60) (by decide +kernel))) rfl
theorem k_61 : Cond.selects RX11 yX11_countUnit yX11_countUnit ∈ BIG := mB (tb_p (List.mem_of_getElem? (i := 61) (by decide +kernel))) rfl
theorem k_62 : Cond.selects RX11 yX11_asked yX11_asked ∈ BIG := mB (tb_p (List.mem_of_getElem? (i := 62) (by decide +kernel))) rfl
theorem k_63 : Cond.selects RX11 yX11_add yX11_add ∈ BIG := mB (tb_p (List.mem_of_getElem? (i := 63) (by decide +kernel))) rfl
theorem k_64 : Cond.selects RX11 yX11_sign yX11_sign ∈ BIG := mB (tb_p (List.mem_of_getElem? (i := 64) (by decide +kernel))) rfl
theorem k_65 : Cond.selects RX11 yX11_hasBracket yX11_hasBracket ∈ BIG := mB (tb_p (List.mem_of_getElem? (i := 65) (by decide +kernel))) rfl
theorem k_66 : Cond.selects RX11 yX11_close yX11_close ∈ BIG := mB (tb_p (List.mem_of_getElem? (i := 66) (by decide +kernel))) rfl
theorem k_67 : Cond.selects RX11 yX11_hasRelation yX11_hasRelation ∈ BIG := mB (tb_p (List.mem_of_getElem? (i := 67) (by decide +kernel))) rfl
theorem k_68 : Cond.selects RX11 yX11_begin yX11_begin ∈ BIG := mB (tb_p (List.mem_of_getElem? (i := 68) (by decide +kernel))) rfl
theorem k_69 : Cond.selects RX11 yX11_keepAir yX11_keepAir ∈ BIG := mB (tb_p (List.mem_of_getElem? (i := 69) (by decide +kernel))) rfl
theorem k_70 : Cond.selects RX11 yX11_isMan yX11_isMan ∈ BIG := mB (tb_p (List.mem_of_getElem? (i := 70) (by decide +kernel))) rfl
theorem k_71 : Cond.selects RX11 yX11_fill yX11_fill ∈ BIG := mB (tb_p (List.mem_of_getElem? (i := 71) (by decide +kernel))) rfl
theorem k_72 : Cond.selects RX11 yX11_coatsFor yX11_coatsFor ∈ BIG := mB (tb_p (List.mem_of_getElem? (i := 72) (by decide +kernel))) rfl
theorem k_73 : Cond.selects RX11 yX11_fits yX11_fits ∈ BIG := mB (tb_p (List.mem_of_getElem? (i := 73) (by decide +kernel))) rfl
theorem k_74 : Cond.selects RX11 yX11_misfitOf yX11_misfitOf ∈ BIG := mB (tb_p (List.mem_of_getElem? (i := 74) (by decide +kernel))) rfl
theorem k_75 : Cond.selects RX11 yX11_isCoat yX11_isCoat ∈ BIG := mB (tb_p (List.mem_of_getElem? (i := 75) (by decide +kernel))) rfl
theorem k_76 : Cond.selects RX11 yX11_wearer yX11_wearer ∈ BIG := mB (tb_p (List.mem_of_getElem? (i := 76) (by decide +kernel))) rfl
theorem k_77 : Cond.selects RX11 yX11_act yX11_act ∈ BIG := mB (tb_p (List.mem_of_getElem? (i := 77) (by decide +kernel))) rfl
theorem k_78 : Cond.selects RX11 yX11_drawRain yX11_drawRain ∈ BIG := mB (tb_p (List.mem_of_getElem? (i := 78) (by decide +kernel))) rfl
theorem k_79 : Cond.selects RX11 yX11_goDay yX11_goDay ∈ BIG := mB (tb_p (List.mem_of_getElem? (i := 79) (by decide +kernel))) rfl
theorem k_80 : Cond.selects RX11 yX11_wearers yX11_wearers ∈ BIG := mB (tb_p (List.mem_of_getElem? (i := 80) (by decide +kernel))) rfl
theorem k_81 : Cond.selects RX11 yX11_fittedOnes yX11_fittedOnes ∈ BIG := mB (tb_p (List.mem_of_getElem? (i := 81) (by decide +kernel))) rfl
theorem k_82 : Cond.selects RX11 yX11_fitsOwn yX11_fitsOwn ∈ BIG := mB (tb_p (List.mem_of_getElem? (i := 82) (by decide +kernel))) rfl
theorem k_83 : Cond.selects RX11 yX11_exchange yX11_exchange ∈ BIG := mB (tb_p (List.mem_of_getElem? (i := 83) (by decide +kernel))) rfl
theorem k_84 : Cond.selects RX11 yX11_layIlls yX11_layIlls ∈ BIG := mB (tb_p (List.mem_of_getElem? (i := 84) (by decide +kernel))) rfl
theorem k_85 : Cond.selects RX11 yX11_layDress yX11_layDress ∈ BIG := mB (tb_p (List.mem_of_getElem? (i := 85) (by decide +kernel))) rfl
theorem k_86 : Cond.selects RX11 yX11_illOfRow yX11_illOfRow ∈ BIG := mB (tb_p (List.mem_of_getElem? (i := 86) (by decide +kernel))) rfl
theorem k_87 : Cond.selects RX11 yX11_isSewn yX11_isSewn ∈ BIG := mB (tb_p (List.mem_of_getElem? (i := 87) (by decide +kernel))) rfl
theorem k_88 : Cond.selects RX11 yX11_wideOf yX11_wideOf ∈ BIG := mB (tb_p (List.mem_of_getElem? (i := 88) (by decide +kernel))) rfl
theorem k_89 : Cond.selects RX11 yX11_rowOf yX11_rowOf ∈ BIG := mB (tb_p (List.mem_of_getElem? (i := 89) (by decide +kernel))) rfl
theorem k_90 : Cond.selects RX11 yX11_layColours yX11_layColours ∈ BIG := mB (tb_p (List.mem_of_getElem? (i := 90) (by decide +kernel))) rfl
theorem k_91 : Cond.selects RX11 yX11_areTaken yX11_areTaken ∈ BIG := mB (tb_p (List.mem_of_getElem? (i := 91) (by decide +kernel))) rfl
theorem k_92 : Cond.selects RX11 yX11_freeCoats yX11_freeCoats ∈ BIG := mB (tb_p (List.mem_of_getElem? (i := 92) (by decide +kernel))) rfl
theorem k_93 : Cond.selects RX11 yX11_isRest yX11_isRest ∈ BIG := mB (tb_p (List.mem_of_getElem? (i := 93) (by decide +kernel))) rfl
theorem k_94 : Cond.selects RX11 yX11_reached yX11_reached ∈ BIG := mB (tb_p (List.mem_of_getElem? (i := 94) (by decide +kernel))) rfl
theorem k_95 : Cond.selects RX11 yX11_menFor yX11_menFor ∈ BIG := mB (tb_p (List.mem_of_getElem? (i := 95) (by decide +kernel))) rfl
theorem k_96 : Cond.selects RX11 yX11_ownIll yX11_ownIll ∈ BIG := mB (tb_p (List.mem_of_getElem? (i := 96) (by decide +kernel))) rfl
theorem k_97 : Cond.selects RX11 yX11_layGrowths yX11_layGrowths ∈ BIG := mB (tb_p (List.mem_of_getElem? (i := 97) (by decide +kernel))) rfl
theorem k_98 : Cond.selects RX11 yX11_fitsGrowth yX11_fitsGrowth ∈ BIG := mB (tb_p (List.mem_of_getElem? (i := 98) (by decide +kernel))) rfl
theorem k_99 : Cond.selects RX11 yX11_leftBy yX11_leftBy ∈ BIG := mB (tb_p (List.mem_of_getElem? (i := 99) (by decide +kernel))) rfl
theorem k_100 : Cond.initialized RL ∈ BIG := mB (tb_0 (List.Mem.head _)) rfl
theorem k_101 : Cond.initialized RX10 ∈ BIG := mB (tb_0 (mt1 (List.Mem.head _))) rfl
theorem k_102 : Cond.initialized RX9 ∈ BIG := mB (tb_0 (mt1 (mt1 (List.Mem.head _)))) rfl
theorem k_103 : Cond.initialized RX6 ∈ BIG := mB (tb_0 (mt1 (mt1 (mt1 (List.Mem.head _))))) rfl
theorem k_104 : Cond.initialized RX7 ∈ BIG := mB (tb_0 (mt1 (mt1 (mt1 (mt1 (List.Mem.head _)))))) rfl
theorem k_105 : Cond.initialized RX4 ∈ BIG := mB (tb_0 (mt1 (mt1 (mt1 (mt1 (mt1 (List.Mem.head _))))))) rfl
theorem k_106 : Cond.initialized RX1 ∈ BIG := mB (tb_0 (mt1 (mt1 (mt1 (mt1 (mt1 (mt1 (List.Mem.head _)))))))) rfl
theorem k_107 : Cond.initialized RX5 ∈ BIG := mB (tb_0 (mt1 (mt1 (mt1 (mt1 (mt1 (mt1 (mt1 (List.Mem.head _))))))))) rfl
theorem k_108 : Cond.initialized RJ10 ∈ BIG := mB (tb_0 (mt8 (List.Mem.head _))) rfl
theorem k_109 : Cond.initialized RX3 ∈ BIG := mB (tb_0 (mt8 (mt1 (List.Mem.head _)))) rfl
theorem k_110 : Cond.initialized RX2 ∈ BIG := mB (tb_0 (mt8 (mt1 (mt1 (List.Mem.head _))))) rfl
theorem k_111 : Cond.initialized RX0 ∈ BIG := mB (tb_0 (mt8 (mt1 (mt1 (mt1 (List.Mem.head _)))))) rfl
theorem k_112 : Cond.initialized RX8 ∈ BIG := mB (tb_0 (mt8 (mt1 (mt1 (mt1 (mt1 (List.Mem.head _))))))) rfl
theorem k_113 : Cond.initialized RJ7 ∈ BIG := mB (tb_0 (mt8 (mt1 (mt1 (mt1 (mt1 (mt1 (List.Mem.head _)))))))) rfl
theorem k_114 : Cond.initialized RX11 ∈ BIG := mB (tb_0 (mt8 (mt1 (mt1 (mt1 (mt1 (mt1 (mt1 (List.Mem.head _))))))))) rfl
theorem k_115 : Cond.initialized RJ0 ∈ BIG := mB (tb_0 (mt8 (mt1 (mt1 (mt1 (mt1 (mt1 (mt1 (mt1 (List.Mem.head _)))))))))) rfl
theorem k_116 : Cond.initialized RJ1 ∈ BIG := mB (tb_0 (mt8 (mt8 (List.Mem.head _)))) rfl
theorem k_117 : Cond.initialized RJ3 ∈ BIG := mB (tb_0 (mt8 (mt8 (mt1 (List.Mem.head _))))) rfl
theorem k_118 : Cond.initialized RJ2 ∈ BIG := mB (tb_0 (mt8 (mt8 (mt1 (mt1 (List.Mem.head _)))))) rfl
theorem k_119 : Cond.initialized RJ9 ∈ BIG := mB (tb_0 (mt8 (mt8 (mt1 (mt1 (mt1 (List.Mem.head _))))))) rfl
theorem k_120 : Cond.initialized RJ11 ∈ BIG := mB (tb_0 (mt8 (mt8 (mt1 (mt1 (mt1 (mt1 (List.Mem.head _)))))))) rfl
theorem k_121 : Cond.initialized RJ6 ∈ BIG := mB (tb_0 (mt8 (mt8 (mt1 (mt1 (mt1 (mt1 (mt1 (List.Mem.head _))))))))) rfl
theorem k_122 : Cond.classLink RL 7 RX10 ∈ BIG := mB (tb_0 (mt8 (mt8 (mt1 (mt1 (mt1 (mt1 (mt1 (mt1 (List.Mem.head _)))))))))) rfl
theorem k_123 : Cond.instantiable RX10 10 ∈ BIG := mB (tb_0 (mt8 (mt8 (mt1 (mt1 (mt1 (mt1 (mt1 (mt1 (mt1 (List.Mem.head _))))))))))) rfl
theorem k_124 : Cond.methodLink RL 9 yX10_init ∈ BIG := mB (tb_0 (mt8 (mt8 (mt8 (List.Mem.head _))))) rfl
theorem k_125 : Cond.instanceMethod yX10_init ∈ BIG := mB (tb_0 (mt8 (mt8 (mt8 (mt1 (List.Mem.head _)))))) rfl
theorem k_126 : Cond.code yX10_init cX10_init 1 none ∈ BIG := mB (tb_0 (mt8 (mt8 (mt8 (mt1 (mt1 (List.Mem.head _))))))) rfl
theorem k_127 : Cond.methodLink RX10 1 Lib.objectInit ∈ BIG := mB (tb_0 (mt8 (mt8 (mt8 (mt1 (mt1 (mt1 (List.Mem.head _)))))))) rfl
theorem k_128 : Cond.instanceMethod Lib.objectInit ∈ BIG := mB (tb_0 (mt8 (mt8 (mt8 (mt1 (mt1 (mt1 (mt1 (List.Mem.head _))))))))) rfl
theorem k_129 : Cond.code Lib.objectInit ⟨#[0xb1]⟩ 1 none ∈ BIG := mB (tb_0 (mt8 (mt8 (mt8 (mt1 (mt1 (mt1 (mt1 (mt1 (List.Mem.head _)))))))))) rfl
theorem k_130 : Cond.classLink RX10 7 RX9 ∈ BIG := mB (tb_0 (mt8 (mt8 (mt8 (mt1 (mt1 (mt1 (mt1 (mt1 (mt1 (List.Mem.head _))))))))))) rfl
theorem k_131 : Cond.instantiable RX9 6 ∈ BIG := mB (tb_0 (mt8 (mt8 (mt8 (mt1 (mt1 (mt1 (mt1 (mt1 (mt1 (mt1 (List.Mem.head _)))))))))))) rfl
theorem k_132 : Cond.methodLinkNest RX10 9 yX9_init "TailorRegiment" ∈ NST := mN (tb_0 (mt8 (mt8 (mt8 (mt8 (List.Mem.head _)))))) rfl
theorem k_133 : Cond.instanceMethod yX9_init ∈ BIG := mB (tb_0 (mt8 (mt8 (mt8 (mt8 (mt1 (List.Mem.head _))))))) rfl
theorem k_134 : Cond.code yX9_init cX9_init 1 none ∈ BIG := mB (tb_0 (mt8 (mt8 (mt8 (mt8 (mt1 (mt1 (List.Mem.head _)))))))) rfl
theorem k_135 : Cond.methodLink RX9 3 Lib.objectInit ∈ BIG := mB (tb_0 (mt8 (mt8 (mt8 (mt8 (mt1 (mt1 (mt1 (List.Mem.head _))))))))) rfl
theorem k_136 : Cond.fieldLink RX9 9 RX9 "bytes" "[B" ∈ BIG := mB (tb_0 (mt8 (mt8 (mt8 (mt8 (mt1 (mt1 (mt1 (mt1 (List.Mem.head _)))))))))) rfl
theorem k_137 : Cond.fieldLink RX9 15 RX9 "size" "I" ∈ BIG := mB (tb_0 (mt8 (mt8 (mt8 (mt8 (mt1 (mt1 (mt1 (mt1 (mt1 (List.Mem.head _))))))))))) rfl
theorem k_138 : Cond.fieldLinkNest RX10 88 RX9 "size" "I" "TailorRegiment" ∈ NST := mN (tb_0 (mt8 (mt8 (mt8 (mt8 (mt1 (mt1 (mt1 (mt1 (mt1 (mt1 (List.Mem.head _)))))))))))) rfl
theorem k_139 : Cond.fieldLinkNest RX6 47 RX9 "kind" "I" "TailorRegiment" ∈ NST := mN (tb_0 (mt8 (mt8 (mt8 (mt8 (mt1 (mt1 (mt1 (mt1 (mt1 (mt1 (mt1 (List.Mem.head _))))))))))))) rfl
theorem k_140 : Cond.fieldLink RX9 28 RX9 "kind" "I" ∈ BIG := mB (tb_0 (mt8 (mt8 (mt8 (mt8 (mt8 (List.Mem.head _))))))) rfl
theorem k_141 : Cond.fieldLink RX9 25 RX9 "place" "I" ∈ BIG := mB (tb_0 (mt8 (mt8 (mt8 (mt8 (mt8 (mt1 (List.Mem.head _)))))))) rfl
theorem k_142 : Cond.fieldLinkNest RX6 80 RX9 "place" "I" "TailorRegiment" ∈ NST := mN (tb_0 (mt8 (mt8 (mt8 (mt8 (mt8 (mt1 (mt1 (List.Mem.head _))))))))) rfl
theorem k_143 : Cond.fieldLink RX9 19 RX9 "behind" "I" ∈ BIG := mB (tb_0 (mt8 (mt8 (mt8 (mt8 (mt8 (mt1 (mt1 (mt1 (List.Mem.head _)))))))))) rfl
theorem k_144 : Cond.fieldLink RX9 42 RX9 "number" "I" ∈ BIG := mB (tb_0 (mt8 (mt8 (mt8 (mt8 (mt8 (mt1 (mt1 (mt1 (mt1 (List.Mem.head _))))))))))) rfl
theorem k_145 : Cond.fieldLinkNest RX6 118 RX9 "number" "I" "TailorRegiment" ∈ NST := mN (tb_0 (mt8 (mt8 (mt8 (mt8 (mt8 (mt1 (mt1 (mt1 (mt1 (mt1 (List.Mem.head _)))))))))))) rfl
theorem k_159 : Cond.arrayClass .byte ∈ BIG := mB (tb_0 (mt8 (mt8 (mt8 (mt8 (mt8 (mt8 (mt8 (mt1 (mt1 (mt1 (List.Mem.head _)))))))))))) rfl
theorem k_160 : Cond.classLink RX10 16 RX6 ∈ BIG := mB (tb_0 (mt8 (mt8 (mt8 (mt8 (mt8 (mt8 (mt8 (mt1 (mt1 (mt1 (mt1 (List.Mem.head _))))))))))))) rfl
theorem k_161 : Cond.instantiable RX6 7 ∈ BIG := mB (tb_0 (mt8 (mt8 (mt8 (mt8 (mt8 (mt8 (mt8 (mt1 (mt1 (mt1 (mt1 (mt1 (List.Mem.head _)))))))))))))) rfl
theorem k_162 : Cond.methodLink RX10 18 yX6_init ∈ BIG := mB (tb_0 (mt8 (mt8 (mt8 (mt8 (mt8 (mt8 (mt8 (mt1 (mt1 (mt1 (mt1 (mt1 (mt1 (List.Mem.head _))))))))))))))) rfl
theorem k_163 : Cond.instanceMethod yX6_init ∈ BIG := mB (tb_0 (mt8 (mt8 (mt8 (mt8 (mt8 (mt8 (mt8 (mt1 (mt1 (mt1 (mt1 (mt1 (mt1 (mt1 (List.Mem.head _)))))))))))))))) rfl
theorem k_164 : Cond.code yX6_init cX6_init 2 none ∈ BIG := mB (tb_0 (mt8 (mt8 (mt8 (mt8 (mt8 (mt8 (mt8 (mt8 (List.Mem.head _)))))))))) rfl
theorem k_165 : Cond.methodLink RX6 3 Lib.objectInit ∈ BIG := mB (tb_0 (mt8 (mt8 (mt8 (mt8 (mt8 (mt8 (mt8 (mt8 (mt1 (List.Mem.head _))))))))))) rfl
theorem k_166 : Cond.classLink RX6 9 RX7 ∈ BIG := mB (tb_0 (mt8 (mt8 (mt8 (mt8 (mt8 (mt8 (mt8 (mt8 (mt1 (mt1 (List.Mem.head _)))))))))))) rfl
theorem k_167 : Cond.instantiable RX7 10 ∈ BIG := mB (tb_0 (mt8 (mt8 (mt8 (mt8 (mt8 (mt8 (mt8 (mt8 (mt1 (mt1 (mt1 (List.Mem.head _))))))))))))) rfl
theorem k_168 : Cond.methodLink RX6 11 yX7_init ∈ BIG := mB (tb_0 (mt8 (mt8 (mt8 (mt8 (mt8 (mt8 (mt8 (mt8 (mt1 (mt1 (mt1 (mt1 (List.Mem.head _)))))))))))))) rfl
theorem k_169 : Cond.instanceMethod yX7_init ∈ BIG := mB (tb_0 (mt8 (mt8 (mt8 (mt8 (mt8 (mt8 (mt8 (mt8 (mt1 (mt1 (mt1 (mt1 (mt1 (List.Mem.head _))))))))))))))) rfl
theorem k_170 : Cond.code yX7_init cX7_init 1 none ∈ BIG := mB (tb_0 (mt8 (mt8 (mt8 (mt8 (mt8 (mt8 (mt8 (mt8 (mt1 (mt1 (mt1 (mt1 (mt1 (mt1 (List.Mem.head _)))))))))))))))) rfl
theorem k_171 : Cond.methodLink RX7 3 Lib.objectInit ∈ BIG := mB (tb_0 (mt8 (mt8 (mt8 (mt8 (mt8 (mt8 (mt8 (mt8 (mt1 (mt1 (mt1 (mt1 (mt1 (mt1 (mt1 (List.Mem.head _))))))))))))))))) rfl
theorem k_172 : Cond.classLink RX7 18 RX4 ∈ BIG := mB (tb_0 (mt8 (mt8 (mt8 (mt8 (mt8 (mt8 (mt8 (mt8 (mt8 (List.Mem.head _))))))))))) rfl
theorem k_173 : Cond.instantiable RX4 6 ∈ BIG := mB (tb_0 (mt8 (mt8 (mt8 (mt8 (mt8 (mt8 (mt8 (mt8 (mt8 (mt1 (List.Mem.head _)))))))))))) rfl
theorem k_174 : Cond.methodLinkNest RX7 20 yX4_init "TailorRegiment" ∈ NST := mN (tb_0 (mt8 (mt8 (mt8 (mt8 (mt8 (mt8 (mt8 (mt8 (mt8 (mt1 (mt1 (List.Mem.head _))))))))))))) rfl
theorem k_175 : Cond.instanceMethod yX4_init ∈ BIG := mB (tb_0 (mt8 (mt8 (mt8 (mt8 (mt8 (mt8 (mt8 (mt8 (mt8 (mt1 (mt1 (mt1 (List.Mem.head _)))))))))))))) rfl
theorem k_176 : Cond.code yX4_init cX4_init 1 none ∈ BIG := mB (tb_0 (mt8 (mt8 (mt8 (mt8 (mt8 (mt8 (mt8 (mt8 (mt8 (mt1 (mt1 (mt1 (mt1 (List.Mem.head _))))))))))))))) rfl
theorem k_177 : Cond.methodLink RX4 3 Lib.objectInit ∈ BIG := mB (tb_0 (mt8 (mt8 (mt8 (mt8 (mt8 (mt8 (mt8 (mt8 (mt8 (mt1 (mt1 (mt1 (mt1 (mt1 (List.Mem.head _)))))))))))))))) rfl
theorem k_178 : Cond.fieldLink RX4 11 RX4 "kinds" "[I" ∈ BIG := mB (tb_0 (mt8 (mt8 (mt8 (mt8 (mt8 (mt8 (mt8 (mt8 (mt8 (mt1 (mt1 (mt1 (mt1 (mt1 (mt1 (List.Mem.head _))))))))))))))))) rfl
theorem k_179 : Cond.fieldLink RX4 15 RX4 "numbers" "[I" ∈ BIG := mB (tb_0 (mt8 (mt8 (mt8 (mt8 (mt8 (mt8 (mt8 (mt8 (mt8 (mt1 (mt1 (mt1 (mt1 (mt1 (mt1 (mt1 (List.Mem.head _)))))))))))))))))) rfl
theorem k_180 : Cond.fieldLink RX4 18 RX4 "stack" "[I" ∈ BIG := mB (tb_0 (mt8 (mt8 (mt8 (mt8 (mt8 (mt8 (mt8 (mt8 (mt8 (mt8 (List.Mem.head _)))))))))))) rfl
theorem k_181 : Cond.fieldLink RX4 21 RX4 "facts" "[I" ∈ BIG := mB (tb_0 (mt8 (mt8 (mt8 (mt8 (mt8 (mt8 (mt8 (mt8 (mt8 (mt8 (mt1 (List.Mem.head _))))))))))))) rfl
theorem k_182 : Cond.fieldLink RX4 24 RX4 "steps" "I" ∈ BIG := mB (tb_0 (mt8 (mt8 (mt8 (mt8 (mt8 (mt8 (mt8 (mt8 (mt8 (mt8 (mt1 (mt1 (List.Mem.head _)))))))))))))) rfl
theorem k_183 : Cond.fieldLink RX4 28 RX4 "units" "I" ∈ BIG := mB (tb_0 (mt8 (mt8 (mt8 (mt8 (mt8 (mt8 (mt8 (mt8 (mt8 (mt8 (mt1 (mt1 (mt1 (List.Mem.head _))))))))))))))) rfl
theorem k_184 : Cond.fieldLinkNest RX6 143 RX4 "units" "I" "TailorRegiment" ∈ NST := mN (tb_0 (mt8 (mt8 (mt8 (mt8 (mt8 (mt8 (mt8 (mt8 (mt8 (mt8 (mt1 (mt1 (mt1 (mt1 (List.Mem.head _)))))))))))))))) rfl
theorem k_185 : Cond.fieldLinkNest RX10 345 RX4 "units" "I" "TailorRegiment" ∈ NST := mN (tb_0 (mt8 (mt8 (mt8 (mt8 (mt8 (mt8 (mt8 (mt8 (mt8 (mt8 (mt1 (mt1 (mt1 (mt1 (mt1 (List.Mem.head _))))))))))))))))) rfl
theorem k_199 : Cond.arrayClass .int ∈ BIG := mB (tb_0 (mt8 (mt8 (mt8 (mt8 (mt8 (mt8 (mt8 (mt8 (mt8 (mt8 (mt8 (mt8 (mt1 (mt1 (mt1 (List.Mem.head _))))))))))))))))) rfl
theorem k_200 : Cond.methodLink RX7 25 yX7_setDefaults ∈ BIG := mB (tb_0 (mt8 (mt8 (mt8 (mt8 (mt8 (mt8 (mt8 (mt8 (mt8 (mt8 (mt8 (mt8 (mt1 (mt1 (mt1 (mt1 (List.Mem.head _)))))))))))))))))) rfl
theorem k_202 : Cond.instanceMethod yX7_setDefaults ∈ BIG := mB (tb_0 (mt8 (mt8 (mt8 (mt8 (mt8 (mt8 (mt8 (mt8 (mt8 (mt8 (mt8 (mt8 (mt1 (mt1 (mt1 (mt1 (mt1 (mt1 (List.Mem.head _)))))))))))))))))))) rfl
theorem k_203 : Cond.code yX7_setDefaults cX7_setDefaults 1 none ∈ BIG := mB (tb_0 (mt8 (mt8 (mt8 (mt8 (mt8 (mt8 (mt8 (mt8 (mt8 (mt8 (mt8 (mt8 (mt1 (mt1 (mt1 (mt1 (mt1 (mt1 (mt1 (List.Mem.head _))))))))))))))))))))) rfl
theorem k_204 : Cond.fieldLink RX7 9 RX7 "manParts" "[I" ∈ BIG := mB (tb_0 (mt8 (mt8 (mt8 (mt8 (mt8 (mt8 (mt8 (mt8 (mt8 (mt8 (mt8 (mt8 (mt8 (List.Mem.head _))))))))))))))) rfl
theorem k_205 : Cond.fieldLink RX7 15 RX7 "coatParts" "[I" ∈ BIG := mB (tb_0 (mt8 (mt8 (mt8 (mt8 (mt8 (mt8 (mt8 (mt8 (mt8 (mt8 (mt8 (mt8 (mt8 (mt1 (List.Mem.head _)))))))))))))))) rfl
theorem k_206 : Cond.fieldLink RX7 21 RX7 "ill" "LTailorRegiment$Formula;" ∈ BIG := mB (tb_0 (mt8 (mt8 (mt8 (mt8 (mt8 (mt8 (mt8 (mt8 (mt8 (mt8 (mt8 (mt8 (mt8 (mt1 (mt1 (List.Mem.head _))))))))))))))))) rfl
theorem k_207 : Cond.fieldLinkNest RX3 62 RX7 "ill" "LTailorRegiment$Formula;" "TailorRegiment" ∈ NST := mN (tb_0 (mt8 (mt8 (mt8 (mt8 (mt8 (mt8 (mt8 (mt8 (mt8 (mt8 (mt8 (mt8 (mt8 (mt1 (mt1 (mt1 (List.Mem.head _)))))))))))))))))) rfl
theorem k_208 : Cond.fieldLinkNest RX8 71 RX7 "ill" "LTailorRegiment$Formula;" "TailorRegiment" ∈ NST := mN (tb_0 (mt8 (mt8 (mt8 (mt8 (mt8 (mt8 (mt8 (mt8 (mt8 (mt8 (mt8 (mt8 (mt8 (mt1 (mt1 (mt1 (mt1 (List.Mem.head _))))))))))))))))))) rfl
theorem k_209 : Cond.fieldLinkNest RX1 55 RX7 "ill" "LTailorRegiment$Formula;" "TailorRegiment" ∈ NST := mN (tb_0 (mt8 (mt8 (mt8 (mt8 (mt8 (mt8 (mt8 (mt8 (mt8 (mt8 (mt8 (mt8 (mt8 (mt1 (mt1 (mt1 (mt1 (mt1 (List.Mem.head _)))))))))))))))))))) rfl
theorem k_210 : Cond.fieldLinkNest RX6 134 RX7 "ill" "LTailorRegiment$Formula;" "TailorRegiment" ∈ NST := mN (tb_0 (mt8 (mt8 (mt8 (mt8 (mt8 (mt8 (mt8 (mt8 (mt8 (mt8 (mt8 (mt8 (mt8 (mt1 (mt1 (mt1 (mt1 (mt1 (mt1 (List.Mem.head _))))))))))))))))))))) rfl
theorem k_211 : Cond.fieldLinkNest RX10 341 RX7 "ill" "LTailorRegiment$Formula;" "TailorRegiment" ∈ NST := mN (tb_0 (mt8 (mt8 (mt8 (mt8 (mt8 (mt8 (mt8 (mt8 (mt8 (mt8 (mt8 (mt8 (mt8 (mt1 (mt1 (mt1 (mt1 (mt1 (mt1 (mt1 (List.Mem.head _)))))))))))))))))))))) rfl
theorem k_212 : Cond.fieldLink RX7 28 RX7 "men" "I" ∈ BIG := mB (tb_0 (mt8 (mt8 (mt8 (mt8 (mt8 (mt8 (mt8 (mt8 (mt8 (mt8 (mt8 (mt8 (mt8 (mt8 (List.Mem.head _)))))))))))))))) rfl
theorem k_213 : Cond.fieldLinkNest RX2 23 RX7 "men" "I" "TailorRegiment" ∈ NST := mN (tb_0 (mt8 (mt8 (mt8 (mt8 (mt8 (mt8 (mt8 (mt8 (mt8 (mt8 (mt8 (mt8 (mt8 (mt8 (mt1 (List.Mem.head _))))))))))))))))) rfl
theorem k_214 : Cond.fieldLinkNest RX10 111 RX7 "men" "I" "TailorRegiment" ∈ NST := mN (tb_0 (mt8 (mt8 (mt8 (mt8 (mt8 (mt8 (mt8 (mt8 (mt8 (mt8 (mt8 (mt8 (mt8 (mt8 (mt1 (mt1 (List.Mem.head _)))))))))))))))))) rfl
theorem k_215 : Cond.fieldLinkNest RX8 42 RX7 "men" "I" "TailorRegiment" ∈ NST := mN (tb_0 (mt8 (mt8 (mt8 (mt8 (mt8 (mt8 (mt8 (mt8 (mt8 (mt8 (mt8 (mt8 (mt8 (mt8 (mt1 (mt1 (mt1 (List.Mem.head _))))))))))))))))))) rfl
theorem k_216 : Cond.fieldLinkNest RX0 48 RX7 "men" "I" "TailorRegiment" ∈ NST := mN (tb_0 (mt8 (mt8 (mt8 (mt8 (mt8 (mt8 (mt8 (mt8 (mt8 (mt8 (mt8 (mt8 (mt8 (mt8 (mt1 (mt1 (mt1 (mt1 (List.Mem.head _)))))))))))))))))))) rfl
theorem k_217 : Cond.fieldLinkNest RX3 92 RX7 "men" "I" "TailorRegiment" ∈ NST := mN (tb_0 (mt8 (mt8 (mt8 (mt8 (mt8 (mt8 (mt8 (mt8 (mt8 (mt8 (mt8 (mt8 (mt8 (mt8 (mt1 (mt1 (mt1 (mt1 (mt1 (List.Mem.head _))))))))))))))))))))) rfl
theorem k_218 : Cond.fieldLinkNest RX6 89 RX7 "men" "I" "TailorRegiment" ∈ NST := mN (tb_0 (mt8 (mt8 (mt8 (mt8 (mt8 (mt8 (mt8 (mt8 (mt8 (mt8 (mt8 (mt8 (mt8 (mt8 (mt1 (mt1 (mt1 (mt1 (mt1 (mt1 (List.Mem.head _)))))))))))))))))))))) rfl
theorem k_219 : Cond.fieldLinkNest RX1 48 RX7 "men" "I" "TailorRegiment" ∈ NST := mN (tb_0 (mt8 (mt8 (mt8 (mt8 (mt8 (mt8 (mt8 (mt8 (mt8 (mt8 (mt8 (mt8 (mt8 (mt8 (mt1 (mt1 (mt1 (mt1 (mt1 (mt1 (mt1 (List.Mem.head _))))))))))))))))))))))) rfl
theorem k_220 : Cond.fieldLink RX7 32 RX7 "coats" "I" ∈ BIG := mB (tb_0 (mt8 (mt8 (mt8 (mt8 (mt8 (mt8 (mt8 (mt8 (mt8 (mt8 (mt8 (mt8 (mt8 (mt8 (mt8 (List.Mem.head _))))))))))))))))) rfl
theorem k_221 : Cond.fieldLinkNest RX8 47 RX7 "coats" "I" "TailorRegiment" ∈ NST := mN (tb_0 (mt8 (mt8 (mt8 (mt8 (mt8 (mt8 (mt8 (mt8 (mt8 (mt8 (mt8 (mt8 (mt8 (mt8 (mt8 (mt1 (List.Mem.head _)))))))))))))))))) rfl
theorem k_222 : Cond.fieldLinkNest RX0 66 RX7 "coats" "I" "TailorRegiment" ∈ NST := mN (tb_0 (mt8 (mt8 (mt8 (mt8 (mt8 (mt8 (mt8 (mt8 (mt8 (mt8 (mt8 (mt8 (mt8 (mt8 (mt8 (mt1 (mt1 (List.Mem.head _))))))))))))))))))) rfl
theorem k_223 : Cond.fieldLinkNest RX2 66 RX7 "coats" "I" "TailorRegiment" ∈ NST := mN (tb_0 (mt8 (mt8 (mt8 (mt8 (mt8 (mt8 (mt8 (mt8 (mt8 (mt8 (mt8 (mt8 (mt8 (mt8 (mt8 (mt1 (mt1 (mt1 (List.Mem.head _)))))))))))))))))))) rfl
theorem k_224 : Cond.fieldLinkNest RX6 104 RX7 "coats" "I" "TailorRegiment" ∈ NST := mN (tb_0 (mt8 (mt8 (mt8 (mt8 (mt8 (mt8 (mt8 (mt8 (mt8 (mt8 (mt8 (mt8 (mt8 (mt8 (mt8 (mt1 (mt1 (mt1 (mt1 (List.Mem.head _))))))))))))))))))))) rfl
theorem k_225 : Cond.fieldLinkNest RX3 122 RX7 "coats" "I" "TailorRegiment" ∈ NST := mN (tb_0 (mt8 (mt8 (mt8 (mt8 (mt8 (mt8 (mt8 (mt8 (mt8 (mt8 (mt8 (mt8 (mt8 (mt8 (mt8 (mt1 (mt1 (mt1 (mt1 (mt1 (List.Mem.head _)))))))))))))))))))))) rfl
theorem k_226 : Cond.fieldLinkNest RX1 81 RX7 "coats" "I" "TailorRegiment" ∈ NST := mN (tb_0 (mt8 (mt8 (mt8 (mt8 (mt8 (mt8 (mt8 (mt8 (mt8 (mt8 (mt8 (mt8 (mt8 (mt8 (mt8 (mt1 (mt1 (mt1 (mt1 (mt1 (mt1 (List.Mem.head _))))))))))))))))))))))) rfl
theorem k_227 : Cond.fieldLinkNest RX10 261 RX7 "coats" "I" "TailorRegiment" ∈ NST := mN (tb_0 (mt8 (mt8 (mt8 (mt8 (mt8 (mt8 (mt8 (mt8 (mt8 (mt8 (mt8 (mt8 (mt8 (mt8 (mt8 (mt1 (mt1 (mt1 (mt1 (mt1 (mt1 (mt1 (List.Mem.head _)))))))))))))))))))))))) rfl
theorem k_228 : Cond.fieldLink RX7 38 RX7 "easy" "I" ∈ BIG := mB (tb_0 (mt8 (mt8 (mt8 (mt8 (mt8 (mt8 (mt8 (mt8 (mt8 (mt8 (mt8 (mt8 (mt8 (mt8 (mt8 (mt8 (List.Mem.head _)))))))))))))))))) rfl
theorem k_229 : Cond.fieldLinkNest RX0 69 RX7 "easy" "I" "TailorRegiment" ∈ NST := mN (tb_0 (mt8 (mt8 (mt8 (mt8 (mt8 (mt8 (mt8 (mt8 (mt8 (mt8 (mt8 (mt8 (mt8 (mt8 (mt8 (mt8 (mt1 (List.Mem.head _))))))))))))))))))) rfl
theorem k_230 : Cond.fieldLinkNest RX3 83 RX7 "easy" "I" "TailorRegiment" ∈ NST := mN (tb_0 (mt8 (mt8 (mt8 (mt8 (mt8 (mt8 (mt8 (mt8 (mt8 (mt8 (mt8 (mt8 (mt8 (mt8 (mt8 (mt8 (mt1 (mt1 (List.Mem.head _)))))))))))))))))))) rfl
theorem k_231 : Cond.fieldLinkNest RX8 81 RX7 "easy" "I" "TailorRegiment" ∈ NST := mN (tb_0 (mt8 (mt8 (mt8 (mt8 (mt8 (mt8 (mt8 (mt8 (mt8 (mt8 (mt8 (mt8 (mt8 (mt8 (mt8 (mt8 (mt1 (mt1 (mt1 (List.Mem.head _))))))))))))))))))))) rfl
theorem k_232 : Cond.fieldLinkNest RX1 78 RX7 "easy" "I" "TailorRegiment" ∈ NST := mN (tb_0 (mt8 (mt8 (mt8 (mt8 (mt8 (mt8 (mt8 (mt8 (mt8 (mt8 (mt8 (mt8 (mt8 (mt8 (mt8 (mt8 (mt1 (mt1 (mt1 (mt1 (List.Mem.head _)))))))))))))))))))))) rfl
theorem k_233 : Cond.fieldLinkNest RX10 320 RX7 "easy" "I" "TailorRegiment" ∈ NST := mN (tb_0 (mt8 (mt8 (mt8 (mt8 (mt8 (mt8 (mt8 (mt8 (mt8 (mt8 (mt8 (mt8 (mt8 (mt8 (mt8 (mt8 (mt1 (mt1 (mt1 (mt1 (mt1 (List.Mem.head _))))))))))))))))))))))) rfl
theorem k_234 : Cond.fieldLink RX7 41 RX7 "bolt" "I" ∈ BIG := mB (tb_0 (mt8 (mt8 (mt8 (mt8 (mt8 (mt8 (mt8 (mt8 (mt8 (mt8 (mt8 (mt8 (mt8 (mt8 (mt8 (mt8 (mt1 (mt1 (mt1 (mt1 (mt1 (mt1 (List.Mem.head _)))))))))))))))))))))))) rfl
theorem k_235 : Cond.fieldLinkNest RX2 69 RX7 "bolt" "I" "TailorRegiment" ∈ NST := mN (tb_0 (mt8 (mt8 (mt8 (mt8 (mt8 (mt8 (mt8 (mt8 (mt8 (mt8 (mt8 (mt8 (mt8 (mt8 (mt8 (mt8 (mt1 (mt1 (mt1 (mt1 (mt1 (mt1 (mt1 (List.Mem.head _))))))))))))))))))))))))) rfl
theorem k_236 : Cond.fieldLinkNest RX10 323 RX7 "bolt" "I" "TailorRegiment" ∈ NST := mN (tb_0 (mt8 (mt8 (mt8 (mt8 (mt8 (mt8 (mt8 (mt8 (mt8 (mt8 (mt8 (mt8 (mt8 (mt8 (mt8 (mt8 (mt8 (List.Mem.head _))))))))))))))))))) rfl
theorem k_237 : Cond.fieldLink RX7 44 RX7 "like" "I" ∈ BIG := mB (tb_0 (mt8 (mt8 (mt8 (mt8 (mt8 (mt8 (mt8 (mt8 (mt8 (mt8 (mt8 (mt8 (mt8 (mt8 (mt8 (mt8 (mt8 (mt1 (List.Mem.head _)))))))))))))))))))) rfl
theorem k_238 : Cond.fieldLinkNest RX0 101 RX7 "like" "I" "TailorRegiment" ∈ NST := mN (tb_0 (mt8 (mt8 (mt8 (mt8 (mt8 (mt8 (mt8 (mt8 (mt8 (mt8 (mt8 (mt8 (mt8 (mt8 (mt8 (mt8 (mt8 (mt1 (mt1 (List.Mem.head _))))))))))))))))))))) rfl
theorem k_239 : Cond.fieldLinkNest RX10 326 RX7 "like" "I" "TailorRegiment" ∈ NST := mN (tb_0 (mt8 (mt8 (mt8 (mt8 (mt8 (mt8 (mt8 (mt8 (mt8 (mt8 (mt8 (mt8 (mt8 (mt8 (mt8 (mt8 (mt8 (mt1 (mt1 (mt1 (List.Mem.head _)))))))))))))))))))))) rfl
theorem k_240 : Cond.fieldLink RX7 47 RX7 "rain" "I" ∈ BIG := mB (tb_0 (mt8 (mt8 (mt8 (mt8 (mt8 (mt8 (mt8 (mt8 (mt8 (mt8 (mt8 (mt8 (mt8 (mt8 (mt8 (mt8 (mt8 (mt1 (mt1 (mt1 (mt1 (List.Mem.head _))))))))))))))))))))))) rfl
theorem k_241 : Cond.fieldLinkNest RX10 154 RX7 "rain" "I" "TailorRegiment" ∈ NST := mN (tb_0 (mt8 (mt8 (mt8 (mt8 (mt8 (mt8 (mt8 (mt8 (mt8 (mt8 (mt8 (mt8 (mt8 (mt8 (mt8 (mt8 (mt8 (mt1 (mt1 (mt1 (mt1 (mt1 (List.Mem.head _)))))))))))))))))))))))) rfl
theorem k_242 : Cond.fieldLinkNest RX1 31 RX7 "draw" "I" "TailorRegiment" ∈ NST := mN (tb_0 (mt8 (mt8 (mt8 (mt8 (mt8 (mt8 (mt8 (mt8 (mt8 (mt8 (mt8 (mt8 (mt8 (mt8 (mt8 (mt8 (mt8 (mt1 (mt1 (mt1 (mt1 (mt1 (mt1 (List.Mem.head _))))))))))))))))))))))))) rfl
theorem k_243 : Cond.fieldLink RX7 50 RX7 "draw" "I" ∈ BIG := mB (tb_0 (mt8 (mt8 (mt8 (mt8 (mt8 (mt8 (mt8 (mt8 (mt8 (mt8 (mt8 (mt8 (mt8 (mt8 (mt8 (mt8 (mt8 (mt1 (mt1 (mt1 (mt1 (mt1 (mt1 (mt1 (List.Mem.head _)))))))))))))))))))))))))) rfl
theorem k_265 : Cond.fieldLink RX6 29 RX6 "tape" "LTailorRegiment$Tape;" ∈ BIG := mB (tb_0 (mt8 (mt8 (mt8 (mt8 (mt8 (mt8 (mt8 (mt8 (mt8 (mt8 (mt8 (mt8 (mt8 (mt8 (mt8 (mt8 (mt8 (mt8 (mt8 (mt8 (mt1 (mt1 (mt1 (mt1 (mt1 (List.Mem.head _))))))))))))))))))))))))))) rfl
theorem k_266 : Cond.fieldLink RX6 12 RX6 "draft" "LTailorRegiment$Roll;" ∈ BIG := mB (tb_0 (mt8 (mt8 (mt8 (mt8 (mt8 (mt8 (mt8 (mt8 (mt8 (mt8 (mt8 (mt8 (mt8 (mt8 (mt8 (mt8 (mt8 (mt8 (mt8 (mt8 (mt1 (mt1 (mt1 (mt1 (mt1 (mt1 (List.Mem.head _)))))))))))))))))))))))))))) rfl
theorem k_267 : Cond.fieldLinkNest RX10 95 RX6 "draft" "LTailorRegiment$Roll;" "TailorRegiment" ∈ NST := mN (tb_0 (mt8 (mt8 (mt8 (mt8 (mt8 (mt8 (mt8 (mt8 (mt8 (mt8 (mt8 (mt8 (mt8 (mt8 (mt8 (mt8 (mt8 (mt8 (mt8 (mt8 (mt1 (mt1 (mt1 (mt1 (mt1 (mt1 (mt1 (List.Mem.head _))))))))))))))))))))))))))))) rfl
theorem k_268 : Cond.fieldLink RX6 18 RX6 "manNames" "[I" ∈ BIG := mB (tb_0 (mt8 (mt8 (mt8 (mt8 (mt8 (mt8 (mt8 (mt8 (mt8 (mt8 (mt8 (mt8 (mt8 (mt8 (mt8 (mt8 (mt8 (mt8 (mt8 (mt8 (mt8 (List.Mem.head _))))))))))))))))))))))) rfl
theorem k_269 : Cond.fieldLink RX6 22 RX6 "coatNames" "[I" ∈ BIG := mB (tb_0 (mt8 (mt8 (mt8 (mt8 (mt8 (mt8 (mt8 (mt8 (mt8 (mt8 (mt8 (mt8 (mt8 (mt8 (mt8 (mt8 (mt8 (mt8 (mt8 (mt8 (mt8 (mt1 (List.Mem.head _)))))))))))))))))))))))) rfl
theorem k_270 : Cond.fieldLink RX6 36 RX6 "told" "I" ∈ BIG := mB (tb_0 (mt8 (mt8 (mt8 (mt8 (mt8 (mt8 (mt8 (mt8 (mt8 (mt8 (mt8 (mt8 (mt8 (mt8 (mt8 (mt8 (mt8 (mt8 (mt8 (mt8 (mt8 (mt1 (mt1 (List.Mem.head _))))))))))))))))))))))))) rfl
theorem k_271 : Cond.fieldLink RX6 39 RX6 "faultSort" "I" ∈ BIG := mB (tb_0 (mt8 (mt8 (mt8 (mt8 (mt8 (mt8 (mt8 (mt8 (mt8 (mt8 (mt8 (mt8 (mt8 (mt8 (mt8 (mt8 (mt8 (mt8 (mt8 (mt8 (mt8 (mt1 (mt1 (mt1 (List.Mem.head _)))))))))))))))))))))))))) rfl
theorem k_272 : Cond.fieldLinkNest RX10 114 RX6 "faultSort" "I" "TailorRegiment" ∈ NST := mN (tb_0 (mt8 (mt8 (mt8 (mt8 (mt8 (mt8 (mt8 (mt8 (mt8 (mt8 (mt8 (mt8 (mt8 (mt8 (mt8 (mt8 (mt8 (mt8 (mt8 (mt8 (mt8 (mt1 (mt1 (mt1 (mt1 (List.Mem.head _))))))))))))))))))))))))))) rfl
theorem k_273 : Cond.fieldLink RX6 25 RX6 "faultPlace" "I" ∈ BIG := mB (tb_0 (mt8 (mt8 (mt8 (mt8 (mt8 (mt8 (mt8 (mt8 (mt8 (mt8 (mt8 (mt8 (mt8 (mt8 (mt8 (mt8 (mt8 (mt8 (mt8 (mt8 (mt8 (mt1 (mt1 (mt1 (mt1 (mt1 (List.Mem.head _)))))))))))))))))))))))))))) rfl
theorem k_274 : Cond.fieldLinkNest RX10 117 RX6 "faultPlace" "I" "TailorRegiment" ∈ NST := mN (tb_0 (mt8 (mt8 (mt8 (mt8 (mt8 (mt8 (mt8 (mt8 (mt8 (mt8 (mt8 (mt8 (mt8 (mt8 (mt8 (mt8 (mt8 (mt8 (mt8 (mt8 (mt8 (mt1 (mt1 (mt1 (mt1 (mt1 (mt1 (List.Mem.head _))))))))))))))))))))))))))))) rfl
theorem k_290 : Cond.classLink RX10 25 RX7 ∈ BIG := mB (tb_0 (mt8 (mt8 (mt8 (mt8 (mt8 (mt8 (mt8 (mt8 (mt8 (mt8 (mt8 (mt8 (mt8 (mt8 (mt8 (mt8 (mt8 (mt8 (mt8 (mt8 (mt8 (mt8 (mt8 (mt1 (mt1 (mt1 (mt1 (mt1 (mt1 (List.Mem.head _))))))))))))))))))))))))))))))) rfl
theorem k_291 : Cond.methodLink RX10 27 yX7_init ∈ BIG := mB (tb_0 (mt8 (mt8 (mt8 (mt8 (mt8 (mt8 (mt8 (mt8 (mt8 (mt8 (mt8 (mt8 (mt8 (mt8 (mt8 (mt8 (mt8 (mt8 (mt8 (mt8 (mt8 (mt8 (mt8 (mt1 (mt1 (mt1 (mt1 (mt1 (mt1 (mt1 (List.Mem.head _)))))))))))))))))))))))))))))))) rfl
theorem k_292 : Cond.classLink RX10 32 RX1 ∈ BIG := mB (tb_0 (mt8 (mt8 (mt8 (mt8 (mt8 (mt8 (mt8 (mt8 (mt8 (mt8 (mt8 (mt8 (mt8 (mt8 (mt8 (mt8 (mt8 (mt8 (mt8 (mt8 (mt8 (mt8 (mt8 (mt8 (List.Mem.head _)))))))))))))))))))))))))) rfl
theorem k_293 : Cond.instantiable RX1 2 ∈ BIG := mB (tb_0 (mt8 (mt8 (mt8 (mt8 (mt8 (mt8 (mt8 (mt8 (mt8 (mt8 (mt8 (mt8 (mt8 (mt8 (mt8 (mt8 (mt8 (mt8 (mt8 (mt8 (mt8 (mt8 (mt8 (mt8 (mt1 (List.Mem.head _))))))))))))))))))))))))))) rfl
theorem k_294 : Cond.methodLink RX10 34 yX1_init ∈ BIG := mB (tb_0 (mt8 (mt8 (mt8 (mt8 (mt8 (mt8 (mt8 (mt8 (mt8 (mt8 (mt8 (mt8 (mt8 (mt8 (mt8 (mt8 (mt8 (mt8 (mt8 (mt8 (mt8 (mt8 (mt8 (mt8 (mt1 (mt1 (List.Mem.head _)))))))))))))))))))))))))))) rfl
theorem k_295 : Cond.instanceMethod yX1_init ∈ BIG := mB (tb_0 (mt8 (mt8 (mt8 (mt8 (mt8 (mt8 (mt8 (mt8 (mt8 (mt8 (mt8 (mt8 (mt8 (mt8 (mt8 (mt8 (mt8 (mt8 (mt8 (mt8 (mt8 (mt8 (mt8 (mt8 (mt1 (mt1 (mt1 (List.Mem.head _))))))))))))))))))))))))))))) rfl
theorem k_296 : Cond.code yX1_init cX1_init 2 none ∈ BIG := mB (tb_0 (mt8 (mt8 (mt8 (mt8 (mt8 (mt8 (mt8 (mt8 (mt8 (mt8 (mt8 (mt8 (mt8 (mt8 (mt8 (mt8 (mt8 (mt8 (mt8 (mt8 (mt8 (mt8 (mt8 (mt8 (mt1 (mt1 (mt1 (mt1 (List.Mem.head _)))))))))))))))))))))))))))))) rfl
theorem k_297 : Cond.methodLink RX1 5 Lib.objectInit ∈ BIG := mB (tb_0 (mt8 (mt8 (mt8 (mt8 (mt8 (mt8 (mt8 (mt8 (mt8 (mt8 (mt8 (mt8 (mt8 (mt8 (mt8 (mt8 (mt8 (mt8 (mt8 (mt8 (mt8 (mt8 (mt8 (mt8 (mt1 (mt1 (mt1 (mt1 (mt1 (List.Mem.head _))))))))))))))))))))))))))))))) rfl
theorem k_298 : Cond.methodLink RX1 19 yX1_muster ∈ BIG := mB (tb_0 (mt8 (mt8 (mt8 (mt8 (mt8 (mt8 (mt8 (mt8 (mt8 (mt8 (mt8 (mt8 (mt8 (mt8 (mt8 (mt8 (mt8 (mt8 (mt8 (mt8 (mt8 (mt8 (mt8 (mt8 (mt1 (mt1 (mt1 (mt1 (mt1 (mt1 (List.Mem.head _)))))))))))))))))))))))))))))))) rfl
theorem k_299 : Cond.instanceMethod yX1_muster ∈ BIG := mB (tb_0 (mt8 (mt8 (mt8 (mt8 (mt8 (mt8 (mt8 (mt8 (mt8 (mt8 (mt8 (mt8 (mt8 (mt8 (mt8 (mt8 (mt8 (mt8 (mt8 (mt8 (mt8 (mt8 (mt8 (mt8 (mt1 (mt1 (mt1 (mt1 (mt1 (mt1 (mt1 (List.Mem.head _))))))))))))))))))))))))))))))))) rfl
theorem k_300 : Cond.selects RX1 yX1_muster yX1_muster ∈ BIG := mB (tb_0 (mt8 (mt8 (mt8 (mt8 (mt8 (mt8 (mt8 (mt8 (mt8 (mt8 (mt8 (mt8 (mt8 (mt8 (mt8 (mt8 (mt8 (mt8 (mt8 (mt8 (mt8 (mt8 (mt8 (mt8 (mt8 (List.Mem.head _))))))))))))))))))))))))))) rfl
theorem k_301 : Cond.code yX1_muster cX1_muster 3 none ∈ BIG := mB (tb_0 (mt8 (mt8 (mt8 (mt8 (mt8 (mt8 (mt8 (mt8 (mt8 (mt8 (mt8 (mt8 (mt8 (mt8 (mt8 (mt8 (mt8 (mt8 (mt8 (mt8 (mt8 (mt8 (mt8 (mt8 (mt8 (mt1 (List.Mem.head _)))))))))))))))))))))))))))) rfl
theorem k_302 : Cond.methodLink RX1 22 yX7_manPart ∈ BIG := mB (tb_0 (mt8 (mt8 (mt8 (mt8 (mt8 (mt8 (mt8 (mt8 (mt8 (mt8 (mt8 (mt8 (mt8 (mt8 (mt8 (mt8 (mt8 (mt8 (mt8 (mt8 (mt8 (mt8 (mt8 (mt8 (mt8 (mt1 (mt1 (List.Mem.head _))))))))))))))))))))))))))))) rfl
theorem k_303 : Cond.instanceMethod yX7_manPart ∈ BIG := mB (tb_0 (mt8 (mt8 (mt8 (mt8 (mt8 (mt8 (mt8 (mt8 (mt8 (mt8 (mt8 (mt8 (mt8 (mt8 (mt8 (mt8 (mt8 (mt8 (mt8 (mt8 (mt8 (mt8 (mt8 (mt8 (mt8 (mt1 (mt1 (mt1 (List.Mem.head _)))))))))))))))))))))))))))))) rfl
theorem k_304 : Cond.selects RX7 yX7_manPart yX7_manPart ∈ BIG := mB (tb_0 (mt8 (mt8 (mt8 (mt8 (mt8 (mt8 (mt8 (mt8 (mt8 (mt8 (mt8 (mt8 (mt8 (mt8 (mt8 (mt8 (mt8 (mt8 (mt8 (mt8 (mt8 (mt8 (mt8 (mt8 (mt8 (mt1 (mt1 (mt1 (mt1 (List.Mem.head _))))))))))))))))))))))))))))))) rfl
theorem k_305 : Cond.code yX7_manPart cX7_manPart 3 (some .int) ∈ BIG := mB (tb_0 (mt8 (mt8 (mt8 (mt8 (mt8 (mt8 (mt8 (mt8 (mt8 (mt8 (mt8 (mt8 (mt8 (mt8 (mt8 (mt8 (mt8 (mt8 (mt8 (mt8 (mt8 (mt8 (mt8 (mt8 (mt8 (mt1 (mt1 (mt1 (mt1 (mt1 (List.Mem.head _)))))))))))))))))))))))))))))))) rfl
theorem k_306 : Cond.methodLink RX7 63 yX7_hasMan ∈ BIG := mB (tb_0 (mt8 (mt8 (mt8 (mt8 (mt8 (mt8 (mt8 (mt8 (mt8 (mt8 (mt8 (mt8 (mt8 (mt8 (mt8 (mt8 (mt8 (mt8 (mt8 (mt8 (mt8 (mt8 (mt8 (mt8 (mt8 (mt1 (mt1 (mt1 (mt1 (mt1 (mt1 (List.Mem.head _))))))))))))))))))))))))))))))))) rfl
theorem k_307 : Cond.instanceMethod yX7_hasMan ∈ BIG := mB (tb_0 (mt8 (mt8 (mt8 (mt8 (mt8 (mt8 (mt8 (mt8 (mt8 (mt8 (mt8 (mt8 (mt8 (mt8 (mt8 (mt8 (mt8 (mt8 (mt8 (mt8 (mt8 (mt8 (mt8 (mt8 (mt8 (mt1 (mt1 (mt1 (mt1 (mt1 (mt1 (mt1 (List.Mem.head _)))))))))))))))))))))))))))))))))) rfl
theorem k_308 : Cond.selects RX7 yX7_hasMan yX7_hasMan ∈ BIG := mB (tb_0 (mt8 (mt8 (mt8 (mt8 (mt8 (mt8 (mt8 (mt8 (mt8 (mt8 (mt8 (mt8 (mt8 (mt8 (mt8 (mt8 (mt8 (mt8 (mt8 (mt8 (mt8 (mt8 (mt8 (mt8 (mt8 (mt8 (List.Mem.head _)))))))))))))))))))))))))))) rfl
theorem k_309 : Cond.code yX7_hasMan cX7_hasMan 2 (some .boolean) ∈ BIG := mB (tb_0 (mt8 (mt8 (mt8 (mt8 (mt8 (mt8 (mt8 (mt8 (mt8 (mt8 (mt8 (mt8 (mt8 (mt8 (mt8 (mt8 (mt8 (mt8 (mt8 (mt8 (mt8 (mt8 (mt8 (mt8 (mt8 (mt8 (mt1 (List.Mem.head _))))))))))))))))))))))))))))) rfl
theorem k_310 : Cond.methodLink RX1 28 yX7_coatPart ∈ BIG := mB (tb_0 (mt8 (mt8 (mt8 (mt8 (mt8 (mt8 (mt8 (mt8 (mt8 (mt8 (mt8 (mt8 (mt8 (mt8 (mt8 (mt8 (mt8 (mt8 (mt8 (mt8 (mt8 (mt8 (mt8 (mt8 (mt8 (mt8 (mt1 (mt1 (List.Mem.head _)))))))))))))))))))))))))))))) rfl
theorem k_311 : Cond.instanceMethod yX7_coatPart ∈ BIG := mB (tb_0 (mt8 (mt8 (mt8 (mt8 (mt8 (mt8 (mt8 (mt8 (mt8 (mt8 (mt8 (mt8 (mt8 (mt8 (mt8 (mt8 (mt8 (mt8 (mt8 (mt8 (mt8 (mt8 (mt8 (mt8 (mt8 (mt8 (mt1 (mt1 (mt1 (List.Mem.head _))))))))))))))))))))))))))))))) rfl
theorem k_312 : Cond.selects RX7 yX7_coatPart yX7_coatPart ∈ BIG := mB (tb_0 (mt8 (mt8 (mt8 (mt8 (mt8 (mt8 (mt8 (mt8 (mt8 (mt8 (mt8 (mt8 (mt8 (mt8 (mt8 (mt8 (mt8 (mt8 (mt8 (mt8 (mt8 (mt8 (mt8 (mt8 (mt8 (mt8 (mt1 (mt1 (mt1 (mt1 (List.Mem.head _)))))))))))))))))))))))))))))))) rfl
theorem k_313 : Cond.code yX7_coatPart cX7_coatPart 3 (some .int) ∈ BIG := mB (tb_0 (mt8 (mt8 (mt8 (mt8 (mt8 (mt8 (mt8 (mt8 (mt8 (mt8 (mt8 (mt8 (mt8 (mt8 (mt8 (mt8 (mt8 (mt8 (mt8 (mt8 (mt8 (mt8 (mt8 (mt8 (mt8 (mt8 (mt1 (mt1 (mt1 (mt1 (mt1 (List.Mem.head _))))))))))))))))))))))))))))))))) rfl
theorem k_314 : Cond.methodLink RX7 67 yX7_hasCoat ∈ BIG := mB (tb_0 (mt8 (mt8 (mt8 (mt8 (mt8 (mt8 (mt8 (mt8 (mt8 (mt8 (mt8 (mt8 (mt8 (mt8 (mt8 (mt8 (mt8 (mt8 (mt8 (mt8 (mt8 (mt8 (mt8 (mt8 (mt8 (mt8 (mt1 (mt1 (mt1 (mt1 (mt1 (mt1 (List.Mem.head _)))))))))))))))))))))))))))))))))) rfl
theorem k_315 : Cond.instanceMethod yX7_hasCoat ∈ BIG := mB (tb_0 (mt8 (mt8 (mt8 (mt8 (mt8 (mt8 (mt8 (mt8 (mt8 (mt8 (mt8 (mt8 (mt8 (mt8 (mt8 (mt8 (mt8 (mt8 (mt8 (mt8 (mt8 (mt8 (mt8 (mt8 (mt8 (mt8 (mt1 (mt1 (mt1 (mt1 (mt1 (mt1 (mt1 (List.Mem.head _))))))))))))))))))))))))))))))))))) rfl
theorem k_316 : Cond.selects RX7 yX7_hasCoat yX7_hasCoat ∈ BIG := mB (tb_0 (mt8 (mt8 (mt8 (mt8 (mt8 (mt8 (mt8 (mt8 (mt8 (mt8 (mt8 (mt8 (mt8 (mt8 (mt8 (mt8 (mt8 (mt8 (mt8 (mt8 (mt8 (mt8 (mt8 (mt8 (mt8 (mt8 (mt8 (List.Mem.head _))))))))))))))))))))))))))))) rfl
theorem k_317 : Cond.code yX7_hasCoat cX7_hasCoat 2 (some .boolean) ∈ BIG := mB (tb_0 (mt8 (mt8 (mt8 (mt8 (mt8 (mt8 (mt8 (mt8 (mt8 (mt8 (mt8 (mt8 (mt8 (mt8 (mt8 (mt8 (mt8 (mt8 (mt8 (mt8 (mt8 (mt8 (mt8 (mt8 (mt8 (mt8 (mt8 (mt1 (List.Mem.head _)))))))))))))))))))))))))))))) rfl
theorem k_318 : Cond.fieldLink RX1 15 RX1 "roll" "LTailorRegiment$Roll;" ∈ BIG := mB (tb_0 (mt8 (mt8 (mt8 (mt8 (mt8 (mt8 (mt8 (mt8 (mt8 (mt8 (mt8 (mt8 (mt8 (mt8 (mt8 (mt8 (mt8 (mt8 (mt8 (mt8 (mt8 (mt8 (mt8 (mt8 (mt8 (mt8 (mt8 (mt1 (mt1 (List.Mem.head _))))))))))))))))))))))))))))))) rfl
theorem k_319 : Cond.fieldLink RX1 11 RX1 "cells" "[I" ∈ BIG := mB (tb_0 (mt8 (mt8 (mt8 (mt8 (mt8 (mt8 (mt8 (mt8 (mt8 (mt8 (mt8 (mt8 (mt8 (mt8 (mt8 (mt8 (mt8 (mt8 (mt8 (mt8 (mt8 (mt8 (mt8 (mt8 (mt8 (mt8 (mt8 (mt1 (mt1 (mt1 (List.Mem.head _)))))))))))))))))))))))))))))))) rfl
theorem k_325 : Cond.classLink RX10 41 RX5 ∈ BIG := mB (tb_0 (mt8 (mt8 (mt8 (mt8 (mt8 (mt8 (mt8 (mt8 (mt8 (mt8 (mt8 (mt8 (mt8 (mt8 (mt8 (mt8 (mt8 (mt8 (mt8 (mt8 (mt8 (mt8 (mt8 (mt8 (mt8 (mt8 (mt8 (mt8 (mt1 (List.Mem.head _))))))))))))))))))))))))))))))) rfl
theorem k_326 : Cond.instantiable RX5 7 ∈ BIG := mB (tb_0 (mt8 (mt8 (mt8 (mt8 (mt8 (mt8 (mt8 (mt8 (mt8 (mt8 (mt8 (mt8 (mt8 (mt8 (mt8 (mt8 (mt8 (mt8 (mt8 (mt8 (mt8 (mt8 (mt8 (mt8 (mt8 (mt8 (mt8 (mt8 (mt1 (mt1 (List.Mem.head _)))))))))))))))))))))))))))))))) rfl
theorem k_327 : Cond.methodLink RX10 43 yX5_init ∈ BIG := mB (tb_0 (mt8 (mt8 (mt8 (mt8 (mt8 (mt8 (mt8 (mt8 (mt8 (mt8 (mt8 (mt8 (mt8 (mt8 (mt8 (mt8 (mt8 (mt8 (mt8 (mt8 (mt8 (mt8 (mt8 (mt8 (mt8 (mt8 (mt8 (mt8 (mt1 (mt1 (mt1 (List.Mem.head _))))))))))))))))))))))))))))))))) rfl
theorem k_328 : Cond.instanceMethod yX5_init ∈ BIG := mB (tb_0 (mt8 (mt8 (mt8 (mt8 (mt8 (mt8 (mt8 (mt8 (mt8 (mt8 (mt8 (mt8 (mt8 (mt8 (mt8 (mt8 (mt8 (mt8 (mt8 (mt8 (mt8 (mt8 (mt8 (mt8 (mt8 (mt8 (mt8 (mt8 (mt1 (mt1 (mt1 (mt1 (List.Mem.head _)))))))))))))))))))))))))))))))))) rfl
theorem k_329 : Cond.code yX5_init cX5_init 2 none ∈ BIG := mB (tb_0 (mt8 (mt8 (mt8 (mt8 (mt8 (mt8 (mt8 (mt8 (mt8 (mt8 (mt8 (mt8 (mt8 (mt8 (mt8 (mt8 (mt8 (mt8 (mt8 (mt8 (mt8 (mt8 (mt8 (mt8 (mt8 (mt8 (mt8 (mt8 (mt1 (mt1 (mt1 (mt1 (mt1 (List.Mem.head _))))))))))))))))))))))))))))))))))) rfl
theorem k_330 : Cond.methodLink RX5 3 Lib.objectInit ∈ BIG := mB (tb_0 (mt8 (mt8 (mt8 (mt8 (mt8 (mt8 (mt8 (mt8 (mt8 (mt8 (mt8 (mt8 (mt8 (mt8 (mt8 (mt8 (mt8 (mt8 (mt8 (mt8 (mt8 (mt8 (mt8 (mt8 (mt8 (mt8 (mt8 (mt8 (mt1 (mt1 (mt1 (mt1 (mt1 (mt1 (List.Mem.head _)))))))))))))))))))))))))))))))))))) rfl
theorem k_331 : Cond.methodLink RX5 24 yX1_saveTo ∈ BIG := mB (tb_0 (mt8 (mt8 (mt8 (mt8 (mt8 (mt8 (mt8 (mt8 (mt8 (mt8 (mt8 (mt8 (mt8 (mt8 (mt8 (mt8 (mt8 (mt8 (mt8 (mt8 (mt8 (mt8 (mt8 (mt8 (mt8 (mt8 (mt8 (mt8 (mt1 (mt1 (mt1 (mt1 (mt1 (mt1 (mt1 (List.Mem.head _))))))))))))))))))))))))))))))))))))) rfl
theorem k_332 : Cond.instanceMethod yX1_saveTo ∈ BIG := mB (tb_0 (mt8 (mt8 (mt8 (mt8 (mt8 (mt8 (mt8 (mt8 (mt8 (mt8 (mt8 (mt8 (mt8 (mt8 (mt8 (mt8 (mt8 (mt8 (mt8 (mt8 (mt8 (mt8 (mt8 (mt8 (mt8 (mt8 (mt8 (mt8 (mt8 (List.Mem.head _))))))))))))))))))))))))))))))) rfl
theorem k_333 : Cond.selects RX1 yX1_saveTo yX1_saveTo ∈ BIG := mB (tb_0 (mt8 (mt8 (mt8 (mt8 (mt8 (mt8 (mt8 (mt8 (mt8 (mt8 (mt8 (mt8 (mt8 (mt8 (mt8 (mt8 (mt8 (mt8 (mt8 (mt8 (mt8 (mt8 (mt8 (mt8 (mt8 (mt8 (mt8 (mt8 (mt8 (mt1 (List.Mem.head _)))))))))))))))))))))))))))))))) rfl
theorem k_334 : Cond.code yX1_saveTo cX1_saveTo 3 none ∈ BIG := mB (tb_0 (mt8 (mt8 (mt8 (mt8 (mt8 (mt8 (mt8 (mt8 (mt8 (mt8 (mt8 (mt8 (mt8 (mt8 (mt8 (mt8 (mt8 (mt8 (mt8 (mt8 (mt8 (mt8 (mt8 (mt8 (mt8 (mt8 (mt8 (mt8 (mt8 (mt1 (mt1 (List.Mem.head _))))))))))))))))))))))))))))))))) rfl
theorem k_335 : Cond.methodLink RX1 35 arraycopyName ∈ BIG := mB (tb_0 (mt8 (mt8 (mt8 (mt8 (mt8 (mt8 (mt8 (mt8 (mt8 (mt8 (mt8 (mt8 (mt8 (mt8 (mt8 (mt8 (mt8 (mt8 (mt8 (mt8 (mt8 (mt8 (mt8 (mt8 (mt8 (mt8 (mt8 (mt8 (mt8 (mt1 (mt1 (mt1 (List.Mem.head _)))))))))))))))))))))))))))))))))) rfl
theorem k_336 : Cond.static arraycopyName ∈ BIG := mB (tb_0 (mt8 (mt8 (mt8 (mt8 (mt8 (mt8 (mt8 (mt8 (mt8 (mt8 (mt8 (mt8 (mt8 (mt8 (mt8 (mt8 (mt8 (mt8 (mt8 (mt8 (mt8 (mt8 (mt8 (mt8 (mt8 (mt8 (mt8 (mt8 (mt8 (mt1 (mt1 (mt1 (mt1 (List.Mem.head _))))))))))))))))))))))))))))))))))) rfl
theorem k_337 : Cond.native arraycopyName ∈ BIG := mB (tb_0 (mt8 (mt8 (mt8 (mt8 (mt8 (mt8 (mt8 (mt8 (mt8 (mt8 (mt8 (mt8 (mt8 (mt8 (mt8 (mt8 (mt8 (mt8 (mt8 (mt8 (mt8 (mt8 (mt8 (mt8 (mt8 (mt8 (mt8 (mt8 (mt8 (mt1 (mt1 (mt1 (mt1 (mt1 (List.Mem.head _)))))))))))))))))))))))))))))))))))) rfl
theorem k_338 : Cond.fieldLink RX5 20 RX5 "now" "LTailorRegiment$Company;" ∈ BIG := mB (tb_0 (mt8 (mt8 (mt8 (mt8 (mt8 (mt8 (mt8 (mt8 (mt8 (mt8 (mt8 (mt8 (mt8 (mt8 (mt8 (mt8 (mt8 (mt8 (mt8 (mt8 (mt8 (mt8 (mt8 (mt8 (mt8 (mt8 (mt8 (mt8 (mt8 (mt1 (mt1 (mt1 (mt1 (mt1 (mt1 (List.Mem.head _))))))))))))))))))))))))))))))))))))) rfl
theorem k_339 : Cond.fieldLink RX5 13 RX5 "rows" "[I" ∈ BIG := mB (tb_0 (mt8 (mt8 (mt8 (mt8 (mt8 (mt8 (mt8 (mt8 (mt8 (mt8 (mt8 (mt8 (mt8 (mt8 (mt8 (mt8 (mt8 (mt8 (mt8 (mt8 (mt8 (mt8 (mt8 (mt8 (mt8 (mt8 (mt8 (mt8 (mt8 (mt1 (mt1 (mt1 (mt1 (mt1 (mt1 (mt1 (List.Mem.head _)))))))))))))))))))))))))))))))))))))) rfl
theorem k_340 : Cond.fieldLink RX5 17 RX5 "boxes" "[I" ∈ BIG := mB (tb_1 (List.Mem.head _)) rfl
theorem k_341 : Cond.fieldLink RX5 28 RX5 "filled" "I" ∈ BIG := mB (tb_1 (mt1 (List.Mem.head _))) rfl
theorem k_342 : Cond.fieldLink RX5 35 RX5 "first" "I" ∈ BIG := mB (tb_1 (mt1 (mt1 (List.Mem.head _)))) rfl
theorem k_343 : Cond.fieldLink RX5 38 RX5 "done" "I" ∈ BIG := mB (tb_1 (mt1 (mt1 (mt1 (List.Mem.head _))))) rfl
theorem k_344 : Cond.fieldLinkNest RX10 332 RX5 "done" "I" "TailorRegiment" ∈ NST := mN (tb_1 (mt1 (mt1 (mt1 (mt1 (List.Mem.head _)))))) rfl
theorem k_345 : Cond.fieldLink RX5 41 RX5 "undone" "I" ∈ BIG := mB (tb_1 (mt1 (mt1 (mt1 (mt1 (mt1 (List.Mem.head _))))))) rfl
theorem k_346 : Cond.fieldLinkNest RX10 335 RX5 "undone" "I" "TailorRegiment" ∈ NST := mN (tb_1 (mt1 (mt1 (mt1 (mt1 (mt1 (mt1 (List.Mem.head _)))))))) rfl
theorem k_362 : Cond.classLink RX10 50 RX3 ∈ BIG := mB (tb_1 (mt8 (mt8 (mt1 (mt1 (mt1 (mt1 (mt1 (mt1 (List.Mem.head _)))))))))) rfl
theorem k_363 : Cond.instantiable RX3 10 ∈ BIG := mB (tb_1 (mt8 (mt8 (mt1 (mt1 (mt1 (mt1 (mt1 (mt1 (mt1 (List.Mem.head _))))))))))) rfl
theorem k_364 : Cond.methodLink RX10 52 yX3_init ∈ BIG := mB (tb_1 (mt8 (mt8 (mt8 (List.Mem.head _))))) rfl
theorem k_365 : Cond.instanceMethod yX3_init ∈ BIG := mB (tb_1 (mt8 (mt8 (mt8 (mt1 (List.Mem.head _)))))) rfl
theorem k_366 : Cond.code yX3_init cX3_init 3 none ∈ BIG := mB (tb_1 (mt8 (mt8 (mt8 (mt1 (mt1 (List.Mem.head _))))))) rfl
theorem k_367 : Cond.methodLink RX3 3 Lib.objectInit ∈ BIG := mB (tb_1 (mt8 (mt8 (mt8 (mt1 (mt1 (mt1 (List.Mem.head _)))))))) rfl
theorem k_368 : Cond.classLink RX3 19 RX1 ∈ BIG := mB (tb_1 (mt8 (mt8 (mt8 (mt1 (mt1 (mt1 (mt1 (List.Mem.head _))))))))) rfl
theorem k_369 : Cond.methodLink RX3 21 yX1_init ∈ BIG := mB (tb_1 (mt8 (mt8 (mt8 (mt1 (mt1 (mt1 (mt1 (mt1 (List.Mem.head _)))))))))) rfl
theorem k_370 : Cond.fieldLink RX3 9 RX3 "roll" "LTailorRegiment$Roll;" ∈ BIG := mB (tb_1 (mt8 (mt8 (mt8 (mt1 (mt1 (mt1 (mt1 (mt1 (mt1 (List.Mem.head _))))))))))) rfl
theorem k_371 : Cond.fieldLink RX3 15 RX3 "now" "LTailorRegiment$Company;" ∈ BIG := mB (tb_1 (mt8 (mt8 (mt8 (mt1 (mt1 (mt1 (mt1 (mt1 (mt1 (mt1 (List.Mem.head _)))))))))))) rfl
theorem k_372 : Cond.fieldLink RX3 24 RX3 "ahead" "LTailorRegiment$Company;" ∈ BIG := mB (tb_1 (mt8 (mt8 (mt8 (mt8 (List.Mem.head _)))))) rfl
theorem k_373 : Cond.fieldLink RX3 55 RX3 "hemmed" "I" ∈ BIG := mB (tb_1 (mt8 (mt8 (mt8 (mt8 (mt1 (List.Mem.head _))))))) rfl
theorem k_374 : Cond.fieldLinkNest RX10 203 RX3 "hemmed" "I" "TailorRegiment" ∈ NST := mN (tb_1 (mt8 (mt8 (mt8 (mt8 (mt1 (mt1 (List.Mem.head _)))))))) rfl
theorem k_375 : Cond.fieldLink RX3 59 RX3 "takenIn" "I" ∈ BIG := mB (tb_1 (mt8 (mt8 (mt8 (mt8 (mt1 (mt1 (mt1 (List.Mem.head _))))))))) rfl
theorem k_376 : Cond.fieldLinkNest RX10 206 RX3 "takenIn" "I" "TailorRegiment" ∈ NST := mN (tb_1 (mt8 (mt8 (mt8 (mt8 (mt1 (mt1 (mt1 (mt1 (List.Mem.head _)))))))))) rfl
theorem k_377 : Cond.fieldLink RX3 86 RX3 "rotaStep" "I" ∈ BIG := mB (tb_1 (mt8 (mt8 (mt8 (mt8 (mt1 (mt1 (mt1 (mt1 (mt1 (List.Mem.head _))))))))))) rfl
theorem k_378 : Cond.fieldLinkNest RX10 217 RX3 "rotaStep" "I" "TailorRegiment" ∈ NST := mN (tb_1 (mt8 (mt8 (mt8 (mt8 (mt1 (mt1 (mt1 (mt1 (mt1 (mt1 (List.Mem.head _)))))))))))) rfl
theorem k_379 : Cond.fieldLink RX3 89 RX3 "rotaFits" "I" ∈ BIG := mB (tb_1 (mt8 (mt8 (mt8 (mt8 (mt1 (mt1 (mt1 (mt1 (mt1 (mt1 (mt1 (List.Mem.head _))))))))))))) rfl
theorem k_380 : Cond.fieldLinkNest RX10 220 RX3 "rotaFits" "I" "TailorRegiment" ∈ NST := mN (tb_1 (mt8 (mt8 (mt8 (mt8 (mt8 (List.Mem.head _))))))) rfl
theorem k_381 : Cond.fieldLink RX3 116 RX3 "changeOne" "I" ∈ BIG := mB (tb_1 (mt8 (mt8 (mt8 (mt8 (mt8 (mt1 (List.Mem.head _)))))))) rfl
theorem k_382 : Cond.fieldLinkNest RX10 226 RX3 "changeOne" "I" "TailorRegiment" ∈ NST := mN (tb_1 (mt8 (mt8 (mt8 (mt8 (mt8 (mt1 (mt1 (List.Mem.head _))))))))) rfl
theorem k_383 : Cond.fieldLink RX3 119 RX3 "changeOther" "I" ∈ BIG := mB (tb_1 (mt8 (mt8 (mt8 (mt8 (mt8 (mt1 (mt1 (mt1 (List.Mem.head _)))))))))) rfl
theorem k_384 : Cond.fieldLinkNest RX10 229 RX3 "changeOther" "I" "TailorRegiment" ∈ NST := mN (tb_1 (mt8 (mt8 (mt8 (mt8 (mt8 (mt1 (mt1 (mt1 (mt1 (List.Mem.head _))))))))))) rfl
theorem k_385 : Cond.fieldLink RX3 110 RX3 "changeFits" "I" ∈ BIG := mB (tb_1 (mt8 (mt8 (mt8 (mt8 (mt8 (mt1 (mt1 (mt1 (mt1 (mt1 (List.Mem.head _)))))))))))) rfl
theorem k_386 : Cond.fieldLinkNest RX10 232 RX3 "changeFits" "I" "TailorRegiment" ∈ NST := mN (tb_1 (mt8 (mt8 (mt8 (mt8 (mt8 (mt1 (mt1 (mt1 (mt1 (mt1 (mt1 (List.Mem.head _))))))))))))) rfl
theorem k_408 : Cond.classLink RX10 59 RX2 ∈ BIG := mB (tb_1 (mt8 (mt8 (mt8 (mt8 (mt8 (mt8 (mt8 (mt8 (mt1 (mt1 (mt1 (mt1 (List.Mem.head _)))))))))))))) rfl
theorem k_409 : Cond.instantiable RX2 3 ∈ BIG := mB (tb_1 (mt8 (mt8 (mt8 (mt8 (mt8 (mt8 (mt8 (mt8 (mt1 (mt1 (mt1 (mt1 (mt1 (List.Mem.head _))))))))))))))) rfl
theorem k_410 : Cond.methodLink RX10 61 yX2_init ∈ BIG := mB (tb_1 (mt8 (mt8 (mt8 (mt8 (mt8 (mt8 (mt8 (mt8 (mt1 (mt1 (mt1 (mt1 (mt1 (mt1 (List.Mem.head _)))))))))))))))) rfl
theorem k_411 : Cond.instanceMethod yX2_init ∈ BIG := mB (tb_1 (mt8 (mt8 (mt8 (mt8 (mt8 (mt8 (mt8 (mt8 (mt1 (mt1 (mt1 (mt1 (mt1 (mt1 (mt1 (List.Mem.head _))))))))))))))))) rfl
theorem k_412 : Cond.code yX2_init cX2_init 3 none ∈ BIG := mB (tb_1 (mt8 (mt8 (mt8 (mt8 (mt8 (mt8 (mt8 (mt8 (mt8 (List.Mem.head _))))))))))) rfl
theorem k_413 : Cond.methodLink RX2 3 Lib.objectInit ∈ BIG := mB (tb_1 (mt8 (mt8 (mt8 (mt8 (mt8 (mt8 (mt8 (mt8 (mt8 (mt1 (List.Mem.head _)))))))))))) rfl
theorem k_414 : Cond.fieldLink RX2 15 RX2 "roll" "LTailorRegiment$Roll;" ∈ BIG := mB (tb_1 (mt8 (mt8 (mt8 (mt8 (mt8 (mt8 (mt8 (mt8 (mt8 (mt1 (mt1 (List.Mem.head _))))))))))))) rfl
theorem k_415 : Cond.fieldLink RX2 19 RX2 "now" "LTailorRegiment$Company;" ∈ BIG := mB (tb_1 (mt8 (mt8 (mt8 (mt8 (mt8 (mt8 (mt8 (mt8 (mt8 (mt1 (mt1 (mt1 (List.Mem.head _)))))))))))))) rfl
theorem k_416 : Cond.fieldLink RX2 9 RX2 "lengths" "[I" ∈ BIG := mB (tb_1 (mt8 (mt8 (mt8 (mt8 (mt8 (mt8 (mt8 (mt8 (mt8 (mt1 (mt1 (mt1 (mt1 (List.Mem.head _))))))))))))))) rfl
theorem k_424 : Cond.classLink RX10 66 RX0 ∈ BIG := mB (tb_1 (mt8 (mt8 (mt8 (mt8 (mt8 (mt8 (mt8 (mt8 (mt8 (mt8 (mt1 (mt1 (mt1 (mt1 (List.Mem.head _)))))))))))))))) rfl
theorem k_425 : Cond.instantiable RX0 8 ∈ BIG := mB (tb_1 (mt8 (mt8 (mt8 (mt8 (mt8 (mt8 (mt8 (mt8 (mt8 (mt8 (mt1 (mt1 (mt1 (mt1 (mt1 (List.Mem.head _))))))))))))))))) rfl
theorem k_426 : Cond.methodLink RX10 68 yX0_init ∈ BIG := mB (tb_1 (mt8 (mt8 (mt8 (mt8 (mt8 (mt8 (mt8 (mt8 (mt8 (mt8 (mt1 (mt1 (mt1 (mt1 (mt1 (mt1 (List.Mem.head _)))))))))))))))))) rfl
theorem k_427 : Cond.instanceMethod yX0_init ∈ BIG := mB (tb_1 (mt8 (mt8 (mt8 (mt8 (mt8 (mt8 (mt8 (mt8 (mt8 (mt8 (mt1 (mt1 (mt1 (mt1 (mt1 (mt1 (mt1 (List.Mem.head _))))))))))))))))))) rfl
theorem k_428 : Cond.code yX0_init cX0_init 3 none ∈ BIG := mB (tb_1 (mt8 (mt8 (mt8 (mt8 (mt8 (mt8 (mt8 (mt8 (mt8 (mt8 (mt8 (List.Mem.head _))))))))))))) rfl
theorem k_429 : Cond.methodLink RX0 3 Lib.objectInit ∈ BIG := mB (tb_1 (mt8 (mt8 (mt8 (mt8 (mt8 (mt8 (mt8 (mt8 (mt8 (mt8 (mt8 (mt1 (List.Mem.head _)))))))))))))) rfl
theorem k_430 : Cond.fieldLink RX0 21 RX0 "roll" "LTailorRegiment$Roll;" ∈ BIG := mB (tb_1 (mt8 (mt8 (mt8 (mt8 (mt8 (mt8 (mt8 (mt8 (mt8 (mt8 (mt8 (mt1 (mt1 (List.Mem.head _))))))))))))))) rfl
theorem k_431 : Cond.fieldLink RX0 25 RX0 "now" "LTailorRegiment$Company;" ∈ BIG := mB (tb_1 (mt8 (mt8 (mt8 (mt8 (mt8 (mt8 (mt8 (mt8 (mt8 (mt8 (mt8 (mt1 (mt1 (mt1 (List.Mem.head _)))))))))))))))) rfl
theorem k_432 : Cond.fieldLink RX0 9 RX0 "row" "[I" ∈ BIG := mB (tb_1 (mt8 (mt8 (mt8 (mt8 (mt8 (mt8 (mt8 (mt8 (mt8 (mt8 (mt8 (mt1 (mt1 (mt1 (mt1 (List.Mem.head _))))))))))))))))) rfl
theorem k_433 : Cond.fieldLink RX0 29 RX0 "count" "I" ∈ BIG := mB (tb_1 (mt8 (mt8 (mt8 (mt8 (mt8 (mt8 (mt8 (mt8 (mt8 (mt8 (mt8 (mt1 (mt1 (mt1 (mt1 (mt1 (List.Mem.head _)))))))))))))))))) rfl
theorem k_434 : Cond.fieldLinkNest RX10 350 RX0 "count" "I" "TailorRegiment" ∈ NST := mN (tb_1 (mt8 (mt8 (mt8 (mt8 (mt8 (mt8 (mt8 (mt8 (mt8 (mt8 (mt8 (mt1 (mt1 (mt1 (mt1 (mt1 (mt1 (List.Mem.head _))))))))))))))))))) rfl
theorem k_435 : Cond.fieldLink RX0 15 RX0 "best" "[I" ∈ BIG := mB (tb_1 (mt8 (mt8 (mt8 (mt8 (mt8 (mt8 (mt8 (mt8 (mt8 (mt8 (mt8 (mt1 (mt1 (mt1 (mt1 (mt1 (mt1 (mt1 (List.Mem.head _)))))))))))))))))))) rfl
theorem k_436 : Cond.fieldLink RX0 18 RX0 "gains" "[I" ∈ BIG := mB (tb_1 (mt8 (mt8 (mt8 (mt8 (mt8 (mt8 (mt8 (mt8 (mt8 (mt8 (mt8 (mt8 (List.Mem.head _)))))))))))))) rfl
theorem k_437 : Cond.fieldLink RX0 42 RX0 "dressed" "I" ∈ BIG := mB (tb_1 (mt8 (mt8 (mt8 (mt8 (mt8 (mt8 (mt8 (mt8 (mt8 (mt8 (mt8 (mt8 (mt1 (List.Mem.head _))))))))))))))) rfl
theorem k_438 : Cond.fieldLinkNest RX10 193 RX0 "dressed" "I" "TailorRegiment" ∈ NST := mN (tb_1 (mt8 (mt8 (mt8 (mt8 (mt8 (mt8 (mt8 (mt8 (mt8 (mt8 (mt8 (mt8 (mt1 (mt1 (List.Mem.head _)))))))))))))))) rfl
theorem k_439 : Cond.fieldLink RX0 45 RX0 "dressedIll" "I" ∈ BIG := mB (tb_1 (mt8 (mt8 (mt8 (mt8 (mt8 (mt8 (mt8 (mt8 (mt8 (mt8 (mt8 (mt8 (mt1 (mt1 (mt1 (List.Mem.head _))))))))))))))))) rfl
theorem k_440 : Cond.fieldLinkNest RX10 196 RX0 "dressedIll" "I" "TailorRegiment" ∈ NST := mN (tb_1 (mt8 (mt8 (mt8 (mt8 (mt8 (mt8 (mt8 (mt8 (mt8 (mt8 (mt8 (mt8 (mt1 (mt1 (mt1 (mt1 (List.Mem.head _)))))))))))))))))) rfl
theorem k_458 : Cond.classLink RX10 73 RX8 ∈ BIG := mB (tb_1 (mt8 (mt8 (mt8 (mt8 (mt8 (mt8 (mt8 (mt8 (mt8 (mt8 (mt8 (mt8 (mt8 (mt8 (mt1 (mt1 (mt1 (mt1 (mt1 (mt1 (List.Mem.head _)))))))))))))))))))))) rfl
theorem k_459 : Cond.instantiable RX8 7 ∈ BIG := mB (tb_1 (mt8 (mt8 (mt8 (mt8 (mt8 (mt8 (mt8 (mt8 (mt8 (mt8 (mt8 (mt8 (mt8 (mt8 (mt1 (mt1 (mt1 (mt1 (mt1 (mt1 (mt1 (List.Mem.head _))))))))))))))))))))))) rfl
theorem k_460 : Cond.methodLink RX10 75 yX8_init ∈ BIG := mB (tb_1 (mt8 (mt8 (mt8 (mt8 (mt8 (mt8 (mt8 (mt8 (mt8 (mt8 (mt8 (mt8 (mt8 (mt8 (mt8 (List.Mem.head _))))))))))))))))) rfl
theorem k_461 : Cond.instanceMethod yX8_init ∈ BIG := mB (tb_1 (mt8 (mt8 (mt8 (mt8 (mt8 (mt8 (mt8 (mt8 (mt8 (mt8 (mt8 (mt8 (mt8 (mt8 (mt8 (mt1 (List.Mem.head _)))))))))))))))))) rfl
theorem k_462 : Cond.code yX8_init cX8_init 2 none ∈ BIG := mB (tb_1 (mt8 (mt8 (mt8 (mt8 (mt8 (mt8 (mt8 (mt8 (mt8 (mt8 (mt8 (mt8 (mt8 (mt8 (mt8 (mt1 (mt1 (List.Mem.head _))))))))))))))))))) rfl
theorem k_463 : Cond.methodLink RX8 3 Lib.objectInit ∈ BIG := mB (tb_1 (mt8 (mt8 (mt8 (mt8 (mt8 (mt8 (mt8 (mt8 (mt8 (mt8 (mt8 (mt8 (mt8 (mt8 (mt8 (mt1 (mt1 (mt1 (List.Mem.head _)))))))))))))))))))) rfl
theorem k_464 : Cond.methodLink RX8 32 yJ7_fill_53178 ∈ BIG := mB (tb_1 (mt8 (mt8 (mt8 (mt8 (mt8 (mt8 (mt8 (mt8 (mt8 (mt8 (mt8 (mt8 (mt8 (mt8 (mt8 (mt1 (mt1 (mt1 (mt1 (List.Mem.head _))))))))))))))))))))) rfl
theorem k_465 : Cond.static yJ7_fill_53178 ∈ BIG := mB (tb_1 (mt8 (mt8 (mt8 (mt8 (mt8 (mt8 (mt8 (mt8 (mt8 (mt8 (mt8 (mt8 (mt8 (mt8 (mt8 (mt1 (mt1 (mt1 (mt1 (mt1 (List.Mem.head _)))))))))))))))))))))) rfl
theorem k_466 : Cond.code yJ7_fill_53178 cJ7_fill_53178 4 none ∈ BIG := mB (tb_1 (mt8 (mt8 (mt8 (mt8 (mt8 (mt8 (mt8 (mt8 (mt8 (mt8 (mt8 (mt8 (mt8 (mt8 (mt8 (mt1 (mt1 (mt1 (mt1 (mt1 (mt1 (List.Mem.head _))))))))))))))))))))))) rfl
theorem k_467 : Cond.fieldLink RX8 28 RX8 "roll" "LTailorRegiment$Roll;" ∈ BIG := mB (tb_1 (mt8 (mt8 (mt8 (mt8 (mt8 (mt8 (mt8 (mt8 (mt8 (mt8 (mt8 (mt8 (mt8 (mt8 (mt8 (mt1 (mt1 (mt1 (mt1 (mt1 (mt1 (mt1 (List.Mem.head _)))))))))))))))))))))))) rfl
theorem k_468 : Cond.fieldLink RX8 11 RX8 "days" "[I" ∈ BIG := mB (tb_1 (mt8 (mt8 (mt8 (mt8 (mt8 (mt8 (mt8 (mt8 (mt8 (mt8 (mt8 (mt8 (mt8 (mt8 (mt8 (mt8 (List.Mem.head _)))))))))))))))))) rfl
theorem k_469 : Cond.fieldLink RX8 15 RX8 "fitted" "[Z" ∈ BIG := mB (tb_1 (mt8 (mt8 (mt8 (mt8 (mt8 (mt8 (mt8 (mt8 (mt8 (mt8 (mt8 (mt8 (mt8 (mt8 (mt8 (mt8 (mt1 (List.Mem.head _))))))))))))))))))) rfl
theorem k_470 : Cond.fieldLink RX8 19 RX8 "toldAt" "[I" ∈ BIG := mB (tb_1 (mt8 (mt8 (mt8 (mt8 (mt8 (mt8 (mt8 (mt8 (mt8 (mt8 (mt8 (mt8 (mt8 (mt8 (mt8 (mt8 (mt1 (mt1 (List.Mem.head _)))))))))))))))))))) rfl
theorem k_471 : Cond.fieldLink RX8 22 RX8 "untoldAt" "[I" ∈ BIG := mB (tb_1 (mt8 (mt8 (mt8 (mt8 (mt8 (mt8 (mt8 (mt8 (mt8 (mt8 (mt8 (mt8 (mt8 (mt8 (mt8 (mt8 (mt1 (mt1 (mt1 (List.Mem.head _))))))))))))))))))))) rfl
theorem k_472 : Cond.fieldLink RX8 38 RX8 "count" "I" ∈ BIG := mB (tb_1 (mt8 (mt8 (mt8 (mt8 (mt8 (mt8 (mt8 (mt8 (mt8 (mt8 (mt8 (mt8 (mt8 (mt8 (mt8 (mt8 (mt1 (mt1 (mt1 (mt1 (List.Mem.head _)))))))))))))))))))))) rfl
theorem k_473 : Cond.fieldLinkNest RX10 338 RX8 "count" "I" "TailorRegiment" ∈ NST := mN (tb_1 (mt8 (mt8 (mt8 (mt8 (mt8 (mt8 (mt8 (mt8 (mt8 (mt8 (mt8 (mt8 (mt8 (mt8 (mt8 (mt8 (mt1 (mt1 (mt1 (mt1 (mt1 (List.Mem.head _))))))))))))))))))))))) rfl
theorem k_474 : Cond.fieldLink RX8 25 RX8 "fitting" "[I" ∈ BIG := mB (tb_1 (mt8 (mt8 (mt8 (mt8 (mt8 (mt8 (mt8 (mt8 (mt8 (mt8 (mt8 (mt8 (mt8 (mt8 (mt8 (mt8 (mt1 (mt1 (mt1 (mt1 (mt1 (mt1 (List.Mem.head _)))))))))))))))))))))))) rfl
theorem k_490 : Cond.arrayClass .boolean ∈ BIG := mB (tb_1 (mt8 (mt8 (mt8 (mt8 (mt8 (mt8 (mt8 (mt8 (mt8 (mt8 (mt8 (mt8 (mt8 (mt8 (mt8 (mt8 (mt8 (mt8 (mt1 (mt1 (mt1 (mt1 (mt1 (mt1 (List.Mem.head _)))))))))))))))))))))))))) rfl
theorem k_491 : Cond.fieldLink RX10 10 RX10 "tape" "LTailorRegiment$Tape;" ∈ BIG := mB (tb_1 (mt8 (mt8 (mt8 (mt8 (mt8 (mt8 (mt8 (mt8 (mt8 (mt8 (mt8 (mt8 (mt8 (mt8 (mt8 (mt8 (mt8 (mt8 (mt1 (mt1 (mt1 (mt1 (mt1 (mt1 (mt1 (List.Mem.head _))))))))))))))))))))))))))) rfl
theorem k_492 : Cond.fieldLink RX10 21 RX10 "reader" "LTailorRegiment$Reader;" ∈ BIG := mB (tb_1 (mt8 (mt8 (mt8 (mt8 (mt8 (mt8 (mt8 (mt8 (mt8 (mt8 (mt8 (mt8 (mt8 (mt8 (mt8 (mt8 (mt8 (mt8 (mt8 (List.Mem.head _))))))))))))))))))))) rfl
theorem k_493 : Cond.fieldLink RX10 28 RX10 "roll" "LTailorRegiment$Roll;" ∈ BIG := mB (tb_1 (mt8 (mt8 (mt8 (mt8 (mt8 (mt8 (mt8 (mt8 (mt8 (mt8 (mt8 (mt8 (mt8 (mt8 (mt8 (mt8 (mt8 (mt8 (mt8 (mt1 (List.Mem.head _)))))))))))))))))))))) rfl
theorem k_494 : Cond.fieldLink RX10 37 RX10 "now" "LTailorRegiment$Company;" ∈ BIG := mB (tb_1 (mt8 (mt8 (mt8 (mt8 (mt8 (mt8 (mt8 (mt8 (mt8 (mt8 (mt8 (mt8 (mt8 (mt8 (mt8 (mt8 (mt8 (mt8 (mt8 (mt1 (mt1 (List.Mem.head _))))))))))))))))))))))) rfl
theorem k_495 : Cond.fieldLink RX10 46 RX10 "memory" "LTailorRegiment$Memory;" ∈ BIG := mB (tb_1 (mt8 (mt8 (mt8 (mt8 (mt8 (mt8 (mt8 (mt8 (mt8 (mt8 (mt8 (mt8 (mt8 (mt8 (mt8 (mt8 (mt8 (mt8 (mt8 (mt1 (mt1 (mt1 (List.Mem.head _)))))))))))))))))))))))) rfl
theorem k_496 : Cond.fieldLink RX10 55 RX10 "fitting" "LTailorRegiment$Fitting;" ∈ BIG := mB (tb_1 (mt8 (mt8 (mt8 (mt8 (mt8 (mt8 (mt8 (mt8 (mt8 (mt8 (mt8 (mt8 (mt8 (mt8 (mt8 (mt8 (mt8 (mt8 (mt8 (mt1 (mt1 (mt1 (mt1 (List.Mem.head _))))))))))))))))))))))))) rfl
theorem k_497 : Cond.fieldLink RX10 62 RX10 "cutting" "LTailorRegiment$Cutting;" ∈ BIG := mB (tb_1 (mt8 (mt8 (mt8 (mt8 (mt8 (mt8 (mt8 (mt8 (mt8 (mt8 (mt8 (mt8 (mt8 (mt8 (mt8 (mt8 (mt8 (mt8 (mt8 (mt1 (mt1 (mt1 (mt1 (mt1 (List.Mem.head _)))))))))))))))))))))))))) rfl
theorem k_498 : Cond.fieldLink RX10 69 RX10 "choices" "LTailorRegiment$Choices;" ∈ BIG := mB (tb_1 (mt8 (mt8 (mt8 (mt8 (mt8 (mt8 (mt8 (mt8 (mt8 (mt8 (mt8 (mt8 (mt8 (mt8 (mt8 (mt8 (mt8 (mt8 (mt8 (mt1 (mt1 (mt1 (mt1 (mt1 (mt1 (List.Mem.head _))))))))))))))))))))))))))) rfl
theorem k_499 : Cond.fieldLink RX10 76 RX10 "sightings" "LTailorRegiment$Sightings;" ∈ BIG := mB (tb_1 (mt8 (mt8 (mt8 (mt8 (mt8 (mt8 (mt8 (mt8 (mt8 (mt8 (mt8 (mt8 (mt8 (mt8 (mt8 (mt8 (mt8 (mt8 (mt8 (mt1 (mt1 (mt1 (mt1 (mt1 (mt1 (mt1 (List.Mem.head _)))))))))))))))))))))))))))) rfl
theorem k_500 : Cond.fieldLink RX10 288 RX10 "time" "I" ∈ BIG := mB (tb_1 (mt8 (mt8 (mt8 (mt8 (mt8 (mt8 (mt8 (mt8 (mt8 (mt8 (mt8 (mt8 (mt8 (mt8 (mt8 (mt8 (mt8 (mt8 (mt8 (mt8 (List.Mem.head _)))))))))))))))))))))) rfl
theorem k_522 : Cond.methodLink RL 13 yX10_feed ∈ BIG := mB (tb_1 (mt8 (mt8 (mt8 (mt8 (mt8 (mt8 (mt8 (mt8 (mt8 (mt8 (mt8 (mt8 (mt8 (mt8 (mt8 (mt8 (mt8 (mt8 (mt8 (mt8 (mt8 (mt8 (mt1 (mt1 (mt1 (mt1 (mt1 (mt1 (List.Mem.head _)))))))))))))))))))))))))))))) rfl
theorem k_523 : Cond.instanceMethod yX10_feed ∈ BIG := mB (tb_1 (mt8 (mt8 (mt8 (mt8 (mt8 (mt8 (mt8 (mt8 (mt8 (mt8 (mt8 (mt8 (mt8 (mt8 (mt8 (mt8 (mt8 (mt8 (mt8 (mt8 (mt8 (mt8 (mt1 (mt1 (mt1 (mt1 (mt1 (mt1 (mt1 (List.Mem.head _))))))))))))))))))))))))))))))) rfl
theorem k_524 : Cond.selects RX10 yX10_feed yX10_feed ∈ BIG := mB (tb_1 (mt8 (mt8 (mt8 (mt8 (mt8 (mt8 (mt8 (mt8 (mt8 (mt8 (mt8 (mt8 (mt8 (mt8 (mt8 (mt8 (mt8 (mt8 (mt8 (mt8 (mt8 (mt8 (mt8 (List.Mem.head _))))))))))))))))))))))))) rfl
theorem k_525 : Cond.code yX10_feed cX10_feed 6 (some .int) ∈ BIG := mB (tb_1 (mt8 (mt8 (mt8 (mt8 (mt8 (mt8 (mt8 (mt8 (mt8 (mt8 (mt8 (mt8 (mt8 (mt8 (mt8 (mt8 (mt8 (mt8 (mt8 (mt8 (mt8 (mt8 (mt8 (mt1 (List.Mem.head _)))))))))))))))))))))))))) rfl
theorem k_526 : Cond.methodLink RX10 80 yX9_hasRoom ∈ BIG := mB (tb_1 (mt8 (mt8 (mt8 (mt8 (mt8 (mt8 (mt8 (mt8 (mt8 (mt8 (mt8 (mt8 (mt8 (mt8 (mt8 (mt8 (mt8 (mt8 (mt8 (mt8 (mt8 (mt8 (mt8 (mt1 (mt1 (List.Mem.head _))))))))))))))))))))))))))) rfl
theorem k_527 : Cond.instanceMethod yX9_hasRoom ∈ BIG := mB (tb_1 (mt8 (mt8 (mt8 (mt8 (mt8 (mt8 (mt8 (mt8 (mt8 (mt8 (mt8 (mt8 (mt8 (mt8 (mt8 (mt8 (mt8 (mt8 (mt8 (mt8 (mt8 (mt8 (mt8 (mt1 (mt1 (mt1 (List.Mem.head _)))))))))))))))))))))))))))) rfl
theorem k_528 : Cond.selects RX9 yX9_hasRoom yX9_hasRoom ∈ BIG := mB (tb_1 (mt8 (mt8 (mt8 (mt8 (mt8 (mt8 (mt8 (mt8 (mt8 (mt8 (mt8 (mt8 (mt8 (mt8 (mt8 (mt8 (mt8 (mt8 (mt8 (mt8 (mt8 (mt8 (mt8 (mt1 (mt1 (mt1 (mt1 (List.Mem.head _))))))))))))))))))))))))))))) rfl
theorem k_529 : Cond.code yX9_hasRoom cX9_hasRoom 1 (some .boolean) ∈ BIG := mB (tb_1 (mt8 (mt8 (mt8 (mt8 (mt8 (mt8 (mt8 (mt8 (mt8 (mt8 (mt8 (mt8 (mt8 (mt8 (mt8 (mt8 (mt8 (mt8 (mt8 (mt8 (mt8 (mt8 (mt8 (mt1 (mt1 (mt1 (mt1 (mt1 (List.Mem.head _)))))))))))))))))))))))))))))) rfl
theorem k_530 : Cond.methodLink RX10 84 yX9_append ∈ BIG := mB (tb_1 (mt8 (mt8 (mt8 (mt8 (mt8 (mt8 (mt8 (mt8 (mt8 (mt8 (mt8 (mt8 (mt8 (mt8 (mt8 (mt8 (mt8 (mt8 (mt8 (mt8 (mt8 (mt8 (mt8 (mt1 (mt1 (mt1 (mt1 (mt1 (mt1 (List.Mem.head _))))))))))))))))))))))))))))))) rfl
theorem k_531 : Cond.instanceMethod yX9_append ∈ BIG := mB (tb_1 (mt8 (mt8 (mt8 (mt8 (mt8 (mt8 (mt8 (mt8 (mt8 (mt8 (mt8 (mt8 (mt8 (mt8 (mt8 (mt8 (mt8 (mt8 (mt8 (mt8 (mt8 (mt8 (mt8 (mt1 (mt1 (mt1 (mt1 (mt1 (mt1 (mt1 (List.Mem.head _)))))))))))))))))))))))))))))))) rfl
theorem k_532 : Cond.selects RX9 yX9_append yX9_append ∈ BIG := mB (tb_1 (mt8 (mt8 (mt8 (mt8 (mt8 (mt8 (mt8 (mt8 (mt8 (mt8 (mt8 (mt8 (mt8 (mt8 (mt8 (mt8 (mt8 (mt8 (mt8 (mt8 (mt8 (mt8 (mt8 (mt8 (List.Mem.head _)))))))))))))))))))))))))) rfl
theorem k_533 : Cond.code yX9_append cX9_append 3 none ∈ BIG := mB (tb_1 (mt8 (mt8 (mt8 (mt8 (mt8 (mt8 (mt8 (mt8 (mt8 (mt8 (mt8 (mt8 (mt8 (mt8 (mt8 (mt8 (mt8 (mt8 (mt8 (mt8 (mt8 (mt8 (mt8 (mt8 (mt1 (List.Mem.head _))))))))))))))))))))))))))) rfl
theorem k_534 : Cond.methodLink RL 18 yX10_end ∈ BIG := mB (tb_1 (mt8 (mt8 (mt8 (mt8 (mt8 (mt8 (mt8 (mt8 (mt8 (mt8 (mt8 (mt8 (mt8 (mt8 (mt8 (mt8 (mt8 (mt8 (mt8 (mt8 (mt8 (mt8 (mt8 (mt8 (mt1 (mt1 (List.Mem.head _)))))))))))))))))))))))))))) rfl
theorem k_535 : Cond.instanceMethod yX10_end ∈ BIG := mB (tb_1 (mt8 (mt8 (mt8 (mt8 (mt8 (mt8 (mt8 (mt8 (mt8 (mt8 (mt8 (mt8 (mt8 (mt8 (mt8 (mt8 (mt8 (mt8 (mt8 (mt8 (mt8 (mt8 (mt8 (mt8 (mt1 (mt1 (mt1 (List.Mem.head _))))))))))))))))))))))))))))) rfl
theorem k_536 : Cond.selects RX10 yX10_end yX10_end ∈ BIG := mB (tb_1 (mt8 (mt8 (mt8 (mt8 (mt8 (mt8 (mt8 (mt8 (mt8 (mt8 (mt8 (mt8 (mt8 (mt8 (mt8 (mt8 (mt8 (mt8 (mt8 (mt8 (mt8 (mt8 (mt8 (mt8 (mt1 (mt1 (mt1 (mt1 (List.Mem.head _)))))))))))))))))))))))))))))) rfl
theorem k_537 : Cond.code yX10_end cX10_end 2 (some .int) ∈ BIG := mB (tb_1 (mt8 (mt8 (mt8 (mt8 (mt8 (mt8 (mt8 (mt8 (mt8 (mt8 (mt8 (mt8 (mt8 (mt8 (mt8 (mt8 (mt8 (mt8 (mt8 (mt8 (mt8 (mt8 (mt8 (mt8 (mt1 (mt1 (mt1 (mt1 (mt1 (List.Mem.head _))))))))))))))))))))))))))))))) rfl
theorem k_538 : Cond.methodLink RL 23 yX10_regiment ∈ BIG := mB (tb_1 (mt8 (mt8 (mt8 (mt8 (mt8 (mt8 (mt8 (mt8 (mt8 (mt8 (mt8 (mt8 (mt8 (mt8 (mt8 (mt8 (mt8 (mt8 (mt8 (mt8 (mt8 (mt8 (mt8 (mt8 (mt1 (mt1 (mt1 (mt1 (mt1 (mt1 (List.Mem.head _)))))))))))))))))))))))))))))))) rfl
theorem k_539 : Cond.instanceMethod yX10_regiment ∈ BIG := mB (tb_1 (mt8 (mt8 (mt8 (mt8 (mt8 (mt8 (mt8 (mt8 (mt8 (mt8 (mt8 (mt8 (mt8 (mt8 (mt8 (mt8 (mt8 (mt8 (mt8 (mt8 (mt8 (mt8 (mt8 (mt8 (mt1 (mt1 (mt1 (mt1 (mt1 (mt1 (mt1 (List.Mem.head _))))))))))))))))))))))))))))))))) rfl
theorem k_540 : Cond.selects RX10 yX10_regiment yX10_regiment ∈ BIG := mB (tb_1 (mt8 (mt8 (mt8 (mt8 (mt8 (mt8 (mt8 (mt8 (mt8 (mt8 (mt8 (mt8 (mt8 (mt8 (mt8 (mt8 (mt8 (mt8 (mt8 (mt8 (mt8 (mt8 (mt8 (mt8 (mt8 (List.Mem.head _))))))))))))))))))))))))))) rfl
theorem k_541 : Cond.code yX10_regiment cX10_regiment 2 (some .int) ∈ BIG := mB (tb_1 (mt8 (mt8 (mt8 (mt8 (mt8 (mt8 (mt8 (mt8 (mt8 (mt8 (mt8 (mt8 (mt8 (mt8 (mt8 (mt8 (mt8 (mt8 (mt8 (mt8 (mt8 (mt8 (mt8 (mt8 (mt8 (mt1 (List.Mem.head _)))))))))))))))))))))))))))) rfl
theorem k_542 : Cond.methodLink RX10 92 yX6_read ∈ BIG := mB (tb_1 (mt8 (mt8 (mt8 (mt8 (mt8 (mt8 (mt8 (mt8 (mt8 (mt8 (mt8 (mt8 (mt8 (mt8 (mt8 (mt8 (mt8 (mt8 (mt8 (mt8 (mt8 (mt8 (mt8 (mt8 (mt8 (mt1 (mt1 (List.Mem.head _))))))))))))))))))))))))))))) rfl
theorem k_543 : Cond.instanceMethod yX6_read ∈ BIG := mB (tb_1 (mt8 (mt8 (mt8 (mt8 (mt8 (mt8 (mt8 (mt8 (mt8 (mt8 (mt8 (mt8 (mt8 (mt8 (mt8 (mt8 (mt8 (mt8 (mt8 (mt8 (mt8 (mt8 (mt8 (mt8 (mt8 (mt1 (mt1 (mt1 (List.Mem.head _)))))))))))))))))))))))))))))) rfl
theorem k_544 : Cond.selects RX6 yX6_read yX6_read ∈ BIG := mB (tb_1 (mt8 (mt8 (mt8 (mt8 (mt8 (mt8 (mt8 (mt8 (mt8 (mt8 (mt8 (mt8 (mt8 (mt8 (mt8 (mt8 (mt8 (mt8 (mt8 (mt8 (mt8 (mt8 (mt8 (mt8 (mt8 (mt1 (mt1 (mt1 (mt1 (List.Mem.head _))))))))))))))))))))))))))))))) rfl
theorem k_545 : Cond.code yX6_read cX6_read 2 (some .boolean) ∈ BIG := mB (tb_1 (mt8 (mt8 (mt8 (mt8 (mt8 (mt8 (mt8 (mt8 (mt8 (mt8 (mt8 (mt8 (mt8 (mt8 (mt8 (mt8 (mt8 (mt8 (mt8 (mt8 (mt8 (mt8 (mt8 (mt8 (mt8 (mt1 (mt1 (mt1 (mt1 (mt1 (List.Mem.head _)))))))))))))))))))))))))))))))) rfl
theorem k_546 : Cond.methodLink RX6 33 yX7_clear ∈ BIG := mB (tb_1 (mt8 (mt8 (mt8 (mt8 (mt8 (mt8 (mt8 (mt8 (mt8 (mt8 (mt8 (mt8 (mt8 (mt8 (mt8 (mt8 (mt8 (mt8 (mt8 (mt8 (mt8 (mt8 (mt8 (mt8 (mt8 (mt1 (mt1 (mt1 (mt1 (mt1 (mt1 (List.Mem.head _))))))))))))))))))))))))))))))))) rfl
theorem k_547 : Cond.instanceMethod yX7_clear ∈ BIG := mB (tb_1 (mt8 (mt8 (mt8 (mt8 (mt8 (mt8 (mt8 (mt8 (mt8 (mt8 (mt8 (mt8 (mt8 (mt8 (mt8 (mt8 (mt8 (mt8 (mt8 (mt8 (mt8 (mt8 (mt8 (mt8 (mt8 (mt1 (mt1 (mt1 (mt1 (mt1 (mt1 (mt1 (List.Mem.head _)))))))))))))))))))))))))))))))))) rfl
theorem k_548 : Cond.selects RX7 yX7_clear yX7_clear ∈ BIG := mB (tb_1 (mt8 (mt8 (mt8 (mt8 (mt8 (mt8 (mt8 (mt8 (mt8 (mt8 (mt8 (mt8 (mt8 (mt8 (mt8 (mt8 (mt8 (mt8 (mt8 (mt8 (mt8 (mt8 (mt8 (mt8 (mt8 (mt8 (List.Mem.head _)))))))))))))))))))))))))))) rfl
theorem k_549 : Cond.code yX7_clear cX7_clear 1 none ∈ BIG := mB (tb_1 (mt8 (mt8 (mt8 (mt8 (mt8 (mt8 (mt8 (mt8 (mt8 (mt8 (mt8 (mt8 (mt8 (mt8 (mt8 (mt8 (mt8 (mt8 (mt8 (mt8 (mt8 (mt8 (mt8 (mt8 (mt8 (mt8 (mt1 (List.Mem.head _))))))))))))))))))))))))))))) rfl
theorem k_550 : Cond.methodLink RX7 35 yX4_clear ∈ BIG := mB (tb_1 (mt8 (mt8 (mt8 (mt8 (mt8 (mt8 (mt8 (mt8 (mt8 (mt8 (mt8 (mt8 (mt8 (mt8 (mt8 (mt8 (mt8 (mt8 (mt8 (mt8 (mt8 (mt8 (mt8 (mt8 (mt8 (mt8 (mt1 (mt1 (List.Mem.head _)))))))))))))))))))))))))))))) rfl
theorem k_551 : Cond.instanceMethod yX4_clear ∈ BIG := mB (tb_1 (mt8 (mt8 (mt8 (mt8 (mt8 (mt8 (mt8 (mt8 (mt8 (mt8 (mt8 (mt8 (mt8 (mt8 (mt8 (mt8 (mt8 (mt8 (mt8 (mt8 (mt8 (mt8 (mt8 (mt8 (mt8 (mt8 (mt1 (mt1 (mt1 (List.Mem.head _))))))))))))))))))))))))))))))) rfl
theorem k_552 : Cond.selects RX4 yX4_clear yX4_clear ∈ BIG := mB (tb_1 (mt8 (mt8 (mt8 (mt8 (mt8 (mt8 (mt8 (mt8 (mt8 (mt8 (mt8 (mt8 (mt8 (mt8 (mt8 (mt8 (mt8 (mt8 (mt8 (mt8 (mt8 (mt8 (mt8 (mt8 (mt8 (mt8 (mt1 (mt1 (mt1 (mt1 (List.Mem.head _)))))))))))))))))))))))))))))))) rfl
theorem k_553 : Cond.code yX4_clear cX4_clear 1 none ∈ BIG := mB (tb_1 (mt8 (mt8 (mt8 (mt8 (mt8 (mt8 (mt8 (mt8 (mt8 (mt8 (mt8 (mt8 (mt8 (mt8 (mt8 (mt8 (mt8 (mt8 (mt8 (mt8 (mt8 (mt8 (mt8 (mt8 (mt8 (mt8 (mt1 (mt1 (mt1 (mt1 (mt1 (List.Mem.head _))))))))))))))))))))))))))))))))) rfl
theorem k_554 : Cond.methodLink RX6 42 yX9_rewind ∈ BIG := mB (tb_1 (mt8 (mt8 (mt8 (mt8 (mt8 (mt8 (mt8 (mt8 (mt8 (mt8 (mt8 (mt8 (mt8 (mt8 (mt8 (mt8 (mt8 (mt8 (mt8 (mt8 (mt8 (mt8 (mt8 (mt8 (mt8 (mt8 (mt1 (mt1 (mt1 (mt1 (mt1 (mt1 (List.Mem.head _)))))))))))))))))))))))))))))))))) rfl
theorem k_555 : Cond.instanceMethod yX9_rewind ∈ BIG := mB (tb_1 (mt8 (mt8 (mt8 (mt8 (mt8 (mt8 (mt8 (mt8 (mt8 (mt8 (mt8 (mt8 (mt8 (mt8 (mt8 (mt8 (mt8 (mt8 (mt8 (mt8 (mt8 (mt8 (mt8 (mt8 (mt8 (mt8 (mt1 (mt1 (mt1 (mt1 (mt1 (mt1 (mt1 (List.Mem.head _))))))))))))))))))))))))))))))))))) rfl
theorem k_556 : Cond.selects RX9 yX9_rewind yX9_rewind ∈ BIG := mB (tb_1 (mt8 (mt8 (mt8 (mt8 (mt8 (mt8 (mt8 (mt8 (mt8 (mt8 (mt8 (mt8 (mt8 (mt8 (mt8 (mt8 (mt8 (mt8 (mt8 (mt8 (mt8 (mt8 (mt8 (mt8 (mt8 (mt8 (mt8 (List.Mem.head _))))))))))))))))))))))))))))) rfl
theorem k_557 : Cond.code yX9_rewind cX9_rewind 1 none ∈ BIG := mB (tb_1 (mt8 (mt8 (mt8 (mt8 (mt8 (mt8 (mt8 (mt8 (mt8 (mt8 (mt8 (mt8 (mt8 (mt8 (mt8 (mt8 (mt8 (mt8 (mt8 (mt8 (mt8 (mt8 (mt8 (mt8 (mt8 (mt8 (mt8 (mt1 (List.Mem.head _)))))))))))))))))))))))))))))) rfl
theorem k_558 : Cond.methodLink RX9 22 yX9_advance ∈ BIG := mB (tb_1 (mt8 (mt8 (mt8 (mt8 (mt8 (mt8 (mt8 (mt8 (mt8 (mt8 (mt8 (mt8 (mt8 (mt8 (mt8 (mt8 (mt8 (mt8 (mt8 (mt8 (mt8 (mt8 (mt8 (mt8 (mt8 (mt8 (mt8 (mt1 (mt1 (List.Mem.head _))))))))))))))))))))))))))))))) rfl
theorem k_559 : Cond.instanceMethod yX9_advance ∈ BIG := mB (tb_1 (mt8 (mt8 (mt8 (mt8 (mt8 (mt8 (mt8 (mt8 (mt8 (mt8 (mt8 (mt8 (mt8 (mt8 (mt8 (mt8 (mt8 (mt8 (mt8 (mt8 (mt8 (mt8 (mt8 (mt8 (mt8 (mt8 (mt8 (mt1 (mt1 (mt1 (List.Mem.head _)))))))))))))))))))))))))))))))) rfl
theorem k_560 : Cond.selects RX9 yX9_advance yX9_advance ∈ BIG := mB (tb_1 (mt8 (mt8 (mt8 (mt8 (mt8 (mt8 (mt8 (mt8 (mt8 (mt8 (mt8 (mt8 (mt8 (mt8 (mt8 (mt8 (mt8 (mt8 (mt8 (mt8 (mt8 (mt8 (mt8 (mt8 (mt8 (mt8 (mt8 (mt1 (mt1 (mt1 (mt1 (List.Mem.head _))))))))))))))))))))))))))))))))) rfl
theorem k_561 : Cond.code yX9_advance cX9_advance 1 none ∈ BIG := mB (tb_1 (mt8 (mt8 (mt8 (mt8 (mt8 (mt8 (mt8 (mt8 (mt8 (mt8 (mt8 (mt8 (mt8 (mt8 (mt8 (mt8 (mt8 (mt8 (mt8 (mt8 (mt8 (mt8 (mt8 (mt8 (mt8 (mt8 (mt8 (mt1 (mt1 (mt1 (mt1 (mt1 (List.Mem.head _)))))))))))))))))))))))))))))))))) rfl
theorem k_562 : Cond.methodLink RX9 31 yX9_isLetter ∈ BIG := mB (tb_1 (mt8 (mt8 (mt8 (mt8 (mt8 (mt8 (mt8 (mt8 (mt8 (mt8 (mt8 (mt8 (mt8 (mt8 (mt8 (mt8 (mt8 (mt8 (mt8 (mt8 (mt8 (mt8 (mt8 (mt8 (mt8 (mt8 (mt8 (mt1 (mt1 (mt1 (mt1 (mt1 (mt1 (List.Mem.head _))))))))))))))))))))))))))))))))))) rfl
theorem k_564 : Cond.instanceMethod yX9_isLetter ∈ BIG := mB (tb_1 (mt8 (mt8 (mt8 (mt8 (mt8 (mt8 (mt8 (mt8 (mt8 (mt8 (mt8 (mt8 (mt8 (mt8 (mt8 (mt8 (mt8 (mt8 (mt8 (mt8 (mt8 (mt8 (mt8 (mt8 (mt8 (mt8 (mt8 (mt8 (List.Mem.head _)))))))))))))))))))))))))))))) rfl
theorem k_565 : Cond.code yX9_isLetter cX9_isLetter 2 (some .boolean) ∈ BIG := mB (tb_1 (mt8 (mt8 (mt8 (mt8 (mt8 (mt8 (mt8 (mt8 (mt8 (mt8 (mt8 (mt8 (mt8 (mt8 (mt8 (mt8 (mt8 (mt8 (mt8 (mt8 (mt8 (mt8 (mt8 (mt8 (mt8 (mt8 (mt8 (mt8 (mt1 (List.Mem.head _))))))))))))))))))))))))))))))) rfl
theorem k_566 : Cond.methodLink RX9 35 yX9_wordKind ∈ BIG := mB (tb_1 (mt8 (mt8 (mt8 (mt8 (mt8 (mt8 (mt8 (mt8 (mt8 (mt8 (mt8 (mt8 (mt8 (mt8 (mt8 (mt8 (mt8 (mt8 (mt8 (mt8 (mt8 (mt8 (mt8 (mt8 (mt8 (mt8 (mt8 (mt8 (mt1 (mt1 (List.Mem.head _)))))))))))))))))))))))))))))))) rfl
theorem k_568 : Cond.instanceMethod yX9_wordKind ∈ BIG := mB (tb_1 (mt8 (mt8 (mt8 (mt8 (mt8 (mt8 (mt8 (mt8 (mt8 (mt8 (mt8 (mt8 (mt8 (mt8 (mt8 (mt8 (mt8 (mt8 (mt8 (mt8 (mt8 (mt8 (mt8 (mt8 (mt8 (mt8 (mt8 (mt8 (mt1 (mt1 (mt1 (mt1 (List.Mem.head _)))))))))))))))))))))))))))))))))) rfl
theorem k_569 : Cond.code yX9_wordKind cX9_wordKind 7 (some .int) ∈ BIG := mB (tb_1 (mt8 (mt8 (mt8 (mt8 (mt8 (mt8 (mt8 (mt8 (mt8 (mt8 (mt8 (mt8 (mt8 (mt8 (mt8 (mt8 (mt8 (mt8 (mt8 (mt8 (mt8 (mt8 (mt8 (mt8 (mt8 (mt8 (mt8 (mt8 (mt1 (mt1 (mt1 (mt1 (mt1 (List.Mem.head _))))))))))))))))))))))))))))))))))) rfl
theorem k_571 : Cond.methodLink RX9 55 yJ0_length_8abf5 ∈ BIG := mB (tb_1 (mt8 (mt8 (mt8 (mt8 (mt8 (mt8 (mt8 (mt8 (mt8 (mt8 (mt8 (mt8 (mt8 (mt8 (mt8 (mt8 (mt8 (mt8 (mt8 (mt8 (mt8 (mt8 (mt8 (mt8 (mt8 (mt8 (mt8 (mt8 (mt1 (mt1 (mt1 (mt1 (mt1 (mt1 (mt1 (List.Mem.head _))))))))))))))))))))))))))))))))))))) rfl
theorem k_572 : Cond.instanceMethod yJ0_length_8abf5 ∈ BIG := mB (tb_1 (mt8 (mt8 (mt8 (mt8 (mt8 (mt8 (mt8 (mt8 (mt8 (mt8 (mt8 (mt8 (mt8 (mt8 (mt8 (mt8 (mt8 (mt8 (mt8 (mt8 (mt8 (mt8 (mt8 (mt8 (mt8 (mt8 (mt8 (mt8 (mt8 (List.Mem.head _))))))))))))))))))))))))))))))) rfl
theorem k_573 : Cond.selects RJ0 yJ0_length_8abf5 yJ0_length_8abf5 ∈ BIG := mB (tb_1 (mt8 (mt8 (mt8 (mt8 (mt8 (mt8 (mt8 (mt8 (mt8 (mt8 (mt8 (mt8 (mt8 (mt8 (mt8 (mt8 (mt8 (mt8 (mt8 (mt8 (mt8 (mt8 (mt8 (mt8 (mt8 (mt8 (mt8 (mt8 (mt8 (mt1 (List.Mem.head _)))))))))))))))))))))))))))))))) rfl
theorem k_574 : Cond.code yJ0_length_8abf5 cJ0_length_8abf5 1 (some .int) ∈ BIG := mB (tb_1 (mt8 (mt8 (mt8 (mt8 (mt8 (mt8 (mt8 (mt8 (mt8 (mt8 (mt8 (mt8 (mt8 (mt8 (mt8 (mt8 (mt8 (mt8 (mt8 (mt8 (mt8 (mt8 (mt8 (mt8 (mt8 (mt8 (mt8 (mt8 (mt8 (mt1 (mt1 (List.Mem.head _))))))))))))))))))))))))))))))))) rfl
theorem k_575 : Cond.methodLink RJ0 335 yJ0_coder_7d493 ∈ BIG := mB (tb_1 (mt8 (mt8 (mt8 (mt8 (mt8 (mt8 (mt8 (mt8 (mt8 (mt8 (mt8 (mt8 (mt8 (mt8 (mt8 (mt8 (mt8 (mt8 (mt8 (mt8 (mt8 (mt8 (mt8 (mt8 (mt8 (mt8 (mt8 (mt8 (mt8 (mt1 (mt1 (mt1 (List.Mem.head _)))))))))))))))))))))))))))))))))) rfl
theorem k_576 : Cond.instanceMethod yJ0_coder_7d493 ∈ BIG := mB (tb_1 (mt8 (mt8 (mt8 (mt8 (mt8 (mt8 (mt8 (mt8 (mt8 (mt8 (mt8 (mt8 (mt8 (mt8 (mt8 (mt8 (mt8 (mt8 (mt8 (mt8 (mt8 (mt8 (mt8 (mt8 (mt8 (mt8 (mt8 (mt8 (mt8 (mt1 (mt1 (mt1 (mt1 (List.Mem.head _))))))))))))))))))))))))))))))))))) rfl
theorem k_577 : Cond.selects RJ0 yJ0_coder_7d493 yJ0_coder_7d493 ∈ BIG := mB (tb_1 (mt8 (mt8 (mt8 (mt8 (mt8 (mt8 (mt8 (mt8 (mt8 (mt8 (mt8 (mt8 (mt8 (mt8 (mt8 (mt8 (mt8 (mt8 (mt8 (mt8 (mt8 (mt8 (mt8 (mt8 (mt8 (mt8 (mt8 (mt8 (mt8 (mt1 (mt1 (mt1 (mt1 (mt1 (List.Mem.head _)))))))))))))))))))))))))))))))))))) rfl
theorem k_578 : Cond.code yJ0_coder_7d493 cJ0_coder_7d493 1 (some .byte) ∈ BIG := mB (tb_1 (mt8 (mt8 (mt8 (mt8 (mt8 (mt8 (mt8 (mt8 (mt8 (mt8 (mt8 (mt8 (mt8 (mt8 (mt8 (mt8 (mt8 (mt8 (mt8 (mt8 (mt8 (mt8 (mt8 (mt8 (mt8 (mt8 (mt8 (mt8 (mt8 (mt1 (mt1 (mt1 (mt1 (mt1 (mt1 (List.Mem.head _))))))))))))))))))))))))))))))))))))) rfl
theorem k_579 : Cond.fieldLink RJ0 38 RJ0 "COMPACT_STRINGS" "Z" ∈ BIG := mB (tb_1 (mt8 (mt8 (mt8 (mt8 (mt8 (mt8 (mt8 (mt8 (mt8 (mt8 (mt8 (mt8 (mt8 (mt8 (mt8 (mt8 (mt8 (mt8 (mt8 (mt8 (mt8 (mt8 (mt8 (mt8 (mt8 (mt8 (mt8 (mt8 (mt8 (mt1 (mt1 (mt1 (mt1 (mt1 (mt1 (mt1 (List.Mem.head _)))))))))))))))))))))))))))))))))))))) rfl
theorem k_581 : Cond.methodLink RX9 58 yJ0_charAt_5068e ∈ BIG := mB (tb_2 (mt1 (List.Mem.head _))) rfl
theorem k_582 : Cond.instanceMethod yJ0_charAt_5068e ∈ BIG := mB (tb_2 (mt1 (mt1 (List.Mem.head _)))) rfl
theorem k_583 : Cond.selects RJ0 yJ0_charAt_5068e yJ0_charAt_5068e ∈ BIG := mB (tb_2 (mt1 (mt1 (mt1 (List.Mem.head _))))) rfl
theorem k_584 : Cond.code yJ0_charAt_5068e cJ0_charAt_5068e 2 (some .char) ∈ BIG := mB (tb_2 (mt1 (mt1 (mt1 (mt1 (List.Mem.head _)))))) rfl
theorem k_585 : Cond.methodLink RJ0 492 yJ0_isLatin1_aae02 ∈ BIG := mB (tb_2 (mt1 (mt1 (mt1 (mt1 (mt1 (List.Mem.head _))))))) rfl
theorem k_586 : Cond.instanceMethod yJ0_isLatin1_aae02 ∈ BIG := mB (tb_2 (mt1 (mt1 (mt1 (mt1 (mt1 (mt1 (List.Mem.head _)))))))) rfl
theorem k_587 : Cond.selects RJ0 yJ0_isLatin1_aae02 yJ0_isLatin1_aae02 ∈ BIG := mB (tb_2 (mt1 (mt1 (mt1 (mt1 (mt1 (mt1 (mt1 (List.Mem.head _))))))))) rfl
theorem k_588 : Cond.code yJ0_isLatin1_aae02 cJ0_isLatin1_aae02 1 (some .boolean) ∈ BIG := mB (tb_2 (mt8 (List.Mem.head _))) rfl
theorem k_589 : Cond.methodLink RJ0 495 yJ1_charAt_3b067 ∈ BIG := mB (tb_2 (mt8 (mt1 (List.Mem.head _)))) rfl
theorem k_590 : Cond.static yJ1_charAt_3b067 ∈ BIG := mB (tb_2 (mt8 (mt1 (mt1 (List.Mem.head _))))) rfl
theorem k_591 : Cond.code yJ1_charAt_3b067 cJ1_charAt_3b067 2 (some .char) ∈ BIG := mB (tb_2 (mt8 (mt1 (mt1 (mt1 (List.Mem.head _)))))) rfl
theorem k_592 : Cond.methodLink RJ1 9 yJ0_checkIndex_df160 ∈ BIG := mB (tb_2 (mt8 (mt1 (mt1 (mt1 (mt1 (List.Mem.head _))))))) rfl
theorem k_593 : Cond.static yJ0_checkIndex_df160 ∈ BIG := mB (tb_2 (mt8 (mt1 (mt1 (mt1 (mt1 (mt1 (List.Mem.head _)))))))) rfl
theorem k_594 : Cond.code yJ0_checkIndex_df160 cJ0_checkIndex_df160 2 none ∈ BIG := mB (tb_2 (mt8 (mt1 (mt1 (mt1 (mt1 (mt1 (mt1 (List.Mem.head _))))))))) rfl
theorem k_595 : Cond.fieldLink RJ0 1053 RJ3 "SIOOBE_FORMATTER" "Ljava/util/function/BiFunction;" ∈ BIG := mB (tb_2 (mt8 (mt1 (mt1 (mt1 (mt1 (mt1 (mt1 (mt1 (List.Mem.head _)))))))))) rfl
theorem k_597 : Cond.methodLink RJ0 1059 yJ3_checkIndex_8e157 ∈ BIG := mB (tb_2 (mt8 (mt8 (mt1 (List.Mem.head _))))) rfl
theorem k_598 : Cond.static yJ3_checkIndex_8e157 ∈ BIG := mB (tb_2 (mt8 (mt8 (mt1 (mt1 (List.Mem.head _)))))) rfl
theorem k_599 : Cond.code yJ3_checkIndex_8e157 cJ3_checkIndex_8e157 3 (some .int) ∈ BIG := mB (tb_2 (mt8 (mt8 (mt1 (mt1 (mt1 (List.Mem.head _))))))) rfl
theorem k_600 : Cond.methodLink RJ0 498 yJ2_charAt_3b067 ∈ BIG := mB (tb_2 (mt8 (mt8 (mt1 (mt1 (mt1 (mt1 (List.Mem.head _)))))))) rfl
theorem k_601 : Cond.static yJ2_charAt_3b067 ∈ BIG := mB (tb_2 (mt8 (mt8 (mt1 (mt1 (mt1 (mt1 (mt1 (List.Mem.head _))))))))) rfl
theorem k_602 : Cond.code yJ2_charAt_3b067 cJ2_charAt_3b067 2 (some .char) ∈ BIG := mB (tb_2 (mt8 (mt8 (mt1 (mt1 (mt1 (mt1 (mt1 (mt1 (List.Mem.head _)))))))))) rfl
theorem k_603 : Cond.methodLink RJ2 67 yJ2_checkIndex_2214a ∈ BIG := mB (tb_2 (mt8 (mt8 (mt1 (mt1 (mt1 (mt1 (mt1 (mt1 (mt1 (List.Mem.head _))))))))))) rfl
theorem k_604 : Cond.static yJ2_checkIndex_2214a ∈ BIG := mB (tb_2 (mt8 (mt8 (mt8 (List.Mem.head _))))) rfl
theorem k_605 : Cond.code yJ2_checkIndex_2214a cJ2_checkIndex_2214a 2 none ∈ BIG := mB (tb_2 (mt8 (mt8 (mt8 (mt1 (List.Mem.head _)))))) rfl
theorem k_606 : Cond.methodLink RJ2 48 yJ2_length_9d52b ∈ BIG := mB (tb_2 (mt8 (mt8 (mt8 (mt1 (mt1 (List.Mem.head _))))))) rfl
theorem k_607 : Cond.static yJ2_length_9d52b ∈ BIG := mB (tb_2 (mt8 (mt8 (mt8 (mt1 (mt1 (mt1 (List.Mem.head _)))))))) rfl
theorem k_608 : Cond.code yJ2_length_9d52b cJ2_length_9d52b 1 (some .int) ∈ BIG := mB (tb_2 (mt8 (mt8 (mt8 (mt1 (mt1 (mt1 (mt1 (List.Mem.head _))))))))) rfl
theorem k_609 : Cond.methodLink RJ2 414 yJ0_checkIndex_df160 ∈ BIG := mB (tb_2 (mt8 (mt8 (mt8 (mt1 (mt1 (mt1 (mt1 (mt1 (List.Mem.head _)))))))))) rfl
theorem k_610 : Cond.methodLink RJ2 71 yJ2_getChar_3b067 ∈ BIG := mB (tb_2 (mt8 (mt8 (mt8 (mt1 (mt1 (mt1 (mt1 (mt1 (mt1 (List.Mem.head _))))))))))) rfl
theorem k_611 : Cond.static yJ2_getChar_3b067 ∈ BIG := mB (tb_2 (mt8 (mt8 (mt8 (mt1 (mt1 (mt1 (mt1 (mt1 (mt1 (mt1 (List.Mem.head _)))))))))))) rfl
theorem k_612 : Cond.code yJ2_getChar_3b067 cJ2_getChar_3b067 2 (some .char) ∈ BIG := mB (tb_2 (mt8 (mt8 (mt8 (mt8 (List.Mem.head _)))))) rfl
theorem k_613 : Cond.fieldLink RJ2 44 RJ2 "$assertionsDisabled" "Z" ∈ BIG := mB (tb_2 (mt8 (mt8 (mt8 (mt8 (mt1 (List.Mem.head _))))))) rfl
theorem k_615 : Cond.fieldLink RJ2 59 RJ2 "HI_BYTE_SHIFT" "I" ∈ BIG := mB (tb_2 (mt8 (mt8 (mt8 (mt8 (mt1 (mt1 (mt1 (List.Mem.head _))))))))) rfl
theorem k_617 : Cond.fieldLink RJ2 63 RJ2 "LO_BYTE_SHIFT" "I" ∈ BIG := mB (tb_2 (mt8 (mt8 (mt8 (mt8 (mt1 (mt1 (mt1 (mt1 (mt1 (List.Mem.head _))))))))))) rfl
theorem k_619 : Cond.methodLink RX9 39 yX9_isDigit ∈ BIG := mB (tb_2 (mt8 (mt8 (mt8 (mt8 (mt1 (mt1 (mt1 (mt1 (mt1 (mt1 (mt1 (List.Mem.head _))))))))))))) rfl
theorem k_621 : Cond.instanceMethod yX9_isDigit ∈ BIG := mB (tb_2 (mt8 (mt8 (mt8 (mt8 (mt8 (mt1 (List.Mem.head _)))))))) rfl
theorem k_622 : Cond.code yX9_isDigit cX9_isDigit 2 (some .boolean) ∈ BIG := mB (tb_2 (mt8 (mt8 (mt8 (mt8 (mt8 (mt1 (mt1 (List.Mem.head _))))))))) rfl
theorem k_624 : Cond.methodLink RX9 47 yJ0_indexOf_0f7a4 ∈ BIG := mB (tb_2 (mt8 (mt8 (mt8 (mt8 (mt8 (mt1 (mt1 (mt1 (mt1 (List.Mem.head _))))))))))) rfl
theorem k_625 : Cond.instanceMethod yJ0_indexOf_0f7a4 ∈ BIG := mB (tb_2 (mt8 (mt8 (mt8 (mt8 (mt8 (mt1 (mt1 (mt1 (mt1 (mt1 (List.Mem.head _)))))))))))) rfl
theorem k_626 : Cond.selects RJ0 yJ0_indexOf_0f7a4 yJ0_indexOf_0f7a4 ∈ BIG := mB (tb_2 (mt8 (mt8 (mt8 (mt8 (mt8 (mt1 (mt1 (mt1 (mt1 (mt1 (mt1 (List.Mem.head _))))))))))))) rfl
theorem k_627 : Cond.code yJ0_indexOf_0f7a4 cJ0_indexOf_0f7a4 2 (some .int) ∈ BIG := mB (tb_2 (mt8 (mt8 (mt8 (mt8 (mt8 (mt1 (mt1 (mt1 (mt1 (mt1 (mt1 (mt1 (List.Mem.head _)))))))))))))) rfl
theorem k_628 : Cond.methodLink RJ0 633 yJ0_indexOf_7cf53 ∈ BIG := mB (tb_2 (mt8 (mt8 (mt8 (mt8 (mt8 (mt8 (List.Mem.head _)))))))) rfl
theorem k_629 : Cond.instanceMethod yJ0_indexOf_7cf53 ∈ BIG := mB (tb_2 (mt8 (mt8 (mt8 (mt8 (mt8 (mt8 (mt1 (List.Mem.head _))))))))) rfl
theorem k_630 : Cond.selects RJ0 yJ0_indexOf_7cf53 yJ0_indexOf_7cf53 ∈ BIG := mB (tb_2 (mt8 (mt8 (mt8 (mt8 (mt8 (mt8 (mt1 (mt1 (List.Mem.head _)))))))))) rfl
theorem k_631 : Cond.code yJ0_indexOf_7cf53 cJ0_indexOf_7cf53 3 (some .int) ∈ BIG := mB (tb_2 (mt8 (mt8 (mt8 (mt8 (mt8 (mt8 (mt1 (mt1 (mt1 (List.Mem.head _))))))))))) rfl
theorem k_632 : Cond.methodLink RJ0 505 yJ0_length_8abf5 ∈ BIG := mB (tb_2 (mt8 (mt8 (mt8 (mt8 (mt8 (mt8 (mt1 (mt1 (mt1 (mt1 (List.Mem.head _)))))))))))) rfl
theorem k_633 : Cond.methodLink RJ0 637 yJ1_indexOf_4cfef ∈ BIG := mB (tb_2 (mt8 (mt8 (mt8 (mt8 (mt8 (mt8 (mt1 (mt1 (mt1 (mt1 (mt1 (List.Mem.head _))))))))))))) rfl
theorem k_634 : Cond.static yJ1_indexOf_4cfef ∈ BIG := mB (tb_2 (mt8 (mt8 (mt8 (mt8 (mt8 (mt8 (mt1 (mt1 (mt1 (mt1 (mt1 (mt1 (List.Mem.head _)))))))))))))) rfl
theorem k_635 : Cond.code yJ1_indexOf_4cfef cJ1_indexOf_4cfef 4 (some .int) ∈ BIG := mB (tb_2 (mt8 (mt8 (mt8 (mt8 (mt8 (mt8 (mt1 (mt1 (mt1 (mt1 (mt1 (mt1 (mt1 (List.Mem.head _))))))))))))))) rfl
theorem k_636 : Cond.methodLink RJ1 88 yJ1_canEncode_9a6ad ∈ BIG := mB (tb_2 (mt8 (mt8 (mt8 (mt8 (mt8 (mt8 (mt8 (List.Mem.head _))))))))) rfl
theorem k_637 : Cond.static yJ1_canEncode_9a6ad ∈ BIG := mB (tb_2 (mt8 (mt8 (mt8 (mt8 (mt8 (mt8 (mt8 (mt1 (List.Mem.head _)))))))))) rfl
theorem k_638 : Cond.code yJ1_canEncode_9a6ad cJ1_canEncode_9a6ad 1 (some .boolean) ∈ BIG := mB (tb_2 (mt8 (mt8 (mt8 (mt8 (mt8 (mt8 (mt8 (mt1 (mt1 (List.Mem.head _))))))))))) rfl
theorem k_639 : Cond.methodLink RJ1 92 Lib.Math.max.name ∈ BIG := mB (tb_2 (mt8 (mt8 (mt8 (mt8 (mt8 (mt8 (mt8 (mt1 (mt1 (mt1 (List.Mem.head _)))))))))))) rfl
theorem k_640 : Cond.static Lib.Math.max.name ∈ BIG := mB (tb_2 (mt8 (mt8 (mt8 (mt8 (mt8 (mt8 (mt8 (mt1 (mt1 (mt1 (mt1 (List.Mem.head _))))))))))))) rfl
theorem k_641 : Cond.code Lib.Math.max.name Lib.Math.max.code 2 (some .int) ∈ BIG := mB (tb_2 (mt8 (mt8 (mt8 (mt8 (mt8 (mt8 (mt8 (mt1 (mt1 (mt1 (mt1 (mt1 (List.Mem.head _)))))))))))))) rfl
theorem k_642 : Cond.methodLink RJ1 38 Lib.Math.min.name ∈ BIG := mB (tb_2 (mt8 (mt8 (mt8 (mt8 (mt8 (mt8 (mt8 (mt1 (mt1 (mt1 (mt1 (mt1 (mt1 (List.Mem.head _))))))))))))))) rfl
theorem k_643 : Cond.static Lib.Math.min.name ∈ BIG := mB (tb_2 (mt8 (mt8 (mt8 (mt8 (mt8 (mt8 (mt8 (mt1 (mt1 (mt1 (mt1 (mt1 (mt1 (mt1 (List.Mem.head _)))))))))))))))) rfl
theorem k_644 : Cond.code Lib.Math.min.name Lib.Math.min.code 2 (some .int) ∈ BIG := mB (tb_2 (mt8 (mt8 (mt8 (mt8 (mt8 (mt8 (mt8 (mt8 (List.Mem.head _)))))))))) rfl
theorem k_645 : Cond.methodLink RJ1 95 yJ1_indexOfChar_4cfef ∈ BIG := mB (tb_2 (mt8 (mt8 (mt8 (mt8 (mt8 (mt8 (mt8 (mt8 (mt1 (List.Mem.head _))))))))))) rfl
theorem k_646 : Cond.static yJ1_indexOfChar_4cfef ∈ BIG := mB (tb_2 (mt8 (mt8 (mt8 (mt8 (mt8 (mt8 (mt8 (mt8 (mt1 (mt1 (List.Mem.head _)))))))))))) rfl
theorem k_647 : Cond.code yJ1_indexOfChar_4cfef cJ1_indexOfChar_4cfef 6 (some .int) ∈ BIG := mB (tb_2 (mt8 (mt8 (mt8 (mt8 (mt8 (mt8 (mt8 (mt8 (mt1 (mt1 (mt1 (List.Mem.head _))))))))))))) rfl
theorem k_648 : Cond.methodLink RJ0 640 yJ2_indexOf_4cfef ∈ BIG := mB (tb_2 (mt8 (mt8 (mt8 (mt8 (mt8 (mt8 (mt8 (mt8 (mt1 (mt1 (mt1 (mt1 (List.Mem.head _)))))))))))))) rfl
theorem k_649 : Cond.static yJ2_indexOf_4cfef ∈ BIG := mB (tb_2 (mt8 (mt8 (mt8 (mt8 (mt8 (mt8 (mt8 (mt8 (mt1 (mt1 (mt1 (mt1 (mt1 (List.Mem.head _))))))))))))))) rfl
theorem k_650 : Cond.code yJ2_indexOf_4cfef cJ2_indexOf_4cfef 4 (some .int) ∈ BIG := mB (tb_2 (mt8 (mt8 (mt8 (mt8 (mt8 (mt8 (mt8 (mt8 (mt1 (mt1 (mt1 (mt1 (mt1 (mt1 (List.Mem.head _)))))))))))))))) rfl
theorem k_651 : Cond.methodLink RJ2 224 Lib.Math.max.name ∈ BIG := mB (tb_2 (mt8 (mt8 (mt8 (mt8 (mt8 (mt8 (mt8 (mt8 (mt1 (mt1 (mt1 (mt1 (mt1 (mt1 (mt1 (List.Mem.head _))))))))))))))))) rfl
theorem k_652 : Cond.methodLink RJ2 183 Lib.Math.min.name ∈ BIG := mB (tb_2 (mt8 (mt8 (mt8 (mt8 (mt8 (mt8 (mt8 (mt8 (mt8 (List.Mem.head _))))))))))) rfl
theorem k_653 : Cond.constant RJ2 227 65536 ∈ BIG := mB (tb_2 (mt8 (mt8 (mt8 (mt8 (mt8 (mt8 (mt8 (mt8 (mt8 (mt1 (List.Mem.head _)))))))))))) rfl
theorem k_654 : Cond.methodLink RJ2 228 yJ2_indexOfChar_4cfef ∈ BIG := mB (tb_2 (mt8 (mt8 (mt8 (mt8 (mt8 (mt8 (mt8 (mt8 (mt8 (mt1 (mt1 (List.Mem.head _))))))))))))) rfl
theorem k_655 : Cond.static yJ2_indexOfChar_4cfef ∈ BIG := mB (tb_2 (mt8 (mt8 (mt8 (mt8 (mt8 (mt8 (mt8 (mt8 (mt8 (mt1 (mt1 (mt1 (List.Mem.head _)))))))))))))) rfl
theorem k_656 : Cond.code yJ2_indexOfChar_4cfef cJ2_indexOfChar_4cfef 4 (some .int) ∈ BIG := mB (tb_2 (mt8 (mt8 (mt8 (mt8 (mt8 (mt8 (mt8 (mt8 (mt8 (mt1 (mt1 (mt1 (mt1 (List.Mem.head _))))))))))))))) rfl
theorem k_657 : Cond.methodLink RJ2 96 yJ2_checkBoundsBeginEnd_d044e ∈ BIG := mB (tb_2 (mt8 (mt8 (mt8 (mt8 (mt8 (mt8 (mt8 (mt8 (mt8 (mt1 (mt1 (mt1 (mt1 (mt1 (List.Mem.head _)))))))))))))))) rfl
theorem k_658 : Cond.static yJ2_checkBoundsBeginEnd_d044e ∈ BIG := mB (tb_2 (mt8 (mt8 (mt8 (mt8 (mt8 (mt8 (mt8 (mt8 (mt8 (mt1 (mt1 (mt1 (mt1 (mt1 (mt1 (List.Mem.head _))))))))))))))))) rfl
theorem k_659 : Cond.code yJ2_checkBoundsBeginEnd_d044e cJ2_checkBoundsBeginEnd_d044e 3 none ∈ BIG := mB (tb_2 (mt8 (mt8 (mt8 (mt8 (mt8 (mt8 (mt8 (mt8 (mt8 (mt1 (mt1 (mt1 (mt1 (mt1 (mt1 (mt1 (List.Mem.head _)))))))))))))))))) rfl
theorem k_660 : Cond.methodLink RJ2 241 yJ0_checkBoundsBeginEnd_23922 ∈ BIG := mB (tb_2 (mt8 (mt8 (mt8 (mt8 (mt8 (mt8 (mt8 (mt8 (mt8 (mt8 (List.Mem.head _)))))))))))) rfl
theorem k_661 : Cond.static yJ0_checkBoundsBeginEnd_23922 ∈ BIG := mB (tb_2 (mt8 (mt8 (mt8 (mt8 (mt8 (mt8 (mt8 (mt8 (mt8 (mt8 (mt1 (List.Mem.head _))))))))))))) rfl
theorem k_662 : Cond.code yJ0_checkBoundsBeginEnd_23922 cJ0_checkBoundsBeginEnd_23922 3 none ∈ BIG := mB (tb_2 (mt8 (mt8 (mt8 (mt8 (mt8 (mt8 (mt8 (mt8 (mt8 (mt8 (mt1 (mt1 (List.Mem.head _)))))))))))))) rfl
theorem k_663 : Cond.methodLink RJ0 1062 yJ3_checkFromToIndex_8c36e ∈ BIG := mB (tb_2 (mt8 (mt8 (mt8 (mt8 (mt8 (mt8 (mt8 (mt8 (mt8 (mt8 (mt1 (mt1 (mt1 (List.Mem.head _))))))))))))))) rfl
theorem k_664 : Cond.static yJ3_checkFromToIndex_8c36e ∈ BIG := mB (tb_2 (mt8 (mt8 (mt8 (mt8 (mt8 (mt8 (mt8 (mt8 (mt8 (mt8 (mt1 (mt1 (mt1 (mt1 (List.Mem.head _)))))))))))))))) rfl
theorem k_665 : Cond.code yJ3_checkFromToIndex_8c36e cJ3_checkFromToIndex_8c36e 4 (some .int) ∈ BIG := mB (tb_2 (mt8 (mt8 (mt8 (mt8 (mt8 (mt8 (mt8 (mt8 (mt8 (mt8 (mt1 (mt1 (mt1 (mt1 (mt1 (List.Mem.head _))))))))))))))))) rfl
theorem k_666 : Cond.methodLink RJ2 244 yJ2_indexOfCharUnsafe_4cfef ∈ BIG := mB (tb_2 (mt8 (mt8 (mt8 (mt8 (mt8 (mt8 (mt8 (mt8 (mt8 (mt8 (mt1 (mt1 (mt1 (mt1 (mt1 (mt1 (List.Mem.head _)))))))))))))))))) rfl
theorem k_667 : Cond.static yJ2_indexOfCharUnsafe_4cfef ∈ BIG := mB (tb_2 (mt8 (mt8 (mt8 (mt8 (mt8 (mt8 (mt8 (mt8 (mt8 (mt8 (mt1 (mt1 (mt1 (mt1 (mt1 (mt1 (mt1 (List.Mem.head _))))))))))))))))))) rfl
theorem k_668 : Cond.code yJ2_indexOfCharUnsafe_4cfef cJ2_indexOfCharUnsafe_4cfef 5 (some .int) ∈ BIG := mB (tb_2 (mt8 (mt8 (mt8 (mt8 (mt8 (mt8 (mt8 (mt8 (mt8 (mt8 (mt8 (List.Mem.head _))))))))))))) rfl
theorem k_669 : Cond.methodLink RJ2 232 yJ2_indexOfSupplementary_4cfef ∈ BIG := mB (tb_2 (mt8 (mt8 (mt8 (mt8 (mt8 (mt8 (mt8 (mt8 (mt8 (mt8 (mt8 (mt1 (List.Mem.head _)))))))))))))) rfl
theorem k_670 : Cond.static yJ2_indexOfSupplementary_4cfef ∈ BIG := mB (tb_2 (mt8 (mt8 (mt8 (mt8 (mt8 (mt8 (mt8 (mt8 (mt8 (mt8 (mt8 (mt1 (mt1 (List.Mem.head _))))))))))))))) rfl
theorem k_671 : Cond.code yJ2_indexOfSupplementary_4cfef cJ2_indexOfSupplementary_4cfef 7 (some .int) ∈ BIG := mB (tb_2 (mt8 (mt8 (mt8 (mt8 (mt8 (mt8 (mt8 (mt8 (mt8 (mt8 (mt8 (mt1 (mt1 (mt1 (List.Mem.head _)))))))))))))))) rfl
theorem k_672 : Cond.methodLink RJ2 164 yJ11_isValidCodePoint_9a6ad ∈ BIG := mB (tb_2 (mt8 (mt8 (mt8 (mt8 (mt8 (mt8 (mt8 (mt8 (mt8 (mt8 (mt8 (mt1 (mt1 (mt1 (mt1 (List.Mem.head _))))))))))))))))) rfl
theorem k_673 : Cond.static yJ11_isValidCodePoint_9a6ad ∈ BIG := mB (tb_2 (mt8 (mt8 (mt8 (mt8 (mt8 (mt8 (mt8 (mt8 (mt8 (mt8 (mt8 (mt1 (mt1 (mt1 (mt1 (mt1 (List.Mem.head _)))))))))))))))))) rfl
