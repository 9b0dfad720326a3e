theorem k_0 : Cond.selects RX7 yX7_setDefaults yX7_setDefaults ∈ BIG := mB (tb_p (List.mem_of_getElem? (i := 0) (by decide +kernel))) rfl
theorem k_1 : Cond.selects RX9 yX9_isLetter yX9_isLetter ∈ BIG := mB (tb_p (List.mem_of_getElem? (i := 1) (by decide +kernel))) rfl
theorem k_2 : Cond.selects RX9 yX9_wordKind yX9_wordKind ∈ BIG := mB (tb_p (List.mem_of_getElem? (i := 2) (by decide +kernel))) rfl
theorem k_3 : Cond.selects RX9 yX9_isDigit yX9_isDigit ∈ BIG := mB (tb_p (List.mem_of_getElem? (i := 3) (by decide +kernel))) rfl
theorem k_4 : Cond.selects RX6 yX6_line yX6_line ∈ BIG := mB (tb_p (List.mem_of_getElem? (i := 4) (by decide +kernel))) rfl
theorem k_5 : Cond.selects RX6 yX6_manLine yX6_manLine ∈ BIG := mB (tb_p (List.mem_of_getElem? (i := 5) (by decide +kernel))) rfl
theorem k_6 : Cond.selects RX6 yX6_refuse yX6_refuse ∈ BIG := mB (tb_p (List.mem_of_getElem? (i := 6) (by decide +kernel))) rfl
theorem k_7 : Cond.selects RX6 yX6_refuseAs yX6_refuseAs ∈ BIG := mB (tb_p (List.mem_of_getElem? (i := 7) (by decide +kernel))) rfl
theorem k_8 : Cond.selects RX6 yX6_name yX6_name ∈ BIG := mB (tb_p (List.mem_of_getElem? (i := 8) (by decide +kernel))) rfl
theorem k_9 : Cond.selects RX6 yX6_labelled yX6_labelled ∈ BIG := mB (tb_p (List.mem_of_getElem? (i := 9) (by decide +kernel))) rfl
theorem k_10 : Cond.selects RX6 yX6_numbered yX6_numbered ∈ BIG := mB (tb_p (List.mem_of_getElem? (i := 10) (by decide +kernel))) rfl
theorem k_11 : Cond.selects RX6 yX6_closing yX6_closing ∈ BIG := mB (tb_p (List.mem_of_getElem? (i := 11) (by decide +kernel))) rfl
theorem k_12 : Cond.selects RX6 yX6_taken yX6_taken ∈ BIG := mB (tb_p (List.mem_of_getElem? (i := 12) (by decide +kernel))) rfl
theorem k_13 : Cond.selects RX6 yX6_coatLine yX6_coatLine ∈ BIG := mB (tb_p (List.mem_of_getElem? (i := 13) (by decide +kernel))) rfl
theorem k_14 : Cond.selects RX6 yX6_opened yX6_opened ∈ BIG := mB (tb_p (List.mem_of_getElem? (i := 14) (by decide +kernel))) rfl
theorem k_15 : Cond.selects RX6 yX6_expression yX6_expression ∈ BIG := mB (tb_p (List.mem_of_getElem? (i := 15) (by decide +kernel))) rfl
theorem k_16 : Cond.selects RX6 yX6_unit yX6_unit ∈ BIG := mB (tb_p (List.mem_of_getElem? (i := 16) (by decide +kernel))) rfl
theorem k_17 : Cond.selects RX6 yX6_negation yX6_negation ∈ BIG := mB (tb_p (List.mem_of_getElem? (i := 17) (by decide +kernel))) rfl
theorem k_18 : Cond.selects RX6 yX6_settingLine yX6_settingLine ∈ BIG := mB (tb_p (List.mem_of_getElem? (i := 18) (by decide +kernel))) rfl
theorem k_19 : Cond.selects RX5 yX5_forgetActs yX5_forgetActs ∈ BIG := mB (tb_p (List.mem_of_getElem? (i := 19) (by decide +kernel))) rfl
theorem k_40 : Cond.selects RX11 yX11_four yX11_four ∈ BIG := mB (tb_p (List.mem_of_getElem? (i := 40) (by decide +kernel))) rfl
theorem k_41 : Cond.selects RX11 yX11_readAll yX11_readAll ∈ BIG := mB (tb_p (List.mem_of_getElem? (i := 41) (by decide +kernel))) rfl
theorem k_42 : Cond.selects RX11 yX11_token yX11_token ∈ BIG := mB (tb_p (List.mem_of_getElem? (i := 42) (by decide +kernel))) rfl
theorem k_43 : Cond.selects RX11 yX11_here yX11_here ∈ BIG := mB (tb_p (List.mem_of_getElem? (i := 43) (by decide +kernel))) rfl
theorem k_44 : Cond.selects RX11 yX11_readLine yX11_readLine ∈ BIG := mB (tb_p (List.mem_of_getElem? (i := 44) (by decide +kernel))) rfl
theorem k_45 : Cond.selects RX11 yX11_isWord yX11_isWord ∈ BIG := mB (tb_p (List.mem_of_getElem? (i := 45) (by decide +kernel))) rfl
theorem k_46 : Cond.selects RX11 yX11_readMan yX11_readMan ∈ BIG := mB (tb_p (List.mem_of_getElem? (i := 46) (by decide +kernel))) rfl
theorem k_47 : Cond.selects RX11 yX11_newName yX11_newName ∈ BIG := mB (tb_p (List.mem_of_getElem? (i := 47) (by decide +kernel))) rfl
theorem k_48 : Cond.selects RX11 yX11_isName yX11_isName ∈ BIG := mB (tb_p (List.mem_of_getElem? (i := 48) (by decide +kernel))) rfl
theorem k_49 : Cond.selects RX11 yX11_isOwn yX11_isOwn ∈ BIG := mB (tb_p (List.mem_of_getElem? (i := 49) (by decide +kernel))) rfl
theorem k_50 : Cond.selects RX11 yX11_wrong yX11_wrong ∈ BIG := mB (tb_p (List.mem_of_getElem? (i := 50) (by decide +kernel))) rfl
theorem k_51 : Cond.selects RX11 yX11_told yX11_told ∈ BIG := mB (tb_p (List.mem_of_getElem? (i := 51) (by decide +kernel))) rfl
theorem k_52 : Cond.selects RX11 yX11_want yX11_want ∈ BIG := mB (tb_p (List.mem_of_getElem? (i := 52) (by decide +kernel))) rfl
theorem k_53 : Cond.selects RX11 yX11_toldNumber yX11_toldNumber ∈ BIG := mB (tb_p (List.mem_of_getElem? (i := 53) (by decide +kernel))) rfl
theorem k_54 : Cond.selects RX11 yX11_option yX11_option ∈ BIG := mB (tb_p (List.mem_of_getElem? (i := 54) (by decide +kernel))) rfl
theorem k_55 : Cond.selects RX11 yX11_readCoat yX11_readCoat ∈ BIG := mB (tb_p (List.mem_of_getElem? (i := 55) (by decide +kernel))) rfl
theorem k_56 : Cond.selects RX11 yX11_formula yX11_formula ∈ BIG := mB (tb_p (List.mem_of_getElem? (i := 56) (by decide +kernel))) rfl
theorem k_57 : Cond.selects RX11 yX11_unit yX11_unit ∈ BIG := mB (tb_p (List.mem_of_getElem? (i := 57) (by decide +kernel))) rfl
theorem k_58 : Cond.selects RX11 yX11_mayNot yX11_mayNot ∈ BIG := mB (tb_p (List.mem_of_getElem? (i := 58) (by decide +kernel))) rfl
theorem k_59 : Cond.selects RX11 yX11_openUp yX11_openUp ∈ BIG := mB (tb_p (List.mem_of_getElem? (i := 59) (by decide +kernel))) rfl
theorem k_60 : Cond.selects RX11 yX11_isFull yX11_isFull ∈ BIG := mB (tb_p (List.mem_of_getElem? (i := 60) (by decide +kernel))) rfl
theorem k_61 : Cond.selects RX11 yX11_countUnit yX11_countUnit ∈ BIG := mB (tb_p (List.mem_of_getElem? (i := 61) (by decide +kernel))) rfl
theorem k_62 : Cond.selects RX11 yX11_asked yX11_asked ∈ BIG := mB (tb_p (List.mem_of_getElem? (i := 62) (by decide +kernel))) rfl
theorem k_63 : Cond.selects RX11 yX11_add yX11_add ∈ BIG := mB (tb_p (List.mem_of_getElem? (i := 63) (by decide +kernel))) rfl
theorem k_64 : Cond.selects RX11 yX11_sign yX11_sign ∈ BIG := mB (tb_p (List.mem_of_getElem? (i := 64) (by decide +kernel))) rfl
theorem k_65 : Cond.selects RX11 yX11_hasBracket yX11_hasBracket ∈ BIG := mB (tb_p (List.mem_of_getElem? (i := 65) (by decide +kernel))) rfl
theorem k_66 : Cond.selects RX11 yX11_close yX11_close ∈ BIG := mB (tb_p (List.mem_of_getElem? (i := 66) (by decide +kernel))) rfl
theorem k_67 : Cond.selects RX11 yX11_hasRelation yX11_hasRelation ∈ BIG := mB (tb_p (List.mem_of_getElem? (i := 67) (by decide +kernel))) rfl
theorem k_68 : Cond.selects RX11 yX11_begin yX11_begin ∈ BIG := mB (tb_p (List.mem_of_getElem? (i := 68) (by decide +kernel))) rfl
theorem k_69 : Cond.selects RX11 yX11_keepAir yX11_keepAir ∈ BIG := mB (tb_p (List.mem_of_getElem? (i := 69) (by decide +kernel))) rfl
theorem k_102 : Cond.initialized RX9 ∈ BIG := mB (tb_0 (List.mem_of_getElem? (i := 2) (by decide +kernel))) rfl
theorem k_103 : Cond.initialized RX6 ∈ BIG := mB (tb_0 (List.mem_of_getElem? (i := 3) (by decide +kernel))) rfl
theorem k_104 : Cond.initialized RX7 ∈ BIG := mB (tb_0 (List.mem_of_getElem? (i := 4) (by decide +kernel))) rfl
theorem k_105 : Cond.initialized RX4 ∈ BIG := mB (tb_0 (List.mem_of_getElem? (i := 5) (by decide +kernel))) rfl
theorem k_106 : Cond.initialized RX1 ∈ BIG := mB (tb_0 (List.mem_of_getElem? (i := 6) (by decide +kernel))) rfl
theorem k_107 : Cond.initialized RX5 ∈ BIG := mB (tb_0 (List.mem_of_getElem? (i := 7) (by decide +kernel))) rfl
theorem k_108 : Cond.initialized RJ10 ∈ BIG := mB (tb_0 (List.mem_of_getElem? (i := 8) (by decide +kernel))) rfl
theorem k_111 : Cond.initialized RX0 ∈ BIG := mB (tb_0 (List.mem_of_getElem? (i := 11) (by decide +kernel))) rfl
theorem k_112 : Cond.initialized RX8 ∈ BIG := mB (tb_0 (List.mem_of_getElem? (i := 12) (by decide +kernel))) rfl
theorem k_113 : Cond.initialized RJ7 ∈ BIG := mB (tb_0 (List.mem_of_getElem? (i := 13) (by decide +kernel))) rfl
theorem k_114 : Cond.initialized RX11 ∈ BIG := mB (tb_0 (List.mem_of_getElem? (i := 14) (by decide +kernel))) rfl
theorem k_115 : Cond.initialized RJ0 ∈ BIG := mB (tb_0 (List.mem_of_getElem? (i := 15) (by decide +kernel))) rfl
theorem k_116 : Cond.initialized RJ1 ∈ BIG := mB (tb_0 (List.mem_of_getElem? (i := 16) (by decide +kernel))) rfl
theorem k_117 : Cond.initialized RJ3 ∈ BIG := mB (tb_0 (List.mem_of_getElem? (i := 17) (by decide +kernel))) rfl
theorem k_119 : Cond.initialized RJ9 ∈ BIG := mB (tb_0 (List.mem_of_getElem? (i := 19) (by decide +kernel))) rfl
theorem k_136 : Cond.fieldLink RX9 9 RX9 "bytes" "[B" ∈ BIG := mB (tb_0 (List.mem_of_getElem? (i := 36) (by decide +kernel))) rfl
theorem k_137 : Cond.fieldLink RX9 15 RX9 "size" "I" ∈ BIG := mB (tb_0 (List.mem_of_getElem? (i := 37) (by decide +kernel))) rfl
theorem k_138 : Cond.fieldLinkNest RX10 88 RX9 "size" "I" "TailorRegiment" ∈ NST := mN (tb_0 (List.mem_of_getElem? (i := 38) (by decide +kernel))) rfl
theorem k_139 : Cond.fieldLinkNest RX6 47 RX9 "kind" "I" "TailorRegiment" ∈ NST := mN (tb_0 (List.mem_of_getElem? (i := 39) (by decide +kernel))) rfl
theorem k_140 : Cond.fieldLink RX9 28 RX9 "kind" "I" ∈ BIG := mB (tb_0 (List.mem_of_getElem? (i := 40) (by decide +kernel))) rfl
theorem k_141 : Cond.fieldLink RX9 25 RX9 "place" "I" ∈ BIG := mB (tb_0 (List.mem_of_getElem? (i := 41) (by decide +kernel))) rfl
theorem k_142 : Cond.fieldLinkNest RX6 80 RX9 "place" "I" "TailorRegiment" ∈ NST := mN (tb_0 (List.mem_of_getElem? (i := 42) (by decide +kernel))) rfl
theorem k_143 : Cond.fieldLink RX9 19 RX9 "behind" "I" ∈ BIG := mB (tb_0 (List.mem_of_getElem? (i := 43) (by decide +kernel))) rfl
theorem k_144 : Cond.fieldLink RX9 42 RX9 "number" "I" ∈ BIG := mB (tb_0 (List.mem_of_getElem? (i := 44) (by decide +kernel))) rfl
theorem k_145 : Cond.fieldLinkNest RX6 118 RX9 "number" "I" "TailorRegiment" ∈ NST := mN (tb_0 (List.mem_of_getElem? (i := 45) (by decide +kernel))) rfl
theorem k_178 : Cond.fieldLink RX4 11 RX4 "kinds" "[I" ∈ BIG := mB (tb_0 (List.mem_of_getElem? (i := 78) (by decide +kernel))) rfl
theorem k_179 : Cond.fieldLink RX4 15 RX4 "numbers" "[I" ∈ BIG := mB (tb_0 (List.mem_of_getElem? (i := 79) (by decide +kernel))) rfl
theorem k_182 : Cond.fieldLink RX4 24 RX4 "steps" "I" ∈ BIG := mB (tb_0 (List.mem_of_getElem? (i := 82) (by decide +kernel))) rfl
theorem k_183 : Cond.fieldLink RX4 28 RX4 "units" "I" ∈ BIG := mB (tb_0 (List.mem_of_getElem? (i := 83) (by decide +kernel))) rfl
theorem k_184 : Cond.fieldLinkNest RX6 143 RX4 "units" "I" "TailorRegiment" ∈ NST := mN (tb_0 (List.mem_of_getElem? (i := 84) (by decide +kernel))) rfl
theorem k_200 : Cond.methodLink RX7 25 yX7_setDefaults ∈ BIG := mB (tb_0 (List.mem_of_getElem? (i := 100) (by decide +kernel))) rfl
theorem k_202 : Cond.instanceMethod yX7_setDefaults ∈ BIG := mB (tb_0 (List.mem_of_getElem? (i := 102) (by decide +kernel))) rfl
theorem k_203 : Cond.code yX7_setDefaults cX7_setDefaults 1 none ∈ BIG := mB (tb_0 (List.mem_of_getElem? (i := 103) (by decide +kernel))) rfl
theorem k_204 : Cond.fieldLink RX7 9 RX7 "manParts" "[I" ∈ BIG := mB (tb_0 (List.mem_of_getElem? (i := 104) (by decide +kernel))) rfl
theorem k_205 : Cond.fieldLink RX7 15 RX7 "coatParts" "[I" ∈ BIG := mB (tb_0 (List.mem_of_getElem? (i := 105) (by decide +kernel))) rfl
theorem k_206 : Cond.fieldLink RX7 21 RX7 "ill" "LTailorRegiment$Formula;" ∈ BIG := mB (tb_0 (List.mem_of_getElem? (i := 106) (by decide +kernel))) rfl
theorem k_210 : Cond.fieldLinkNest RX6 134 RX7 "ill" "LTailorRegiment$Formula;" "TailorRegiment" ∈ NST := mN (tb_0 (List.mem_of_getElem? (i := 110) (by decide +kernel))) rfl
theorem k_212 : Cond.fieldLink RX7 28 RX7 "men" "I" ∈ BIG := mB (tb_0 (List.mem_of_getElem? (i := 112) (by decide +kernel))) rfl
theorem k_214 : Cond.fieldLinkNest RX10 111 RX7 "men" "I" "TailorRegiment" ∈ NST := mN (tb_0 (List.mem_of_getElem? (i := 114) (by decide +kernel))) rfl
theorem k_218 : Cond.fieldLinkNest RX6 89 RX7 "men" "I" "TailorRegiment" ∈ NST := mN (tb_0 (List.mem_of_getElem? (i := 118) (by decide +kernel))) rfl
theorem k_220 : Cond.fieldLink RX7 32 RX7 "coats" "I" ∈ BIG := mB (tb_0 (List.mem_of_getElem? (i := 120) (by decide +kernel))) rfl
theorem k_224 : Cond.fieldLinkNest RX6 104 RX7 "coats" "I" "TailorRegiment" ∈ NST := mN (tb_0 (List.mem_of_getElem? (i := 124) (by decide +kernel))) rfl
theorem k_228 : Cond.fieldLink RX7 38 RX7 "easy" "I" ∈ BIG := mB (tb_0 (List.mem_of_getElem? (i := 128) (by decide +kernel))) rfl
theorem k_234 : Cond.fieldLink RX7 41 RX7 "bolt" "I" ∈ BIG := mB (tb_0 (List.mem_of_getElem? (i := 134) (by decide +kernel))) rfl
theorem k_237 : Cond.fieldLink RX7 44 RX7 "like" "I" ∈ BIG := mB (tb_0 (List.mem_of_getElem? (i := 137) (by decide +kernel))) rfl
theorem k_240 : Cond.fieldLink RX7 47 RX7 "rain" "I" ∈ BIG := mB (tb_0 (List.mem_of_getElem? (i := 140) (by decide +kernel))) rfl
theorem k_242 : Cond.fieldLinkNest RX1 31 RX7 "draw" "I" "TailorRegiment" ∈ NST := mN (tb_0 (List.mem_of_getElem? (i := 142) (by decide +kernel))) rfl
theorem k_243 : Cond.fieldLink RX7 50 RX7 "draw" "I" ∈ BIG := mB (tb_0 (List.mem_of_getElem? (i := 143) (by decide +kernel))) rfl
theorem k_265 : Cond.fieldLink RX6 29 RX6 "tape" "LTailorRegiment$Tape;" ∈ BIG := mB (tb_0 (List.mem_of_getElem? (i := 165) (by decide +kernel))) rfl
theorem k_266 : Cond.fieldLink RX6 12 RX6 "draft" "LTailorRegiment$Roll;" ∈ BIG := mB (tb_0 (List.mem_of_getElem? (i := 166) (by decide +kernel))) rfl
theorem k_267 : Cond.fieldLinkNest RX10 95 RX6 "draft" "LTailorRegiment$Roll;" "TailorRegiment" ∈ NST := mN (tb_0 (List.mem_of_getElem? (i := 167) (by decide +kernel))) rfl
theorem k_268 : Cond.fieldLink RX6 18 RX6 "manNames" "[I" ∈ BIG := mB (tb_0 (List.mem_of_getElem? (i := 168) (by decide +kernel))) rfl
theorem k_269 : Cond.fieldLink RX6 22 RX6 "coatNames" "[I" ∈ BIG := mB (tb_0 (List.mem_of_getElem? (i := 169) (by decide +kernel))) rfl
theorem k_270 : Cond.fieldLink RX6 36 RX6 "told" "I" ∈ BIG := mB (tb_0 (List.mem_of_getElem? (i := 170) (by decide +kernel))) rfl
theorem k_271 : Cond.fieldLink RX6 39 RX6 "faultSort" "I" ∈ BIG := mB (tb_0 (List.mem_of_getElem? (i := 171) (by decide +kernel))) rfl
theorem k_272 : Cond.fieldLinkNest RX10 114 RX6 "faultSort" "I" "TailorRegiment" ∈ NST := mN (tb_0 (List.mem_of_getElem? (i := 172) (by decide +kernel))) rfl
theorem k_273 : Cond.fieldLink RX6 25 RX6 "faultPlace" "I" ∈ BIG := mB (tb_0 (List.mem_of_getElem? (i := 173) (by decide +kernel))) rfl
theorem k_274 : Cond.fieldLinkNest RX10 117 RX6 "faultPlace" "I" "TailorRegiment" ∈ NST := mN (tb_0 (List.mem_of_getElem? (i := 174) (by decide +kernel))) rfl
theorem k_299 : Cond.instanceMethod yX1_muster ∈ BIG := mB (tb_0 (List.mem_of_getElem? (i := 199) (by decide +kernel))) rfl
theorem k_300 : Cond.selects RX1 yX1_muster yX1_muster ∈ BIG := mB (tb_0 (List.mem_of_getElem? (i := 200) (by decide +kernel))) rfl
theorem k_301 : Cond.code yX1_muster cX1_muster 3 none ∈ BIG := mB (tb_0 (List.mem_of_getElem? (i := 201) (by decide +kernel))) rfl
theorem k_302 : Cond.methodLink RX1 22 yX7_manPart ∈ BIG := mB (tb_0 (List.mem_of_getElem? (i := 202) (by decide +kernel))) rfl
theorem k_303 : Cond.instanceMethod yX7_manPart ∈ BIG := mB (tb_0 (List.mem_of_getElem? (i := 203) (by decide +kernel))) rfl
theorem k_304 : Cond.selects RX7 yX7_manPart yX7_manPart ∈ BIG := mB (tb_0 (List.mem_of_getElem? (i := 204) (by decide +kernel))) rfl
theorem k_305 : Cond.code yX7_manPart cX7_manPart 3 (some .int) ∈ BIG := mB (tb_0 (List.mem_of_getElem? (i := 205) (by decide +kernel))) rfl
theorem k_306 : Cond.methodLink RX7 63 yX7_hasMan ∈ BIG := mB (tb_0 (List.mem_of_getElem? (i := 206) (by decide +kernel))) rfl
theorem k_307 : Cond.instanceMethod yX7_hasMan ∈ BIG := mB (tb_0 (List.mem_of_getElem? (i := 207) (by decide +kernel))) rfl
theorem k_308 : Cond.selects RX7 yX7_hasMan yX7_hasMan ∈ BIG := mB (tb_0 (List.mem_of_getElem? (i := 208) (by decide +kernel))) rfl
theorem k_309 : Cond.code yX7_hasMan cX7_hasMan 2 (some .boolean) ∈ BIG := mB (tb_0 (List.mem_of_getElem? (i := 209) (by decide +kernel))) rfl
theorem k_310 : Cond.methodLink RX1 28 yX7_coatPart ∈ BIG := mB (tb_0 (List.mem_of_getElem? (i := 210) (by decide +kernel))) rfl
theorem k_311 : Cond.instanceMethod yX7_coatPart ∈ BIG := mB (tb_0 (List.mem_of_getElem? (i := 211) (by decide +kernel))) rfl
theorem k_312 : Cond.selects RX7 yX7_coatPart yX7_coatPart ∈ BIG := mB (tb_0 (List.mem_of_getElem? (i := 212) (by decide +kernel))) rfl
theorem k_313 : Cond.code yX7_coatPart cX7_coatPart 3 (some .int) ∈ BIG := mB (tb_0 (List.mem_of_getElem? (i := 213) (by decide +kernel))) rfl
theorem k_314 : Cond.methodLink RX7 67 yX7_hasCoat ∈ BIG := mB (tb_0 (List.mem_of_getElem? (i := 214) (by decide +kernel))) rfl
theorem k_315 : Cond.instanceMethod yX7_hasCoat ∈ BIG := mB (tb_0 (List.mem_of_getElem? (i := 215) (by decide +kernel))) rfl
theorem k_316 : Cond.selects RX7 yX7_hasCoat yX7_hasCoat ∈ BIG := mB (tb_0 (List.mem_of_getElem? (i := 216) (by decide +kernel))) rfl
theorem k_317 : Cond.code yX7_hasCoat cX7_hasCoat 2 (some .boolean) ∈ BIG := mB (tb_0 (List.mem_of_getElem? (i := 217) (by decide +kernel))) rfl
theorem k_318 : Cond.fieldLink RX1 15 RX1 "roll" "LTailorRegiment$Roll;" ∈ BIG := mB (tb_0 (List.mem_of_getElem? (i := 218) (by decide +kernel))) rfl
theorem k_319 : Cond.fieldLink RX1 11 RX1 "cells" "[I" ∈ BIG := mB (tb_0 (List.mem_of_getElem? (i := 219) (by decide +kernel))) rfl
theorem k_331 : Cond.methodLink RX5 24 yX1_saveTo ∈ BIG := mB (tb_0 (List.mem_of_getElem? (i := 231) (by decide +kernel))) rfl
theorem k_332 : Cond.instanceMethod yX1_saveTo ∈ BIG := mB (tb_0 (List.mem_of_getElem? (i := 232) (by decide +kernel))) rfl
theorem k_333 : Cond.selects RX1 yX1_saveTo yX1_saveTo ∈ BIG := mB (tb_0 (List.mem_of_getElem? (i := 233) (by decide +kernel))) rfl
theorem k_334 : Cond.code yX1_saveTo cX1_saveTo 3 none ∈ BIG := mB (tb_0 (List.mem_of_getElem? (i := 234) (by decide +kernel))) rfl
theorem k_335 : Cond.methodLink RX1 35 arraycopyName ∈ BIG := mB (tb_0 (List.mem_of_getElem? (i := 235) (by decide +kernel))) rfl
theorem k_336 : Cond.static arraycopyName ∈ BIG := mB (tb_0 (List.mem_of_getElem? (i := 236) (by decide +kernel))) rfl
theorem k_337 : Cond.native arraycopyName ∈ BIG := mB (tb_0 (List.mem_of_getElem? (i := 237) (by decide +kernel))) rfl
theorem k_338 : Cond.fieldLink RX5 20 RX5 "now" "LTailorRegiment$Company;" ∈ BIG := mB (tb_0 (List.mem_of_getElem? (i := 238) (by decide +kernel))) rfl
theorem k_339 : Cond.fieldLink RX5 13 RX5 "rows" "[I" ∈ BIG := mB (tb_0 (List.mem_of_getElem? (i := 239) (by decide +kernel))) rfl
theorem k_341 : Cond.fieldLink RX5 28 RX5 "filled" "I" ∈ BIG := mB (tb_1 (List.mem_of_getElem? (i := 1) (by decide +kernel))) rfl
theorem k_342 : Cond.fieldLink RX5 35 RX5 "first" "I" ∈ BIG := mB (tb_1 (List.mem_of_getElem? (i := 2) (by decide +kernel))) rfl
theorem k_343 : Cond.fieldLink RX5 38 RX5 "done" "I" ∈ BIG := mB (tb_1 (List.mem_of_getElem? (i := 3) (by decide +kernel))) rfl
theorem k_345 : Cond.fieldLink RX5 41 RX5 "undone" "I" ∈ BIG := mB (tb_1 (List.mem_of_getElem? (i := 5) (by decide +kernel))) rfl
theorem k_433 : Cond.fieldLink RX0 29 RX0 "count" "I" ∈ BIG := mB (tb_1 (List.mem_of_getElem? (i := 93) (by decide +kernel))) rfl
theorem k_464 : Cond.methodLink RX8 32 yJ7_fill_53178 ∈ BIG := mB (tb_1 (List.mem_of_getElem? (i := 124) (by decide +kernel))) rfl
theorem k_465 : Cond.static yJ7_fill_53178 ∈ BIG := mB (tb_1 (List.mem_of_getElem? (i := 125) (by decide +kernel))) rfl
theorem k_466 : Cond.code yJ7_fill_53178 cJ7_fill_53178 4 none ∈ BIG := mB (tb_1 (List.mem_of_getElem? (i := 126) (by decide +kernel))) rfl
theorem k_472 : Cond.fieldLink RX8 38 RX8 "count" "I" ∈ BIG := mB (tb_1 (List.mem_of_getElem? (i := 132) (by decide +kernel))) rfl
theorem k_474 : Cond.fieldLink RX8 25 RX8 "fitting" "[I" ∈ BIG := mB (tb_1 (List.mem_of_getElem? (i := 134) (by decide +kernel))) rfl
theorem k_491 : Cond.fieldLink RX10 10 RX10 "tape" "LTailorRegiment$Tape;" ∈ BIG := mB (tb_1 (List.mem_of_getElem? (i := 151) (by decide +kernel))) rfl
theorem k_492 : Cond.fieldLink RX10 21 RX10 "reader" "LTailorRegiment$Reader;" ∈ BIG := mB (tb_1 (List.mem_of_getElem? (i := 152) (by decide +kernel))) rfl
theorem k_493 : Cond.fieldLink RX10 28 RX10 "roll" "LTailorRegiment$Roll;" ∈ BIG := mB (tb_1 (List.mem_of_getElem? (i := 153) (by decide +kernel))) rfl
theorem k_494 : Cond.fieldLink RX10 37 RX10 "now" "LTailorRegiment$Company;" ∈ BIG := mB (tb_1 (List.mem_of_getElem? (i := 154) (by decide +kernel))) rfl
theorem k_495 : Cond.fieldLink RX10 46 RX10 "memory" "LTailorRegiment$Memory;" ∈ BIG := mB (tb_1 (List.mem_of_getElem? (i := 155) (by decide +kernel))) rfl
theorem k_498 : Cond.fieldLink RX10 69 RX10 "choices" "LTailorRegiment$Choices;" ∈ BIG := mB (tb_1 (List.mem_of_getElem? (i := 158) (by decide +kernel))) rfl
theorem k_499 : Cond.fieldLink RX10 76 RX10 "sightings" "LTailorRegiment$Sightings;" ∈ BIG := mB (tb_1 (List.mem_of_getElem? (i := 159) (by decide +kernel))) rfl
theorem k_526 : Cond.methodLink RX10 80 yX9_hasRoom ∈ BIG := mB (tb_1 (List.mem_of_getElem? (i := 186) (by decide +kernel))) rfl
theorem k_527 : Cond.instanceMethod yX9_hasRoom ∈ BIG := mB (tb_1 (List.mem_of_getElem? (i := 187) (by decide +kernel))) rfl
theorem k_528 : Cond.selects RX9 yX9_hasRoom yX9_hasRoom ∈ BIG := mB (tb_1 (List.mem_of_getElem? (i := 188) (by decide +kernel))) rfl
theorem k_529 : Cond.code yX9_hasRoom cX9_hasRoom 1 (some .boolean) ∈ BIG := mB (tb_1 (List.mem_of_getElem? (i := 189) (by decide +kernel))) rfl
theorem k_530 : Cond.methodLink RX10 84 yX9_append ∈ BIG := mB (tb_1 (List.mem_of_getElem? (i := 190) (by decide +kernel))) rfl
theorem k_531 : Cond.instanceMethod yX9_append ∈ BIG := mB (tb_1 (List.mem_of_getElem? (i := 191) (by decide +kernel))) rfl
theorem k_532 : Cond.selects RX9 yX9_append yX9_append ∈ BIG := mB (tb_1 (List.mem_of_getElem? (i := 192) (by decide +kernel))) rfl
theorem k_533 : Cond.code yX9_append cX9_append 3 none ∈ BIG := mB (tb_1 (List.mem_of_getElem? (i := 193) (by decide +kernel))) rfl
theorem k_542 : Cond.methodLink RX10 92 yX6_read ∈ BIG := mB (tb_1 (List.mem_of_getElem? (i := 202) (by decide +kernel))) rfl
theorem k_543 : Cond.instanceMethod yX6_read ∈ BIG := mB (tb_1 (List.mem_of_getElem? (i := 203) (by decide +kernel))) rfl
theorem k_544 : Cond.selects RX6 yX6_read yX6_read ∈ BIG := mB (tb_1 (List.mem_of_getElem? (i := 204) (by decide +kernel))) rfl
theorem k_545 : Cond.code yX6_read cX6_read 2 (some .boolean) ∈ BIG := mB (tb_1 (List.mem_of_getElem? (i := 205) (by decide +kernel))) rfl
theorem k_546 : Cond.methodLink RX6 33 yX7_clear ∈ BIG := mB (tb_1 (List.mem_of_getElem? (i := 206) (by decide +kernel))) rfl
theorem k_547 : Cond.instanceMethod yX7_clear ∈ BIG := mB (tb_1 (List.mem_of_getElem? (i := 207) (by decide +kernel))) rfl
theorem k_548 : Cond.selects RX7 yX7_clear yX7_clear ∈ BIG := mB (tb_1 (List.mem_of_getElem? (i := 208) (by decide +kernel))) rfl
theorem k_549 : Cond.code yX7_clear cX7_clear 1 none ∈ BIG := mB (tb_1 (List.mem_of_getElem? (i := 209) (by decide +kernel))) rfl
theorem k_550 : Cond.methodLink RX7 35 yX4_clear ∈ BIG := mB (tb_1 (List.mem_of_getElem? (i := 210) (by decide +kernel))) rfl
theorem k_551 : Cond.instanceMethod yX4_clear ∈ BIG := mB (tb_1 (List.mem_of_getElem? (i := 211) (by decide +kernel))) rfl
theorem k_552 : Cond.selects RX4 yX4_clear yX4_clear ∈ BIG := mB (tb_1 (List.mem_of_getElem? (i := 212) (by decide +kernel))) rfl
theorem k_553 : Cond.code yX4_clear cX4_clear 1 none ∈ BIG := mB (tb_1 (List.mem_of_getElem? (i := 213) (by decide +kernel))) rfl
theorem k_554 : Cond.methodLink RX6 42 yX9_rewind ∈ BIG := mB (tb_1 (List.mem_of_getElem? (i := 214) (by decide +kernel))) rfl
theorem k_555 : Cond.instanceMethod yX9_rewind ∈ BIG := mB (tb_1 (List.mem_of_getElem? (i := 215) (by decide +kernel))) rfl
theorem k_556 : Cond.selects RX9 yX9_rewind yX9_rewind ∈ BIG := mB (tb_1 (List.mem_of_getElem? (i := 216) (by decide +kernel))) rfl
theorem k_557 : Cond.code yX9_rewind cX9_rewind 1 none ∈ BIG := mB (tb_1 (List.mem_of_getElem? (i := 217) (by decide +kernel))) rfl
theorem k_558 : Cond.methodLink RX9 22 yX9_advance ∈ BIG := mB (tb_1 (List.mem_of_getElem? (i := 218) (by decide +kernel))) rfl
theorem k_559 : Cond.instanceMethod yX9_advance ∈ BIG := mB (tb_1 (List.mem_of_getElem? (i := 219) (by decide +kernel))) rfl
theorem k_560 : Cond.selects RX9 yX9_advance yX9_advance ∈ BIG := mB (tb_1 (List.mem_of_getElem? (i := 220) (by decide +kernel))) rfl
theorem k_561 : Cond.code yX9_advance cX9_advance 1 none ∈ BIG := mB (tb_1 (List.mem_of_getElem? (i := 221) (by decide +kernel))) rfl
theorem k_562 : Cond.methodLink RX9 31 yX9_isLetter ∈ BIG := mB (tb_1 (List.mem_of_getElem? (i := 222) (by decide +kernel))) rfl
theorem k_564 : Cond.instanceMethod yX9_isLetter ∈ BIG := mB (tb_1 (List.mem_of_getElem? (i := 224) (by decide +kernel))) rfl
theorem k_565 : Cond.code yX9_isLetter cX9_isLetter 2 (some .boolean) ∈ BIG := mB (tb_1 (List.mem_of_getElem? (i := 225) (by decide +kernel))) rfl
theorem k_566 : Cond.methodLink RX9 35 yX9_wordKind ∈ BIG := mB (tb_1 (List.mem_of_getElem? (i := 226) (by decide +kernel))) rfl
theorem k_568 : Cond.instanceMethod yX9_wordKind ∈ BIG := mB (tb_1 (List.mem_of_getElem? (i := 228) (by decide +kernel))) rfl
theorem k_569 : Cond.code yX9_wordKind cX9_wordKind 7 (some .int) ∈ BIG := mB (tb_1 (List.mem_of_getElem? (i := 229) (by decide +kernel))) rfl
theorem k_571 : Cond.methodLink RX9 55 yJ0_length_8abf5 ∈ BIG := mB (tb_1 (List.mem_of_getElem? (i := 231) (by decide +kernel))) rfl
theorem k_572 : Cond.instanceMethod yJ0_length_8abf5 ∈ BIG := mB (tb_1 (List.mem_of_getElem? (i := 232) (by decide +kernel))) rfl
theorem k_573 : Cond.selects RJ0 yJ0_length_8abf5 yJ0_length_8abf5 ∈ BIG := mB (tb_1 (List.mem_of_getElem? (i := 233) (by decide +kernel))) rfl
theorem k_574 : Cond.code yJ0_length_8abf5 cJ0_length_8abf5 1 (some .int) ∈ BIG := mB (tb_1 (List.mem_of_getElem? (i := 234) (by decide +kernel))) rfl
theorem k_575 : Cond.methodLink RJ0 335 yJ0_coder_7d493 ∈ BIG := mB (tb_1 (List.mem_of_getElem? (i := 235) (by decide +kernel))) rfl
theorem k_576 : Cond.instanceMethod yJ0_coder_7d493 ∈ BIG := mB (tb_1 (List.mem_of_getElem? (i := 236) (by decide +kernel))) rfl
theorem k_577 : Cond.selects RJ0 yJ0_coder_7d493 yJ0_coder_7d493 ∈ BIG := mB (tb_1 (List.mem_of_getElem? (i := 237) (by decide +kernel))) rfl
theorem k_578 : Cond.code yJ0_coder_7d493 cJ0_coder_7d493 1 (some .byte) ∈ BIG := mB (tb_1 (List.mem_of_getElem? (i := 238) (by decide +kernel))) rfl
theorem k_579 : Cond.fieldLink RJ0 38 RJ0 "COMPACT_STRINGS" "Z" ∈ BIG := mB (tb_1 (List.mem_of_getElem? (i := 239) (by decide +kernel))) rfl
theorem k_581 : Cond.methodLink RX9 58 yJ0_charAt_5068e ∈ BIG := mB (tb_2 (List.mem_of_getElem? (i := 1) (by decide +kernel))) rfl
theorem k_582 : Cond.instanceMethod yJ0_charAt_5068e ∈ BIG := mB (tb_2 (List.mem_of_getElem? (i := 2) (by decide +kernel))) rfl
theorem k_583 : Cond.selects RJ0 yJ0_charAt_5068e yJ0_charAt_5068e ∈ BIG := mB (tb_2 (List.mem_of_getElem? (i := 3) (by decide +kernel))) rfl
theorem k_584 : Cond.code yJ0_charAt_5068e cJ0_charAt_5068e 2 (some .char) ∈ BIG := mB (tb_2 (List.mem_of_getElem? (i := 4) (by decide +kernel))) rfl
theorem k_585 : Cond.methodLink RJ0 492 yJ0_isLatin1_aae02 ∈ BIG := mB (tb_2 (List.mem_of_getElem? (i := 5) (by decide +kernel))) rfl
theorem k_586 : Cond.instanceMethod yJ0_isLatin1_aae02 ∈ BIG := mB (tb_2 (List.mem_of_getElem? (i := 6) (by decide +kernel))) rfl
theorem k_587 : Cond.selects RJ0 yJ0_isLatin1_aae02 yJ0_isLatin1_aae02 ∈ BIG := mB (tb_2 (List.mem_of_getElem? (i := 7) (by decide +kernel))) rfl
theorem k_588 : Cond.code yJ0_isLatin1_aae02 cJ0_isLatin1_aae02 1 (some .boolean) ∈ BIG := mB (tb_2 (List.mem_of_getElem? (i := 8) (by decide +kernel))) rfl
theorem k_589 : Cond.methodLink RJ0 495 yJ1_charAt_3b067 ∈ BIG := mB (tb_2 (List.mem_of_getElem? (i := 9) (by decide +kernel))) rfl
theorem k_590 : Cond.static yJ1_charAt_3b067 ∈ BIG := mB (tb_2 (List.mem_of_getElem? (i := 10) (by decide +kernel))) rfl
theorem k_591 : Cond.code yJ1_charAt_3b067 cJ1_charAt_3b067 2 (some .char) ∈ BIG := mB (tb_2 (List.mem_of_getElem? (i := 11) (by decide +kernel))) rfl
theorem k_592 : Cond.methodLink RJ1 9 yJ0_checkIndex_df160 ∈ BIG := mB (tb_2 (List.mem_of_getElem? (i := 12) (by decide +kernel))) rfl
theorem k_593 : Cond.static yJ0_checkIndex_df160 ∈ BIG := mB (tb_2 (List.mem_of_getElem? (i := 13) (by decide +kernel))) rfl
theorem k_594 : Cond.code yJ0_checkIndex_df160 cJ0_checkIndex_df160 2 none ∈ BIG := mB (tb_2 (List.mem_of_getElem? (i := 14) (by decide +kernel))) rfl
theorem k_595 : Cond.fieldLink RJ0 1053 RJ3 "SIOOBE_FORMATTER" "Ljava/util/function/BiFunction;" ∈ BIG := mB (tb_2 (List.mem_of_getElem? (i := 15) (by decide +kernel))) rfl
theorem k_597 : Cond.methodLink RJ0 1059 yJ3_checkIndex_8e157 ∈ BIG := mB (tb_2 (List.mem_of_getElem? (i := 17) (by decide +kernel))) rfl
theorem k_598 : Cond.static yJ3_checkIndex_8e157 ∈ BIG := mB (tb_2 (List.mem_of_getElem? (i := 18) (by decide +kernel))) rfl
theorem k_599 : Cond.code yJ3_checkIndex_8e157 cJ3_checkIndex_8e157 3 (some .int) ∈ BIG := mB (tb_2 (List.mem_of_getElem? (i := 19) (by decide +kernel))) rfl
theorem k_619 : Cond.methodLink RX9 39 yX9_isDigit ∈ BIG := mB (tb_2 (List.mem_of_getElem? (i := 39) (by decide +kernel))) rfl
theorem k_621 : Cond.instanceMethod yX9_isDigit ∈ BIG := mB (tb_2 (List.mem_of_getElem? (i := 41) (by decide +kernel))) rfl
theorem k_622 : Cond.code yX9_isDigit cX9_isDigit 2 (some .boolean) ∈ BIG := mB (tb_2 (List.mem_of_getElem? (i := 42) (by decide +kernel))) rfl
theorem k_624 : Cond.methodLink RX9 47 yJ0_indexOf_0f7a4 ∈ BIG := mB (tb_2 (List.mem_of_getElem? (i := 44) (by decide +kernel))) rfl
theorem k_625 : Cond.instanceMethod yJ0_indexOf_0f7a4 ∈ BIG := mB (tb_2 (List.mem_of_getElem? (i := 45) (by decide +kernel))) rfl
theorem k_626 : Cond.selects RJ0 yJ0_indexOf_0f7a4 yJ0_indexOf_0f7a4 ∈ BIG := mB (tb_2 (List.mem_of_getElem? (i := 46) (by decide +kernel))) rfl
theorem k_627 : Cond.code yJ0_indexOf_0f7a4 cJ0_indexOf_0f7a4 2 (some .int) ∈ BIG := mB (tb_2 (List.mem_of_getElem? (i := 47) (by decide +kernel))) rfl
theorem k_628 : Cond.methodLink RJ0 633 yJ0_indexOf_7cf53 ∈ BIG := mB (tb_2 (List.mem_of_getElem? (i := 48) (by decide +kernel))) rfl
theorem k_629 : Cond.instanceMethod yJ0_indexOf_7cf53 ∈ BIG := mB (tb_2 (List.mem_of_getElem? (i := 49) (by decide +kernel))) rfl
theorem k_630 : Cond.selects RJ0 yJ0_indexOf_7cf53 yJ0_indexOf_7cf53 ∈ BIG := mB (tb_2 (List.mem_of_getElem? (i := 50) (by decide +kernel))) rfl
theorem k_631 : Cond.code yJ0_indexOf_7cf53 cJ0_indexOf_7cf53 3 (some .int) ∈ BIG := mB (tb_2 (List.mem_of_getElem? (i := 51) (by decide +kernel))) rfl
theorem k_632 : Cond.methodLink RJ0 505 yJ0_length_8abf5 ∈ BIG := mB (tb_2 (List.mem_of_getElem? (i := 52) (by decide +kernel))) rfl
theorem k_633 : Cond.methodLink RJ0 637 yJ1_indexOf_4cfef ∈ BIG := mB (tb_2 (List.mem_of_getElem? (i := 53) (by decide +kernel))) rfl
theorem k_634 : Cond.static yJ1_indexOf_4cfef ∈ BIG := mB (tb_2 (List.mem_of_getElem? (i := 54) (by decide +kernel))) rfl
theorem k_635 : Cond.code yJ1_indexOf_4cfef cJ1_indexOf_4cfef 4 (some .int) ∈ BIG := mB (tb_2 (List.mem_of_getElem? (i := 55) (by decide +kernel))) rfl
theorem k_636 : Cond.methodLink RJ1 88 yJ1_canEncode_9a6ad ∈ BIG := mB (tb_2 (List.mem_of_getElem? (i := 56) (by decide +kernel))) rfl
theorem k_637 : Cond.static yJ1_canEncode_9a6ad ∈ BIG := mB (tb_2 (List.mem_of_getElem? (i := 57) (by decide +kernel))) rfl
theorem k_638 : Cond.code yJ1_canEncode_9a6ad cJ1_canEncode_9a6ad 1 (some .boolean) ∈ BIG := mB (tb_2 (List.mem_of_getElem? (i := 58) (by decide +kernel))) rfl
theorem k_639 : Cond.methodLink RJ1 92 Lib.Math.max.name ∈ BIG := mB (tb_2 (List.mem_of_getElem? (i := 59) (by decide +kernel))) rfl
theorem k_640 : Cond.static Lib.Math.max.name ∈ BIG := mB (tb_2 (List.mem_of_getElem? (i := 60) (by decide +kernel))) rfl
theorem k_641 : Cond.code Lib.Math.max.name Lib.Math.max.code 2 (some .int) ∈ BIG := mB (tb_2 (List.mem_of_getElem? (i := 61) (by decide +kernel))) rfl
theorem k_642 : Cond.methodLink RJ1 38 Lib.Math.min.name ∈ BIG := mB (tb_2 (List.mem_of_getElem? (i := 62) (by decide +kernel))) rfl
theorem k_643 : Cond.static Lib.Math.min.name ∈ BIG := mB (tb_2 (List.mem_of_getElem? (i := 63) (by decide +kernel))) rfl
theorem k_644 : Cond.code Lib.Math.min.name Lib.Math.min.code 2 (some .int) ∈ BIG := mB (tb_2 (List.mem_of_getElem? (i := 64) (by decide +kernel))) rfl
theorem k_645 : Cond.methodLink RJ1 95 yJ1_indexOfChar_4cfef ∈ BIG := mB (tb_2 (List.mem_of_getElem? (i := 65) (by decide +kernel))) rfl
theorem k_646 : Cond.static yJ1_indexOfChar_4cfef ∈ BIG := mB (tb_2 (List.mem_of_getElem? (i := 66) (by decide +kernel))) rfl
theorem k_647 : Cond.code yJ1_indexOfChar_4cfef cJ1_indexOfChar_4cfef 6 (some .int) ∈ BIG := mB (tb_2 (List.mem_of_getElem? (i := 67) (by decide +kernel))) rfl
theorem k_683 : Cond.methodLink RX6 50 yX6_line ∈ BIG := mB (tb_2 (List.mem_of_getElem? (i := 103) (by decide +kernel))) rfl
theorem k_685 : Cond.instanceMethod yX6_line ∈ BIG := mB (tb_2 (List.mem_of_getElem? (i := 105) (by decide +kernel))) rfl
theorem k_686 : Cond.code yX6_line cX6_line 1 (some .boolean) ∈ BIG := mB (tb_2 (List.mem_of_getElem? (i := 106) (by decide +kernel))) rfl
theorem k_687 : Cond.methodLink RX6 54 yX6_manLine ∈ BIG := mB (tb_2 (List.mem_of_getElem? (i := 107) (by decide +kernel))) rfl
theorem k_689 : Cond.instanceMethod yX6_manLine ∈ BIG := mB (tb_2 (List.mem_of_getElem? (i := 109) (by decide +kernel))) rfl
theorem k_690 : Cond.code yX6_manLine cX6_manLine 4 (some .boolean) ∈ BIG := mB (tb_2 (List.mem_of_getElem? (i := 110) (by decide +kernel))) rfl
theorem k_691 : Cond.methodLink RX6 74 yX6_refuse ∈ BIG := mB (tb_2 (List.mem_of_getElem? (i := 111) (by decide +kernel))) rfl
theorem k_693 : Cond.instanceMethod yX6_refuse ∈ BIG := mB (tb_2 (List.mem_of_getElem? (i := 113) (by decide +kernel))) rfl
theorem k_694 : Cond.code yX6_refuse cX6_refuse 1 (some .boolean) ∈ BIG := mB (tb_2 (List.mem_of_getElem? (i := 114) (by decide +kernel))) rfl
theorem k_695 : Cond.methodLink RX6 77 yX6_refuseAs ∈ BIG := mB (tb_2 (List.mem_of_getElem? (i := 115) (by decide +kernel))) rfl
theorem k_697 : Cond.instanceMethod yX6_refuseAs ∈ BIG := mB (tb_2 (List.mem_of_getElem? (i := 117) (by decide +kernel))) rfl
theorem k_698 : Cond.code yX6_refuseAs cX6_refuseAs 2 (some .boolean) ∈ BIG := mB (tb_2 (List.mem_of_getElem? (i := 118) (by decide +kernel))) rfl
theorem k_699 : Cond.methodLink RX6 86 yX9_advance ∈ BIG := mB (tb_2 (List.mem_of_getElem? (i := 119) (by decide +kernel))) rfl
theorem k_700 : Cond.methodLink RX6 92 yX6_name ∈ BIG := mB (tb_2 (List.mem_of_getElem? (i := 120) (by decide +kernel))) rfl
theorem k_702 : Cond.instanceMethod yX6_name ∈ BIG := mB (tb_2 (List.mem_of_getElem? (i := 122) (by decide +kernel))) rfl
theorem k_703 : Cond.code yX6_name cX6_name 4 (some .boolean) ∈ BIG := mB (tb_2 (List.mem_of_getElem? (i := 123) (by decide +kernel))) rfl
theorem k_704 : Cond.methodLink RX6 111 yX9_sameWord ∈ BIG := mB (tb_2 (List.mem_of_getElem? (i := 124) (by decide +kernel))) rfl
theorem k_705 : Cond.instanceMethod yX9_sameWord ∈ BIG := mB (tb_2 (List.mem_of_getElem? (i := 125) (by decide +kernel))) rfl
theorem k_706 : Cond.selects RX9 yX9_sameWord yX9_sameWord ∈ BIG := mB (tb_2 (List.mem_of_getElem? (i := 126) (by decide +kernel))) rfl
theorem k_707 : Cond.code yX9_sameWord cX9_sameWord 4 (some .boolean) ∈ BIG := mB (tb_2 (List.mem_of_getElem? (i := 127) (by decide +kernel))) rfl
theorem k_708 : Cond.methodLink RX6 96 yX6_labelled ∈ BIG := mB (tb_2 (List.mem_of_getElem? (i := 128) (by decide +kernel))) rfl
theorem k_710 : Cond.instanceMethod yX6_labelled ∈ BIG := mB (tb_2 (List.mem_of_getElem? (i := 130) (by decide +kernel))) rfl
theorem k_711 : Cond.code yX6_labelled cX6_labelled 3 (some .int) ∈ BIG := mB (tb_2 (List.mem_of_getElem? (i := 131) (by decide +kernel))) rfl
theorem k_712 : Cond.methodLink RX6 114 yX6_numbered ∈ BIG := mB (tb_2 (List.mem_of_getElem? (i := 132) (by decide +kernel))) rfl
theorem k_714 : Cond.instanceMethod yX6_numbered ∈ BIG := mB (tb_2 (List.mem_of_getElem? (i := 134) (by decide +kernel))) rfl
theorem k_715 : Cond.code yX6_numbered cX6_numbered 3 (some .int) ∈ BIG := mB (tb_2 (List.mem_of_getElem? (i := 135) (by decide +kernel))) rfl
theorem k_716 : Cond.methodLink RX6 100 yX7_addMan ∈ BIG := mB (tb_2 (List.mem_of_getElem? (i := 136) (by decide +kernel))) rfl
theorem k_717 : Cond.instanceMethod yX7_addMan ∈ BIG := mB (tb_2 (List.mem_of_getElem? (i := 137) (by decide +kernel))) rfl
theorem k_718 : Cond.selects RX7 yX7_addMan yX7_addMan ∈ BIG := mB (tb_2 (List.mem_of_getElem? (i := 138) (by decide +kernel))) rfl
theorem k_719 : Cond.code yX7_addMan cX7_addMan 4 none ∈ BIG := mB (tb_2 (List.mem_of_getElem? (i := 139) (by decide +kernel))) rfl
theorem k_720 : Cond.methodLink RX6 57 yX6_closing ∈ BIG := mB (tb_2 (List.mem_of_getElem? (i := 140) (by decide +kernel))) rfl
theorem k_722 : Cond.instanceMethod yX6_closing ∈ BIG := mB (tb_2 (List.mem_of_getElem? (i := 142) (by decide +kernel))) rfl
theorem k_723 : Cond.code yX6_closing cX6_closing 1 (some .boolean) ∈ BIG := mB (tb_2 (List.mem_of_getElem? (i := 143) (by decide +kernel))) rfl
theorem k_724 : Cond.methodLink RX6 83 yX6_taken ∈ BIG := mB (tb_2 (List.mem_of_getElem? (i := 144) (by decide +kernel))) rfl
theorem k_726 : Cond.instanceMethod yX6_taken ∈ BIG := mB (tb_2 (List.mem_of_getElem? (i := 146) (by decide +kernel))) rfl
theorem k_727 : Cond.code yX6_taken cX6_taken 2 (some .boolean) ∈ BIG := mB (tb_2 (List.mem_of_getElem? (i := 147) (by decide +kernel))) rfl
theorem k_728 : Cond.methodLink RX6 60 yX6_coatLine ∈ BIG := mB (tb_2 (List.mem_of_getElem? (i := 148) (by decide +kernel))) rfl
theorem k_730 : Cond.instanceMethod yX6_coatLine ∈ BIG := mB (tb_2 (List.mem_of_getElem? (i := 150) (by decide +kernel))) rfl
theorem k_731 : Cond.code yX6_coatLine cX6_coatLine 5 (some .boolean) ∈ BIG := mB (tb_2 (List.mem_of_getElem? (i := 151) (by decide +kernel))) rfl
theorem k_732 : Cond.methodLink RX6 107 yX7_addCoat ∈ BIG := mB (tb_2 (List.mem_of_getElem? (i := 152) (by decide +kernel))) rfl
theorem k_733 : Cond.instanceMethod yX7_addCoat ∈ BIG := mB (tb_2 (List.mem_of_getElem? (i := 153) (by decide +kernel))) rfl
theorem k_734 : Cond.selects RX7 yX7_addCoat yX7_addCoat ∈ BIG := mB (tb_2 (List.mem_of_getElem? (i := 154) (by decide +kernel))) rfl
theorem k_735 : Cond.code yX7_addCoat cX7_addCoat 5 none ∈ BIG := mB (tb_2 (List.mem_of_getElem? (i := 155) (by decide +kernel))) rfl
theorem k_736 : Cond.methodLink RX6 63 yX6_opened ∈ BIG := mB (tb_2 (List.mem_of_getElem? (i := 156) (by decide +kernel))) rfl
theorem k_738 : Cond.instanceMethod yX6_opened ∈ BIG := mB (tb_2 (List.mem_of_getElem? (i := 158) (by decide +kernel))) rfl
theorem k_739 : Cond.code yX6_opened cX6_opened 3 (some .boolean) ∈ BIG := mB (tb_2 (List.mem_of_getElem? (i := 159) (by decide +kernel))) rfl
theorem k_740 : Cond.methodLink RX6 67 yX6_expression ∈ BIG := mB (tb_2 (List.mem_of_getElem? (i := 160) (by decide +kernel))) rfl
theorem k_742 : Cond.instanceMethod yX6_expression ∈ BIG := mB (tb_2 (List.mem_of_getElem? (i := 162) (by decide +kernel))) rfl
theorem k_743 : Cond.code yX6_expression cX6_expression 6 (some .boolean) ∈ BIG := mB (tb_2 (List.mem_of_getElem? (i := 163) (by decide +kernel))) rfl
theorem k_744 : Cond.methodLink RX6 125 yX6_unit ∈ BIG := mB (tb_2 (List.mem_of_getElem? (i := 164) (by decide +kernel))) rfl
theorem k_746 : Cond.instanceMethod yX6_unit ∈ BIG := mB (tb_2 (List.mem_of_getElem? (i := 166) (by decide +kernel))) rfl
theorem k_747 : Cond.code yX6_unit cX6_unit 4 (some .boolean) ∈ BIG := mB (tb_2 (List.mem_of_getElem? (i := 167) (by decide +kernel))) rfl
theorem k_748 : Cond.methodLink RX6 138 yX4_add ∈ BIG := mB (tb_2 (List.mem_of_getElem? (i := 168) (by decide +kernel))) rfl
theorem k_749 : Cond.instanceMethod yX4_add ∈ BIG := mB (tb_2 (List.mem_of_getElem? (i := 169) (by decide +kernel))) rfl
theorem k_750 : Cond.selects RX4 yX4_add yX4_add ∈ BIG := mB (tb_2 (List.mem_of_getElem? (i := 170) (by decide +kernel))) rfl
theorem k_751 : Cond.code yX4_add cX4_add 3 none ∈ BIG := mB (tb_2 (List.mem_of_getElem? (i := 171) (by decide +kernel))) rfl
theorem k_752 : Cond.methodLink RX6 128 yX6_negation ∈ BIG := mB (tb_2 (List.mem_of_getElem? (i := 172) (by decide +kernel))) rfl
theorem k_754 : Cond.instanceMethod yX6_negation ∈ BIG := mB (tb_2 (List.mem_of_getElem? (i := 174) (by decide +kernel))) rfl
theorem k_755 : Cond.code yX6_negation cX6_negation 2 (some .boolean) ∈ BIG := mB (tb_2 (List.mem_of_getElem? (i := 175) (by decide +kernel))) rfl
theorem k_756 : Cond.methodLink RX6 131 yX6_joins ∈ BIG := mB (tb_2 (List.mem_of_getElem? (i := 176) (by decide +kernel))) rfl
theorem k_757 : Cond.static yX6_joins ∈ BIG := mB (tb_2 (List.mem_of_getElem? (i := 177) (by decide +kernel))) rfl
theorem k_758 : Cond.code yX6_joins cX6_joins 2 (some .boolean) ∈ BIG := mB (tb_2 (List.mem_of_getElem? (i := 178) (by decide +kernel))) rfl
theorem k_759 : Cond.methodLink RX6 71 yX6_settingLine ∈ BIG := mB (tb_2 (List.mem_of_getElem? (i := 179) (by decide +kernel))) rfl
theorem k_761 : Cond.instanceMethod yX6_settingLine ∈ BIG := mB (tb_2 (List.mem_of_getElem? (i := 181) (by decide +kernel))) rfl
theorem k_762 : Cond.code yX6_settingLine cX6_settingLine 4 (some .boolean) ∈ BIG := mB (tb_2 (List.mem_of_getElem? (i := 182) (by decide +kernel))) rfl
theorem k_763 : Cond.methodLink RX6 121 yX7_set ∈ BIG := mB (tb_2 (List.mem_of_getElem? (i := 183) (by decide +kernel))) rfl
theorem k_764 : Cond.instanceMethod yX7_set ∈ BIG := mB (tb_2 (List.mem_of_getElem? (i := 184) (by decide +kernel))) rfl
theorem k_765 : Cond.selects RX7 yX7_set yX7_set ∈ BIG := mB (tb_2 (List.mem_of_getElem? (i := 185) (by decide +kernel))) rfl
theorem k_766 : Cond.code yX7_set cX7_set 3 none ∈ BIG := mB (tb_2 (List.mem_of_getElem? (i := 186) (by decide +kernel))) rfl
theorem k_767 : Cond.methodLink RX10 98 yX7_copy ∈ BIG := mB (tb_2 (List.mem_of_getElem? (i := 187) (by decide +kernel))) rfl
theorem k_768 : Cond.instanceMethod yX7_copy ∈ BIG := mB (tb_2 (List.mem_of_getElem? (i := 188) (by decide +kernel))) rfl
theorem k_769 : Cond.selects RX7 yX7_copy yX7_copy ∈ BIG := mB (tb_2 (List.mem_of_getElem? (i := 189) (by decide +kernel))) rfl
theorem k_770 : Cond.code yX7_copy cX7_copy 2 none ∈ BIG := mB (tb_2 (List.mem_of_getElem? (i := 190) (by decide +kernel))) rfl
theorem k_771 : Cond.methodLink RX7 53 arraycopyName ∈ BIG := mB (tb_2 (List.mem_of_getElem? (i := 191) (by decide +kernel))) rfl
theorem k_772 : Cond.methodLink RX7 59 yX4_copy ∈ BIG := mB (tb_2 (List.mem_of_getElem? (i := 192) (by decide +kernel))) rfl
theorem k_773 : Cond.instanceMethod yX4_copy ∈ BIG := mB (tb_2 (List.mem_of_getElem? (i := 193) (by decide +kernel))) rfl
theorem k_774 : Cond.selects RX4 yX4_copy yX4_copy ∈ BIG := mB (tb_2 (List.mem_of_getElem? (i := 194) (by decide +kernel))) rfl
theorem k_775 : Cond.code yX4_copy cX4_copy 2 none ∈ BIG := mB (tb_2 (List.mem_of_getElem? (i := 195) (by decide +kernel))) rfl
theorem k_776 : Cond.methodLink RX4 31 arraycopyName ∈ BIG := mB (tb_2 (List.mem_of_getElem? (i := 196) (by decide +kernel))) rfl
theorem k_777 : Cond.methodLink RX10 101 yX1_muster ∈ BIG := mB (tb_2 (List.mem_of_getElem? (i := 197) (by decide +kernel))) rfl
theorem k_778 : Cond.methodLink RX10 104 yX5_forgetAll ∈ BIG := mB (tb_2 (List.mem_of_getElem? (i := 198) (by decide +kernel))) rfl
theorem k_779 : Cond.instanceMethod yX5_forgetAll ∈ BIG := mB (tb_2 (List.mem_of_getElem? (i := 199) (by decide +kernel))) rfl
theorem k_780 : Cond.selects RX5 yX5_forgetAll yX5_forgetAll ∈ BIG := mB (tb_2 (List.mem_of_getElem? (i := 200) (by decide +kernel))) rfl
theorem k_781 : Cond.code yX5_forgetAll cX5_forgetAll 1 none ∈ BIG := mB (tb_2 (List.mem_of_getElem? (i := 201) (by decide +kernel))) rfl
theorem k_782 : Cond.methodLink RX5 32 yX5_forgetActs ∈ BIG := mB (tb_2 (List.mem_of_getElem? (i := 202) (by decide +kernel))) rfl
theorem k_784 : Cond.instanceMethod yX5_forgetActs ∈ BIG := mB (tb_2 (List.mem_of_getElem? (i := 204) (by decide +kernel))) rfl
theorem k_785 : Cond.code yX5_forgetActs cX5_forgetActs 1 none ∈ BIG := mB (tb_2 (List.mem_of_getElem? (i := 205) (by decide +kernel))) rfl
theorem k_786 : Cond.methodLink RX10 107 yX0_clear ∈ BIG := mB (tb_2 (List.mem_of_getElem? (i := 206) (by decide +kernel))) rfl
theorem k_787 : Cond.instanceMethod yX0_clear ∈ BIG := mB (tb_2 (List.mem_of_getElem? (i := 207) (by decide +kernel))) rfl
theorem k_788 : Cond.selects RX0 yX0_clear yX0_clear ∈ BIG := mB (tb_2 (List.mem_of_getElem? (i := 208) (by decide +kernel))) rfl
theorem k_789 : Cond.code yX0_clear cX0_clear 1 none ∈ BIG := mB (tb_2 (List.mem_of_getElem? (i := 209) (by decide +kernel))) rfl
theorem k_790 : Cond.methodLink RX10 110 yX8_clear ∈ BIG := mB (tb_2 (List.mem_of_getElem? (i := 210) (by decide +kernel))) rfl
theorem k_791 : Cond.instanceMethod yX8_clear ∈ BIG := mB (tb_2 (List.mem_of_getElem? (i := 211) (by decide +kernel))) rfl
theorem k_792 : Cond.selects RX8 yX8_clear yX8_clear ∈ BIG := mB (tb_2 (List.mem_of_getElem? (i := 212) (by decide +kernel))) rfl
theorem k_793 : Cond.code yX8_clear cX8_clear 1 none ∈ BIG := mB (tb_2 (List.mem_of_getElem? (i := 213) (by decide +kernel))) rfl
theorem k_1320 : Cond.fieldLink RX11 7 RX11 "tape" "[I" ∈ BIG := mB (tb_5 (List.mem_of_getElem? (i := 20) (by decide +kernel))) rfl
theorem k_1321 : Cond.fieldLink RX11 139 RX11 "taped" "I" ∈ BIG := mB (tb_5 (List.mem_of_getElem? (i := 21) (by decide +kernel))) rfl
theorem k_1322 : Cond.fieldLink RX11 179 RX11 "fault" "I" ∈ BIG := mB (tb_5 (List.mem_of_getElem? (i := 22) (by decide +kernel))) rfl
theorem k_1323 : Cond.fieldLink RX11 13 RX11 "faultPlace" "I" ∈ BIG := mB (tb_5 (List.mem_of_getElem? (i := 23) (by decide +kernel))) rfl
theorem k_1324 : Cond.fieldLink RX11 146 RX11 "at" "I" ∈ BIG := mB (tb_5 (List.mem_of_getElem? (i := 24) (by decide +kernel))) rfl
theorem k_1325 : Cond.fieldLink RX11 149 RX11 "size" "I" ∈ BIG := mB (tb_5 (List.mem_of_getElem? (i := 25) (by decide +kernel))) rfl
theorem k_1326 : Cond.fieldLink RX11 166 RX11 "sort" "I" ∈ BIG := mB (tb_5 (List.mem_of_getElem? (i := 26) (by decide +kernel))) rfl
theorem k_1327 : Cond.fieldLink RX11 156 RX11 "place" "I" ∈ BIG := mB (tb_5 (List.mem_of_getElem? (i := 27) (by decide +kernel))) rfl
theorem k_1328 : Cond.fieldLink RX11 163 RX11 "number" "I" ∈ BIG := mB (tb_5 (List.mem_of_getElem? (i := 28) (by decide +kernel))) rfl
theorem k_1329 : Cond.fieldLink RX11 159 RX11 "word" "J" ∈ BIG := mB (tb_5 (List.mem_of_getElem? (i := 29) (by decide +kernel))) rfl
theorem k_1330 : Cond.fieldLink RX11 17 RX11 "nName" "[J" ∈ BIG := mB (tb_5 (List.mem_of_getElem? (i := 30) (by decide +kernel))) rfl
theorem k_1331 : Cond.fieldLink RX11 21 RX11 "nStep" "[I" ∈ BIG := mB (tb_5 (List.mem_of_getElem? (i := 31) (by decide +kernel))) rfl
theorem k_1332 : Cond.fieldLink RX11 24 RX11 "nArg" "[I" ∈ BIG := mB (tb_5 (List.mem_of_getElem? (i := 32) (by decide +kernel))) rfl
theorem k_1333 : Cond.fieldLink RX11 27 RX11 "step" "[I" ∈ BIG := mB (tb_5 (List.mem_of_getElem? (i := 33) (by decide +kernel))) rfl
theorem k_1334 : Cond.fieldLink RX11 30 RX11 "arg" "[I" ∈ BIG := mB (tb_5 (List.mem_of_getElem? (i := 34) (by decide +kernel))) rfl
theorem k_1335 : Cond.fieldLink RX11 33 RX11 "open" "[I" ∈ BIG := mB (tb_5 (List.mem_of_getElem? (i := 35) (by decide +kernel))) rfl
theorem k_1337 : Cond.fieldLink RX11 253 RX11 "nMany" "I" ∈ BIG := mB (tb_5 (List.mem_of_getElem? (i := 37) (by decide +kernel))) rfl
theorem k_1338 : Cond.fieldLink RX11 323 RX11 "steps" "I" ∈ BIG := mB (tb_5 (List.mem_of_getElem? (i := 38) (by decide +kernel))) rfl
theorem k_1339 : Cond.fieldLink RX11 256 RX11 "opens" "I" ∈ BIG := mB (tb_5 (List.mem_of_getElem? (i := 39) (by decide +kernel))) rfl
theorem k_1340 : Cond.fieldLink RX11 269 RX11 "nUnits" "I" ∈ BIG := mB (tb_5 (List.mem_of_getElem? (i := 40) (by decide +kernel))) rfl
theorem k_1341 : Cond.fieldLink RX11 396 RX11 "units" "I" ∈ BIG := mB (tb_5 (List.mem_of_getElem? (i := 41) (by decide +kernel))) rfl
theorem k_1342 : Cond.fieldLink RX11 272 RX11 "ownUnits" "I" ∈ BIG := mB (tb_5 (List.mem_of_getElem? (i := 42) (by decide +kernel))) rfl
theorem k_1343 : Cond.fieldLink RX11 266 RX11 "deep" "I" ∈ BIG := mB (tb_5 (List.mem_of_getElem? (i := 43) (by decide +kernel))) rfl
theorem k_1344 : Cond.fieldLink RX11 291 RX11 "nHasForm" "Z" ∈ BIG := mB (tb_5 (List.mem_of_getElem? (i := 44) (by decide +kernel))) rfl
theorem k_1345 : Cond.fieldLink RX11 317 RX11 "hasForm" "Z" ∈ BIG := mB (tb_5 (List.mem_of_getElem? (i := 45) (by decide +kernel))) rfl
theorem k_1347 : Cond.fieldLink RX11 42 RX11 "nTall" "[I" ∈ BIG := mB (tb_5 (List.mem_of_getElem? (i := 47) (by decide +kernel))) rfl
theorem k_1348 : Cond.fieldLink RX11 45 RX11 "nWide" "[I" ∈ BIG := mB (tb_5 (List.mem_of_getElem? (i := 48) (by decide +kernel))) rfl
theorem k_1349 : Cond.fieldLink RX11 48 RX11 "nGrows" "[I" ∈ BIG := mB (tb_5 (List.mem_of_getElem? (i := 49) (by decide +kernel))) rfl
theorem k_1350 : Cond.fieldLink RX11 51 RX11 "nCoatTall" "[I" ∈ BIG := mB (tb_5 (List.mem_of_getElem? (i := 50) (by decide +kernel))) rfl
theorem k_1351 : Cond.fieldLink RX11 54 RX11 "nCoatWide" "[I" ∈ BIG := mB (tb_5 (List.mem_of_getElem? (i := 51) (by decide +kernel))) rfl
theorem k_1352 : Cond.fieldLink RX11 57 RX11 "nSeam" "[I" ∈ BIG := mB (tb_5 (List.mem_of_getElem? (i := 52) (by decide +kernel))) rfl
theorem k_1353 : Cond.fieldLink RX11 60 RX11 "nWorn" "[I" ∈ BIG := mB (tb_5 (List.mem_of_getElem? (i := 53) (by decide +kernel))) rfl
theorem k_1354 : Cond.fieldLink RX11 63 RX11 "tall" "[I" ∈ BIG := mB (tb_5 (List.mem_of_getElem? (i := 54) (by decide +kernel))) rfl
theorem k_1355 : Cond.fieldLink RX11 66 RX11 "wide" "[I" ∈ BIG := mB (tb_5 (List.mem_of_getElem? (i := 55) (by decide +kernel))) rfl
theorem k_1356 : Cond.fieldLink RX11 69 RX11 "grows" "[I" ∈ BIG := mB (tb_5 (List.mem_of_getElem? (i := 56) (by decide +kernel))) rfl
theorem k_1357 : Cond.fieldLink RX11 72 RX11 "coatTall" "[I" ∈ BIG := mB (tb_5 (List.mem_of_getElem? (i := 57) (by decide +kernel))) rfl
theorem k_1358 : Cond.fieldLink RX11 75 RX11 "coatWide" "[I" ∈ BIG := mB (tb_5 (List.mem_of_getElem? (i := 58) (by decide +kernel))) rfl
theorem k_1359 : Cond.fieldLink RX11 78 RX11 "seam" "[I" ∈ BIG := mB (tb_5 (List.mem_of_getElem? (i := 59) (by decide +kernel))) rfl
theorem k_1360 : Cond.fieldLink RX11 81 RX11 "worn" "[I" ∈ BIG := mB (tb_5 (List.mem_of_getElem? (i := 60) (by decide +kernel))) rfl
theorem k_1361 : Cond.fieldLink RX11 330 RX11 "nMen" "I" ∈ BIG := mB (tb_5 (List.mem_of_getElem? (i := 61) (by decide +kernel))) rfl
theorem k_1362 : Cond.fieldLink RX11 339 RX11 "nCoats" "I" ∈ BIG := mB (tb_5 (List.mem_of_getElem? (i := 62) (by decide +kernel))) rfl
theorem k_1363 : Cond.fieldLink RX11 354 RX11 "nEasy" "I" ∈ BIG := mB (tb_5 (List.mem_of_getElem? (i := 63) (by decide +kernel))) rfl
theorem k_1364 : Cond.fieldLink RX11 360 RX11 "nBolt" "I" ∈ BIG := mB (tb_5 (List.mem_of_getElem? (i := 64) (by decide +kernel))) rfl
theorem k_1365 : Cond.fieldLink RX11 366 RX11 "nLike" "I" ∈ BIG := mB (tb_5 (List.mem_of_getElem? (i := 65) (by decide +kernel))) rfl
theorem k_1366 : Cond.fieldLink RX11 372 RX11 "nRain" "I" ∈ BIG := mB (tb_5 (List.mem_of_getElem? (i := 66) (by decide +kernel))) rfl
theorem k_1367 : Cond.fieldLink RX11 378 RX11 "nDraw" "I" ∈ BIG := mB (tb_5 (List.mem_of_getElem? (i := 67) (by decide +kernel))) rfl
theorem k_1368 : Cond.fieldLink RX11 387 RX11 "men" "I" ∈ BIG := mB (tb_5 (List.mem_of_getElem? (i := 68) (by decide +kernel))) rfl
theorem k_1369 : Cond.fieldLink RX11 390 RX11 "coats" "I" ∈ BIG := mB (tb_5 (List.mem_of_getElem? (i := 69) (by decide +kernel))) rfl
theorem k_1370 : Cond.fieldLink RX11 84 RX11 "easy" "I" ∈ BIG := mB (tb_5 (List.mem_of_getElem? (i := 70) (by decide +kernel))) rfl
theorem k_1371 : Cond.fieldLink RX11 87 RX11 "bolt" "I" ∈ BIG := mB (tb_5 (List.mem_of_getElem? (i := 71) (by decide +kernel))) rfl
theorem k_1372 : Cond.fieldLink RX11 90 RX11 "like" "I" ∈ BIG := mB (tb_5 (List.mem_of_getElem? (i := 72) (by decide +kernel))) rfl
theorem k_1373 : Cond.fieldLink RX11 393 RX11 "rain" "I" ∈ BIG := mB (tb_5 (List.mem_of_getElem? (i := 73) (by decide +kernel))) rfl
theorem k_1374 : Cond.fieldLink RX11 351 RX11 "nHasEasy" "Z" ∈ BIG := mB (tb_5 (List.mem_of_getElem? (i := 74) (by decide +kernel))) rfl
theorem k_1375 : Cond.fieldLink RX11 357 RX11 "nHasBolt" "Z" ∈ BIG := mB (tb_5 (List.mem_of_getElem? (i := 75) (by decide +kernel))) rfl
theorem k_1376 : Cond.fieldLink RX11 363 RX11 "nHasLike" "Z" ∈ BIG := mB (tb_5 (List.mem_of_getElem? (i := 76) (by decide +kernel))) rfl
theorem k_1377 : Cond.fieldLink RX11 369 RX11 "nHasRain" "Z" ∈ BIG := mB (tb_5 (List.mem_of_getElem? (i := 77) (by decide +kernel))) rfl
theorem k_1378 : Cond.fieldLink RX11 375 RX11 "nHasDraw" "Z" ∈ BIG := mB (tb_5 (List.mem_of_getElem? (i := 78) (by decide +kernel))) rfl
theorem k_1379 : Cond.fieldLink RX11 93 RX11 "now" "[I" ∈ BIG := mB (tb_5 (List.mem_of_getElem? (i := 79) (by decide +kernel))) rfl
theorem k_1380 : Cond.fieldLink RX11 96 RX11 "air" "[I" ∈ BIG := mB (tb_5 (List.mem_of_getElem? (i := 80) (by decide +kernel))) rfl
theorem k_1382 : Cond.fieldLink RX11 405 RX11 "acts" "I" ∈ BIG := mB (tb_5 (List.mem_of_getElem? (i := 82) (by decide +kernel))) rfl
theorem k_1383 : Cond.fieldLink RX11 408 RX11 "undone" "I" ∈ BIG := mB (tb_5 (List.mem_of_getElem? (i := 83) (by decide +kernel))) rfl
theorem k_1387 : Cond.fieldLink RX11 414 RX11 "lain" "I" ∈ BIG := mB (tb_5 (List.mem_of_getElem? (i := 87) (by decide +kernel))) rfl
theorem k_1393 : Cond.fieldLink RX11 411 RX11 "sights" "I" ∈ BIG := mB (tb_5 (List.mem_of_getElem? (i := 93) (by decide +kernel))) rfl
theorem k_1397 : Cond.fieldLink RX11 133 RX11 "hasBox" "[Z" ∈ BIG := mB (tb_5 (List.mem_of_getElem? (i := 97) (by decide +kernel))) rfl
theorem k_1563 : Cond.methodLink RX11 142 yX11_four ∈ BIG := mB (tb_6 (List.mem_of_getElem? (i := 23) (by decide +kernel))) rfl
theorem k_1565 : Cond.instanceMethod yX11_four ∈ BIG := mB (tb_6 (List.mem_of_getElem? (i := 25) (by decide +kernel))) rfl
theorem k_1566 : Cond.code yX11_four cX11_four 3 none ∈ BIG := mB (tb_6 (List.mem_of_getElem? (i := 26) (by decide +kernel))) rfl
theorem k_1575 : Cond.methodLink RX11 384 yX11_readAll ∈ BIG := mB (tb_6 (List.mem_of_getElem? (i := 35) (by decide +kernel))) rfl
theorem k_1577 : Cond.instanceMethod yX11_readAll ∈ BIG := mB (tb_6 (List.mem_of_getElem? (i := 37) (by decide +kernel))) rfl
theorem k_1578 : Cond.code yX11_readAll cX11_readAll 1 none ∈ BIG := mB (tb_6 (List.mem_of_getElem? (i := 38) (by decide +kernel))) rfl
theorem k_1579 : Cond.methodLink RX11 235 yX11_token ∈ BIG := mB (tb_6 (List.mem_of_getElem? (i := 39) (by decide +kernel))) rfl
theorem k_1581 : Cond.instanceMethod yX11_token ∈ BIG := mB (tb_6 (List.mem_of_getElem? (i := 41) (by decide +kernel))) rfl
theorem k_1582 : Cond.code yX11_token cX11_token 3 none ∈ BIG := mB (tb_6 (List.mem_of_getElem? (i := 42) (by decide +kernel))) rfl
theorem k_1583 : Cond.methodLink RX11 152 yX11_here ∈ BIG := mB (tb_6 (List.mem_of_getElem? (i := 43) (by decide +kernel))) rfl
theorem k_1585 : Cond.instanceMethod yX11_here ∈ BIG := mB (tb_6 (List.mem_of_getElem? (i := 45) (by decide +kernel))) rfl
theorem k_1586 : Cond.code yX11_here cX11_here 2 (some .int) ∈ BIG := mB (tb_6 (List.mem_of_getElem? (i := 46) (by decide +kernel))) rfl
theorem k_1587 : Cond.methodLink RX11 169 yX11_isLetter ∈ BIG := mB (tb_6 (List.mem_of_getElem? (i := 47) (by decide +kernel))) rfl
theorem k_1588 : Cond.static yX11_isLetter ∈ BIG := mB (tb_6 (List.mem_of_getElem? (i := 48) (by decide +kernel))) rfl
theorem k_1589 : Cond.code yX11_isLetter cX11_isLetter 1 (some .boolean) ∈ BIG := mB (tb_6 (List.mem_of_getElem? (i := 49) (by decide +kernel))) rfl
theorem k_1590 : Cond.methodLink RX11 173 yX11_isDigit ∈ BIG := mB (tb_6 (List.mem_of_getElem? (i := 50) (by decide +kernel))) rfl
theorem k_1591 : Cond.static yX11_isDigit ∈ BIG := mB (tb_6 (List.mem_of_getElem? (i := 51) (by decide +kernel))) rfl
theorem k_1592 : Cond.code yX11_isDigit cX11_isDigit 1 (some .boolean) ∈ BIG := mB (tb_6 (List.mem_of_getElem? (i := 52) (by decide +kernel))) rfl
theorem k_1593 : Cond.methodLink RX11 176 yX11_isSign ∈ BIG := mB (tb_6 (List.mem_of_getElem? (i := 53) (by decide +kernel))) rfl
theorem k_1594 : Cond.static yX11_isSign ∈ BIG := mB (tb_6 (List.mem_of_getElem? (i := 54) (by decide +kernel))) rfl
theorem k_1595 : Cond.code yX11_isSign cX11_isSign 1 (some .boolean) ∈ BIG := mB (tb_6 (List.mem_of_getElem? (i := 55) (by decide +kernel))) rfl
theorem k_1596 : Cond.methodLink RX11 381 yX11_readLine ∈ BIG := mB (tb_6 (List.mem_of_getElem? (i := 56) (by decide +kernel))) rfl
theorem k_1598 : Cond.instanceMethod yX11_readLine ∈ BIG := mB (tb_6 (List.mem_of_getElem? (i := 58) (by decide +kernel))) rfl
theorem k_1599 : Cond.code yX11_readLine cX11_readLine 1 none ∈ BIG := mB (tb_6 (List.mem_of_getElem? (i := 59) (by decide +kernel))) rfl
theorem k_1600 : Cond.constantLong RX11 182 7168366 ∈ BIG := mB (tb_6 (List.mem_of_getElem? (i := 60) (by decide +kernel))) rfl
theorem k_1601 : Cond.methodLink RX11 228 yX11_isWord ∈ BIG := mB (tb_6 (List.mem_of_getElem? (i := 61) (by decide +kernel))) rfl
theorem k_1603 : Cond.instanceMethod yX11_isWord ∈ BIG := mB (tb_6 (List.mem_of_getElem? (i := 63) (by decide +kernel))) rfl
theorem k_1604 : Cond.code yX11_isWord cX11_isWord 3 (some .boolean) ∈ BIG := mB (tb_6 (List.mem_of_getElem? (i := 64) (by decide +kernel))) rfl
theorem k_1605 : Cond.methodLink RX11 342 yX11_readMan ∈ BIG := mB (tb_6 (List.mem_of_getElem? (i := 65) (by decide +kernel))) rfl
theorem k_1607 : Cond.instanceMethod yX11_readMan ∈ BIG := mB (tb_6 (List.mem_of_getElem? (i := 67) (by decide +kernel))) rfl
theorem k_1608 : Cond.code yX11_readMan cX11_readMan 1 none ∈ BIG := mB (tb_6 (List.mem_of_getElem? (i := 68) (by decide +kernel))) rfl
theorem k_1609 : Cond.methodLink RX11 333 yX11_newName ∈ BIG := mB (tb_6 (List.mem_of_getElem? (i := 69) (by decide +kernel))) rfl
theorem k_1611 : Cond.instanceMethod yX11_newName ∈ BIG := mB (tb_6 (List.mem_of_getElem? (i := 71) (by decide +kernel))) rfl
theorem k_1612 : Cond.code yX11_newName cX11_newName 4 none ∈ BIG := mB (tb_6 (List.mem_of_getElem? (i := 72) (by decide +kernel))) rfl
theorem k_1613 : Cond.methodLink RX11 250 yX11_isName ∈ BIG := mB (tb_6 (List.mem_of_getElem? (i := 73) (by decide +kernel))) rfl
theorem k_1615 : Cond.instanceMethod yX11_isName ∈ BIG := mB (tb_6 (List.mem_of_getElem? (i := 75) (by decide +kernel))) rfl
theorem k_1616 : Cond.code yX11_isName cX11_isName 1 (some .boolean) ∈ BIG := mB (tb_6 (List.mem_of_getElem? (i := 76) (by decide +kernel))) rfl
theorem k_1617 : Cond.methodLink RX11 224 yX11_isOwn ∈ BIG := mB (tb_6 (List.mem_of_getElem? (i := 77) (by decide +kernel))) rfl
theorem k_1619 : Cond.instanceMethod yX11_isOwn ∈ BIG := mB (tb_6 (List.mem_of_getElem? (i := 79) (by decide +kernel))) rfl
theorem k_1620 : Cond.code yX11_isOwn cX11_isOwn 1 (some .boolean) ∈ BIG := mB (tb_6 (List.mem_of_getElem? (i := 80) (by decide +kernel))) rfl
theorem k_1621 : Cond.constantLong RX11 184 1952541804 ∈ BIG := mB (tb_6 (List.mem_of_getElem? (i := 81) (by decide +kernel))) rfl
theorem k_1622 : Cond.constantLong RX11 186 2003395685 ∈ BIG := mB (tb_6 (List.mem_of_getElem? (i := 82) (by decide +kernel))) rfl
theorem k_1623 : Cond.constantLong RX11 188 444301539187 ∈ BIG := mB (tb_6 (List.mem_of_getElem? (i := 83) (by decide +kernel))) rfl
theorem k_1624 : Cond.constantLong RX11 190 1668243828 ∈ BIG := mB (tb_6 (List.mem_of_getElem? (i := 84) (by decide +kernel))) rfl
theorem k_1625 : Cond.constantLong RX11 192 1936023917 ∈ BIG := mB (tb_6 (List.mem_of_getElem? (i := 85) (by decide +kernel))) rfl
theorem k_1626 : Cond.constantLong RX11 194 2003792494 ∈ BIG := mB (tb_6 (List.mem_of_getElem? (i := 86) (by decide +kernel))) rfl
theorem k_1627 : Cond.constantLong RX11 196 6909036 ∈ BIG := mB (tb_6 (List.mem_of_getElem? (i := 87) (by decide +kernel))) rfl
theorem k_1628 : Cond.constantLong RX11 198 1700885369 ∈ BIG := mB (tb_6 (List.mem_of_getElem? (i := 88) (by decide +kernel))) rfl
theorem k_1629 : Cond.constantLong RX11 200 1651469428 ∈ BIG := mB (tb_6 (List.mem_of_getElem? (i := 89) (by decide +kernel))) rfl
theorem k_1630 : Cond.constantLong RX11 202 1818848101 ∈ BIG := mB (tb_6 (List.mem_of_getElem? (i := 90) (by decide +kernel))) rfl
theorem k_1631 : Cond.constantLong RX11 204 1918986606 ∈ BIG := mB (tb_6 (List.mem_of_getElem? (i := 91) (by decide +kernel))) rfl
theorem k_1632 : Cond.constantLong RX11 206 1685217655 ∈ BIG := mB (tb_6 (List.mem_of_getElem? (i := 92) (by decide +kernel))) rfl
theorem k_1633 : Cond.constantLong RX11 208 499984590964 ∈ BIG := mB (tb_6 (List.mem_of_getElem? (i := 93) (by decide +kernel))) rfl
theorem k_1634 : Cond.constantLong RX11 210 465726042981 ∈ BIG := mB (tb_6 (List.mem_of_getElem? (i := 94) (by decide +kernel))) rfl
theorem k_1635 : Cond.constantLong RX11 212 495673373300 ∈ BIG := mB (tb_6 (List.mem_of_getElem? (i := 95) (by decide +kernel))) rfl
theorem k_1636 : Cond.constantLong RX11 214 1819242087 ∈ BIG := mB (tb_6 (List.mem_of_getElem? (i := 96) (by decide +kernel))) rfl
theorem k_1637 : Cond.constantLong RX11 216 6578553 ∈ BIG := mB (tb_6 (List.mem_of_getElem? (i := 97) (by decide +kernel))) rfl
theorem k_1638 : Cond.constantLong RX11 218 6385252 ∈ BIG := mB (tb_6 (List.mem_of_getElem? (i := 98) (by decide +kernel))) rfl
theorem k_1639 : Cond.constantLong RX11 220 28530 ∈ BIG := mB (tb_6 (List.mem_of_getElem? (i := 99) (by decide +kernel))) rfl
theorem k_1640 : Cond.constantLong RX11 222 7237492 ∈ BIG := mB (tb_6 (List.mem_of_getElem? (i := 100) (by decide +kernel))) rfl
theorem k_1641 : Cond.methodLink RX11 232 yX11_wrong ∈ BIG := mB (tb_6 (List.mem_of_getElem? (i := 101) (by decide +kernel))) rfl
theorem k_1643 : Cond.instanceMethod yX11_wrong ∈ BIG := mB (tb_6 (List.mem_of_getElem? (i := 103) (by decide +kernel))) rfl
theorem k_1644 : Cond.code yX11_wrong cX11_wrong 2 none ∈ BIG := mB (tb_6 (List.mem_of_getElem? (i := 104) (by decide +kernel))) rfl
theorem k_1645 : Cond.methodLink RX11 246 yX11_told ∈ BIG := mB (tb_6 (List.mem_of_getElem? (i := 105) (by decide +kernel))) rfl
theorem k_1647 : Cond.instanceMethod yX11_told ∈ BIG := mB (tb_6 (List.mem_of_getElem? (i := 107) (by decide +kernel))) rfl
theorem k_1648 : Cond.code yX11_told cX11_told 4 (some .int) ∈ BIG := mB (tb_6 (List.mem_of_getElem? (i := 108) (by decide +kernel))) rfl
theorem k_1649 : Cond.methodLink RX11 238 yX11_want ∈ BIG := mB (tb_6 (List.mem_of_getElem? (i := 109) (by decide +kernel))) rfl
theorem k_1651 : Cond.instanceMethod yX11_want ∈ BIG := mB (tb_6 (List.mem_of_getElem? (i := 111) (by decide +kernel))) rfl
theorem k_1652 : Cond.code yX11_want cX11_want 3 none ∈ BIG := mB (tb_6 (List.mem_of_getElem? (i := 112) (by decide +kernel))) rfl
theorem k_1653 : Cond.methodLink RX11 242 yX11_toldNumber ∈ BIG := mB (tb_6 (List.mem_of_getElem? (i := 113) (by decide +kernel))) rfl
theorem k_1655 : Cond.instanceMethod yX11_toldNumber ∈ BIG := mB (tb_6 (List.mem_of_getElem? (i := 115) (by decide +kernel))) rfl
theorem k_1656 : Cond.code yX11_toldNumber cX11_toldNumber 4 (some .int) ∈ BIG := mB (tb_6 (List.mem_of_getElem? (i := 116) (by decide +kernel))) rfl
theorem k_1657 : Cond.methodLink RX11 336 yX11_option ∈ BIG := mB (tb_6 (List.mem_of_getElem? (i := 117) (by decide +kernel))) rfl
theorem k_1659 : Cond.instanceMethod yX11_option ∈ BIG := mB (tb_6 (List.mem_of_getElem? (i := 119) (by decide +kernel))) rfl
theorem k_1660 : Cond.code yX11_option cX11_option 4 (some .int) ∈ BIG := mB (tb_6 (List.mem_of_getElem? (i := 120) (by decide +kernel))) rfl
theorem k_1661 : Cond.methodLink RX11 345 yX11_readCoat ∈ BIG := mB (tb_6 (List.mem_of_getElem? (i := 121) (by decide +kernel))) rfl
theorem k_1663 : Cond.instanceMethod yX11_readCoat ∈ BIG := mB (tb_6 (List.mem_of_getElem? (i := 123) (by decide +kernel))) rfl
theorem k_1664 : Cond.code yX11_readCoat cX11_readCoat 1 none ∈ BIG := mB (tb_6 (List.mem_of_getElem? (i := 124) (by decide +kernel))) rfl
theorem k_1665 : Cond.methodLink RX11 348 yX11_formula ∈ BIG := mB (tb_6 (List.mem_of_getElem? (i := 125) (by decide +kernel))) rfl
theorem k_1667 : Cond.instanceMethod yX11_formula ∈ BIG := mB (tb_6 (List.mem_of_getElem? (i := 127) (by decide +kernel))) rfl
theorem k_1668 : Cond.code yX11_formula cX11_formula 3 none ∈ BIG := mB (tb_6 (List.mem_of_getElem? (i := 128) (by decide +kernel))) rfl
theorem k_1669 : Cond.methodLink RX11 295 yX11_unit ∈ BIG := mB (tb_6 (List.mem_of_getElem? (i := 129) (by decide +kernel))) rfl
theorem k_1671 : Cond.instanceMethod yX11_unit ∈ BIG := mB (tb_6 (List.mem_of_getElem? (i := 131) (by decide +kernel))) rfl
theorem k_1672 : Cond.code yX11_unit cX11_unit 3 none ∈ BIG := mB (tb_6 (List.mem_of_getElem? (i := 132) (by decide +kernel))) rfl
theorem k_1673 : Cond.methodLink RX11 275 yX11_mayNot ∈ BIG := mB (tb_6 (List.mem_of_getElem? (i := 133) (by decide +kernel))) rfl
theorem k_1675 : Cond.instanceMethod yX11_mayNot ∈ BIG := mB (tb_6 (List.mem_of_getElem? (i := 135) (by decide +kernel))) rfl
theorem k_1676 : Cond.code yX11_mayNot cX11_mayNot 1 (some .boolean) ∈ BIG := mB (tb_6 (List.mem_of_getElem? (i := 136) (by decide +kernel))) rfl
theorem k_1677 : Cond.methodLink RX11 259 yX11_tight ∈ BIG := mB (tb_6 (List.mem_of_getElem? (i := 137) (by decide +kernel))) rfl
theorem k_1678 : Cond.static yX11_tight ∈ BIG := mB (tb_6 (List.mem_of_getElem? (i := 138) (by decide +kernel))) rfl
theorem k_1679 : Cond.code yX11_tight cX11_tight 1 (some .int) ∈ BIG := mB (tb_6 (List.mem_of_getElem? (i := 139) (by decide +kernel))) rfl
theorem k_1680 : Cond.methodLink RX11 278 yX11_openUp ∈ BIG := mB (tb_6 (List.mem_of_getElem? (i := 140) (by decide +kernel))) rfl
theorem k_1682 : Cond.instanceMethod yX11_openUp ∈ BIG := mB (tb_6 (List.mem_of_getElem? (i := 142) (by decide +kernel))) rfl
theorem k_1683 : Cond.code yX11_openUp cX11_openUp 2 none ∈ BIG := mB (tb_6 (List.mem_of_getElem? (i := 143) (by decide +kernel))) rfl
theorem k_1684 : Cond.methodLink RX11 281 yX11_isFull ∈ BIG := mB (tb_6 (List.mem_of_getElem? (i := 144) (by decide +kernel))) rfl
theorem k_1686 : Cond.instanceMethod yX11_isFull ∈ BIG := mB (tb_6 (List.mem_of_getElem? (i := 146) (by decide +kernel))) rfl
theorem k_1687 : Cond.code yX11_isFull cX11_isFull 1 (some .boolean) ∈ BIG := mB (tb_6 (List.mem_of_getElem? (i := 147) (by decide +kernel))) rfl
theorem k_1688 : Cond.methodLink RX11 284 yX11_countUnit ∈ BIG := mB (tb_6 (List.mem_of_getElem? (i := 148) (by decide +kernel))) rfl
theorem k_1690 : Cond.instanceMethod yX11_countUnit ∈ BIG := mB (tb_6 (List.mem_of_getElem? (i := 150) (by decide +kernel))) rfl
