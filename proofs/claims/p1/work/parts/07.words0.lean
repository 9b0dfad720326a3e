theorem k_0 : Cond.selects RX7 yX7_setDefaults yX7_setDefaults ∈ BIG := mB (List.mem_of_getElem? (i := 0) (by decide +kernel)) rfl
theorem k_19 : Cond.selects RX5 yX5_forgetActs yX5_forgetActs ∈ BIG := mB (List.mem_of_getElem? (i := 19) (by decide +kernel)) rfl
theorem k_22 : Cond.selects RX0 yX0_reckonGains yX0_reckonGains ∈ BIG := mB (List.mem_of_getElem? (i := 22) (by decide +kernel)) rfl
theorem k_23 : Cond.selects RX0 yX0_reckonBest yX0_reckonBest ∈ BIG := mB (List.mem_of_getElem? (i := 23) (by decide +kernel)) rfl
theorem k_30 : Cond.selects RX2 yX2_isEvener yX2_isEvener ∈ BIG := mB (List.mem_of_getElem? (i := 30) (by decide +kernel)) rfl
theorem k_33 : Cond.selects RX0 yX0_painted yX0_painted ∈ BIG := mB (List.mem_of_getElem? (i := 33) (by decide +kernel)) rfl
theorem k_40 : Cond.selects RX11 yX11_four yX11_four ∈ BIG := mB (List.mem_of_getElem? (i := 40) (by decide +kernel)) rfl
theorem k_41 : Cond.selects RX11 yX11_readAll yX11_readAll ∈ BIG := mB (List.mem_of_getElem? (i := 41) (by decide +kernel)) rfl
theorem k_42 : Cond.selects RX11 yX11_token yX11_token ∈ BIG := mB (List.mem_of_getElem? (i := 42) (by decide +kernel)) rfl
theorem k_43 : Cond.selects RX11 yX11_here yX11_here ∈ BIG := mB (List.mem_of_getElem? (i := 43) (by decide +kernel)) rfl
theorem k_68 : Cond.selects RX11 yX11_begin yX11_begin ∈ BIG := mB (List.mem_of_getElem? (i := 68) (by decide +kernel)) rfl
theorem k_69 : Cond.selects RX11 yX11_keepAir yX11_keepAir ∈ BIG := mB (List.mem_of_getElem? (i := 69) (by decide +kernel)) rfl
theorem k_70 : Cond.selects RX11 yX11_isMan yX11_isMan ∈ BIG := mB (List.mem_of_getElem? (i := 70) (by decide +kernel)) rfl
theorem k_71 : Cond.selects RX11 yX11_fill yX11_fill ∈ BIG := mB (List.mem_of_getElem? (i := 71) (by decide +kernel)) rfl
theorem k_75 : Cond.selects RX11 yX11_isCoat yX11_isCoat ∈ BIG := mB (List.mem_of_getElem? (i := 75) (by decide +kernel)) rfl
theorem k_77 : Cond.selects RX11 yX11_act yX11_act ∈ BIG := mB (List.mem_of_getElem? (i := 77) (by decide +kernel)) rfl
theorem k_78 : Cond.selects RX11 yX11_drawRain yX11_drawRain ∈ BIG := mB (List.mem_of_getElem? (i := 78) (by decide +kernel)) rfl
theorem k_79 : Cond.selects RX11 yX11_goDay yX11_goDay ∈ BIG := mB (List.mem_of_getElem? (i := 79) (by decide +kernel)) rfl
theorem k_80 : Cond.selects RX11 yX11_wearers yX11_wearers ∈ BIG := mB (List.mem_of_getElem? (i := 80) (by decide +kernel)) rfl
theorem k_81 : Cond.selects RX11 yX11_fittedOnes yX11_fittedOnes ∈ BIG := mB (List.mem_of_getElem? (i := 81) (by decide +kernel)) rfl
theorem k_84 : Cond.selects RX11 yX11_layIlls yX11_layIlls ∈ BIG := mB (List.mem_of_getElem? (i := 84) (by decide +kernel)) rfl
theorem k_85 : Cond.selects RX11 yX11_layDress yX11_layDress ∈ BIG := mB (List.mem_of_getElem? (i := 85) (by decide +kernel)) rfl
theorem k_86 : Cond.selects RX11 yX11_illOfRow yX11_illOfRow ∈ BIG := mB (List.mem_of_getElem? (i := 86) (by decide +kernel)) rfl
theorem k_88 : Cond.selects RX11 yX11_wideOf yX11_wideOf ∈ BIG := mB (List.mem_of_getElem? (i := 88) (by decide +kernel)) rfl
theorem k_92 : Cond.selects RX11 yX11_freeCoats yX11_freeCoats ∈ BIG := mB (List.mem_of_getElem? (i := 92) (by decide +kernel)) rfl
theorem k_97 : Cond.selects RX11 yX11_layGrowths yX11_layGrowths ∈ BIG := mB (List.mem_of_getElem? (i := 97) (by decide +kernel)) rfl
theorem k_101 : Cond.initialized RX10 ∈ BIG := mB (List.mem_of_getElem? (i := 101) (by decide +kernel)) rfl
theorem k_102 : Cond.initialized RX9 ∈ BIG := mB (List.mem_of_getElem? (i := 102) (by decide +kernel)) rfl
theorem k_103 : Cond.initialized RX6 ∈ BIG := mB (List.mem_of_getElem? (i := 103) (by decide +kernel)) rfl
theorem k_104 : Cond.initialized RX7 ∈ BIG := mB (List.mem_of_getElem? (i := 104) (by decide +kernel)) rfl
theorem k_105 : Cond.initialized RX4 ∈ BIG := mB (List.mem_of_getElem? (i := 105) (by decide +kernel)) rfl
theorem k_106 : Cond.initialized RX1 ∈ BIG := mB (List.mem_of_getElem? (i := 106) (by decide +kernel)) rfl
theorem k_107 : Cond.initialized RX5 ∈ BIG := mB (List.mem_of_getElem? (i := 107) (by decide +kernel)) rfl
theorem k_108 : Cond.initialized RJ10 ∈ BIG := mB (List.mem_of_getElem? (i := 108) (by decide +kernel)) rfl
theorem k_109 : Cond.initialized RX3 ∈ BIG := mB (List.mem_of_getElem? (i := 109) (by decide +kernel)) rfl
theorem k_110 : Cond.initialized RX2 ∈ BIG := mB (List.mem_of_getElem? (i := 110) (by decide +kernel)) rfl
theorem k_111 : Cond.initialized RX0 ∈ BIG := mB (List.mem_of_getElem? (i := 111) (by decide +kernel)) rfl
theorem k_112 : Cond.initialized RX8 ∈ BIG := mB (List.mem_of_getElem? (i := 112) (by decide +kernel)) rfl
theorem k_113 : Cond.initialized RJ7 ∈ BIG := mB (List.mem_of_getElem? (i := 113) (by decide +kernel)) rfl
theorem k_114 : Cond.initialized RX11 ∈ BIG := mB (List.mem_of_getElem? (i := 114) (by decide +kernel)) rfl
theorem k_119 : Cond.initialized RJ9 ∈ BIG := mB (List.mem_of_getElem? (i := 119) (by decide +kernel)) rfl
theorem k_121 : Cond.initialized RJ6 ∈ BIG := mB (List.mem_of_getElem? (i := 121) (by decide +kernel)) rfl
theorem k_122 : Cond.classLink RL 7 RX10 ∈ BIG := mB (List.mem_of_getElem? (i := 122) (by decide +kernel)) rfl
theorem k_123 : Cond.instantiable RX10 10 ∈ BIG := mB (List.mem_of_getElem? (i := 123) (by decide +kernel)) rfl
theorem k_124 : Cond.methodLink RL 9 yX10_init ∈ BIG := mB (List.mem_of_getElem? (i := 124) (by decide +kernel)) rfl
theorem k_125 : Cond.instanceMethod yX10_init ∈ BIG := mB (List.mem_of_getElem? (i := 125) (by decide +kernel)) rfl
theorem k_126 : Cond.code yX10_init cX10_init 1 none ∈ BIG := mB (List.mem_of_getElem? (i := 126) (by decide +kernel)) rfl
theorem k_127 : Cond.methodLink RX10 1 Lib.objectInit ∈ BIG := mB (List.mem_of_getElem? (i := 127) (by decide +kernel)) rfl
theorem k_128 : Cond.instanceMethod Lib.objectInit ∈ BIG := mB (List.mem_of_getElem? (i := 128) (by decide +kernel)) rfl
theorem k_129 : Cond.code Lib.objectInit ⟨#[0xb1]⟩ 1 none ∈ BIG := mB (List.mem_of_getElem? (i := 129) (by decide +kernel)) rfl
theorem k_130 : Cond.classLink RX10 7 RX9 ∈ BIG := mB (List.mem_of_getElem? (i := 130) (by decide +kernel)) rfl
theorem k_131 : Cond.instantiable RX9 6 ∈ BIG := mB (List.mem_of_getElem? (i := 131) (by decide +kernel)) rfl
theorem k_132 : Cond.methodLinkNest RX10 9 yX9_init "TailorRegiment" ∈ NST := mN (List.mem_of_getElem? (i := 132) (by decide +kernel)) rfl
theorem k_133 : Cond.instanceMethod yX9_init ∈ BIG := mB (List.mem_of_getElem? (i := 133) (by decide +kernel)) rfl
theorem k_134 : Cond.code yX9_init cX9_init 1 none ∈ BIG := mB (List.mem_of_getElem? (i := 134) (by decide +kernel)) rfl
theorem k_135 : Cond.methodLink RX9 3 Lib.objectInit ∈ BIG := mB (List.mem_of_getElem? (i := 135) (by decide +kernel)) rfl
theorem k_136 : Cond.fieldLink RX9 9 RX9 "bytes" "[B" ∈ BIG := mB (List.mem_of_getElem? (i := 136) (by decide +kernel)) rfl
theorem k_137 : Cond.fieldLink RX9 15 RX9 "size" "I" ∈ BIG := mB (List.mem_of_getElem? (i := 137) (by decide +kernel)) rfl
theorem k_138 : Cond.fieldLinkNest RX10 88 RX9 "size" "I" "TailorRegiment" ∈ NST := mN (List.mem_of_getElem? (i := 138) (by decide +kernel)) rfl
theorem k_139 : Cond.fieldLinkNest RX6 47 RX9 "kind" "I" "TailorRegiment" ∈ NST := mN (List.mem_of_getElem? (i := 139) (by decide +kernel)) rfl
theorem k_140 : Cond.fieldLink RX9 28 RX9 "kind" "I" ∈ BIG := mB (List.mem_of_getElem? (i := 140) (by decide +kernel)) rfl
theorem k_141 : Cond.fieldLink RX9 25 RX9 "place" "I" ∈ BIG := mB (List.mem_of_getElem? (i := 141) (by decide +kernel)) rfl
theorem k_143 : Cond.fieldLink RX9 19 RX9 "behind" "I" ∈ BIG := mB (List.mem_of_getElem? (i := 143) (by decide +kernel)) rfl
theorem k_159 : Cond.arrayClass .byte ∈ BIG := mB (List.mem_of_getElem? (i := 159) (by decide +kernel)) rfl
theorem k_160 : Cond.classLink RX10 16 RX6 ∈ BIG := mB (List.mem_of_getElem? (i := 160) (by decide +kernel)) rfl
theorem k_161 : Cond.instantiable RX6 7 ∈ BIG := mB (List.mem_of_getElem? (i := 161) (by decide +kernel)) rfl
theorem k_162 : Cond.methodLink RX10 18 yX6_init ∈ BIG := mB (List.mem_of_getElem? (i := 162) (by decide +kernel)) rfl
theorem k_163 : Cond.instanceMethod yX6_init ∈ BIG := mB (List.mem_of_getElem? (i := 163) (by decide +kernel)) rfl
theorem k_164 : Cond.code yX6_init cX6_init 2 none ∈ BIG := mB (List.mem_of_getElem? (i := 164) (by decide +kernel)) rfl
theorem k_165 : Cond.methodLink RX6 3 Lib.objectInit ∈ BIG := mB (List.mem_of_getElem? (i := 165) (by decide +kernel)) rfl
theorem k_166 : Cond.classLink RX6 9 RX7 ∈ BIG := mB (List.mem_of_getElem? (i := 166) (by decide +kernel)) rfl
theorem k_167 : Cond.instantiable RX7 10 ∈ BIG := mB (List.mem_of_getElem? (i := 167) (by decide +kernel)) rfl
theorem k_168 : Cond.methodLink RX6 11 yX7_init ∈ BIG := mB (List.mem_of_getElem? (i := 168) (by decide +kernel)) rfl
theorem k_169 : Cond.instanceMethod yX7_init ∈ BIG := mB (List.mem_of_getElem? (i := 169) (by decide +kernel)) rfl
theorem k_170 : Cond.code yX7_init cX7_init 1 none ∈ BIG := mB (List.mem_of_getElem? (i := 170) (by decide +kernel)) rfl
theorem k_171 : Cond.methodLink RX7 3 Lib.objectInit ∈ BIG := mB (List.mem_of_getElem? (i := 171) (by decide +kernel)) rfl
theorem k_172 : Cond.classLink RX7 18 RX4 ∈ BIG := mB (List.mem_of_getElem? (i := 172) (by decide +kernel)) rfl
theorem k_173 : Cond.instantiable RX4 6 ∈ BIG := mB (List.mem_of_getElem? (i := 173) (by decide +kernel)) rfl
theorem k_174 : Cond.methodLinkNest RX7 20 yX4_init "TailorRegiment" ∈ NST := mN (List.mem_of_getElem? (i := 174) (by decide +kernel)) rfl
theorem k_175 : Cond.instanceMethod yX4_init ∈ BIG := mB (List.mem_of_getElem? (i := 175) (by decide +kernel)) rfl
theorem k_176 : Cond.code yX4_init cX4_init 1 none ∈ BIG := mB (List.mem_of_getElem? (i := 176) (by decide +kernel)) rfl
theorem k_177 : Cond.methodLink RX4 3 Lib.objectInit ∈ BIG := mB (List.mem_of_getElem? (i := 177) (by decide +kernel)) rfl
theorem k_178 : Cond.fieldLink RX4 11 RX4 "kinds" "[I" ∈ BIG := mB (List.mem_of_getElem? (i := 178) (by decide +kernel)) rfl
theorem k_179 : Cond.fieldLink RX4 15 RX4 "numbers" "[I" ∈ BIG := mB (List.mem_of_getElem? (i := 179) (by decide +kernel)) rfl
theorem k_180 : Cond.fieldLink RX4 18 RX4 "stack" "[I" ∈ BIG := mB (List.mem_of_getElem? (i := 180) (by decide +kernel)) rfl
theorem k_181 : Cond.fieldLink RX4 21 RX4 "facts" "[I" ∈ BIG := mB (List.mem_of_getElem? (i := 181) (by decide +kernel)) rfl
theorem k_182 : Cond.fieldLink RX4 24 RX4 "steps" "I" ∈ BIG := mB (List.mem_of_getElem? (i := 182) (by decide +kernel)) rfl
theorem k_183 : Cond.fieldLink RX4 28 RX4 "units" "I" ∈ BIG := mB (List.mem_of_getElem? (i := 183) (by decide +kernel)) rfl
theorem k_185 : Cond.fieldLinkNest RX10 345 RX4 "units" "I" "TailorRegiment" ∈ NST := mN (List.mem_of_getElem? (i := 185) (by decide +kernel)) rfl
theorem k_199 : Cond.arrayClass .int ∈ BIG := mB (List.mem_of_getElem? (i := 199) (by decide +kernel)) rfl
theorem k_200 : Cond.methodLink RX7 25 yX7_setDefaults ∈ BIG := mB (List.mem_of_getElem? (i := 200) (by decide +kernel)) rfl
theorem k_202 : Cond.instanceMethod yX7_setDefaults ∈ BIG := mB (List.mem_of_getElem? (i := 202) (by decide +kernel)) rfl
theorem k_203 : Cond.code yX7_setDefaults cX7_setDefaults 1 none ∈ BIG := mB (List.mem_of_getElem? (i := 203) (by decide +kernel)) rfl
theorem k_204 : Cond.fieldLink RX7 9 RX7 "manParts" "[I" ∈ BIG := mB (List.mem_of_getElem? (i := 204) (by decide +kernel)) rfl
theorem k_205 : Cond.fieldLink RX7 15 RX7 "coatParts" "[I" ∈ BIG := mB (List.mem_of_getElem? (i := 205) (by decide +kernel)) rfl
theorem k_206 : Cond.fieldLink RX7 21 RX7 "ill" "LTailorRegiment$Formula;" ∈ BIG := mB (List.mem_of_getElem? (i := 206) (by decide +kernel)) rfl
theorem k_211 : Cond.fieldLinkNest RX10 341 RX7 "ill" "LTailorRegiment$Formula;" "TailorRegiment" ∈ NST := mN (List.mem_of_getElem? (i := 211) (by decide +kernel)) rfl
theorem k_212 : Cond.fieldLink RX7 28 RX7 "men" "I" ∈ BIG := mB (List.mem_of_getElem? (i := 212) (by decide +kernel)) rfl
theorem k_213 : Cond.fieldLinkNest RX2 23 RX7 "men" "I" "TailorRegiment" ∈ NST := mN (List.mem_of_getElem? (i := 213) (by decide +kernel)) rfl
theorem k_214 : Cond.fieldLinkNest RX10 111 RX7 "men" "I" "TailorRegiment" ∈ NST := mN (List.mem_of_getElem? (i := 214) (by decide +kernel)) rfl
theorem k_215 : Cond.fieldLinkNest RX8 42 RX7 "men" "I" "TailorRegiment" ∈ NST := mN (List.mem_of_getElem? (i := 215) (by decide +kernel)) rfl
theorem k_216 : Cond.fieldLinkNest RX0 48 RX7 "men" "I" "TailorRegiment" ∈ NST := mN (List.mem_of_getElem? (i := 216) (by decide +kernel)) rfl
theorem k_217 : Cond.fieldLinkNest RX3 92 RX7 "men" "I" "TailorRegiment" ∈ NST := mN (List.mem_of_getElem? (i := 217) (by decide +kernel)) rfl
theorem k_219 : Cond.fieldLinkNest RX1 48 RX7 "men" "I" "TailorRegiment" ∈ NST := mN (List.mem_of_getElem? (i := 219) (by decide +kernel)) rfl
theorem k_220 : Cond.fieldLink RX7 32 RX7 "coats" "I" ∈ BIG := mB (List.mem_of_getElem? (i := 220) (by decide +kernel)) rfl
theorem k_223 : Cond.fieldLinkNest RX2 66 RX7 "coats" "I" "TailorRegiment" ∈ NST := mN (List.mem_of_getElem? (i := 223) (by decide +kernel)) rfl
theorem k_225 : Cond.fieldLinkNest RX3 122 RX7 "coats" "I" "TailorRegiment" ∈ NST := mN (List.mem_of_getElem? (i := 225) (by decide +kernel)) rfl
theorem k_227 : Cond.fieldLinkNest RX10 261 RX7 "coats" "I" "TailorRegiment" ∈ NST := mN (List.mem_of_getElem? (i := 227) (by decide +kernel)) rfl
theorem k_228 : Cond.fieldLink RX7 38 RX7 "easy" "I" ∈ BIG := mB (List.mem_of_getElem? (i := 228) (by decide +kernel)) rfl
theorem k_233 : Cond.fieldLinkNest RX10 320 RX7 "easy" "I" "TailorRegiment" ∈ NST := mN (List.mem_of_getElem? (i := 233) (by decide +kernel)) rfl
theorem k_234 : Cond.fieldLink RX7 41 RX7 "bolt" "I" ∈ BIG := mB (List.mem_of_getElem? (i := 234) (by decide +kernel)) rfl
theorem k_236 : Cond.fieldLinkNest RX10 323 RX7 "bolt" "I" "TailorRegiment" ∈ NST := mN (List.mem_of_getElem? (i := 236) (by decide +kernel)) rfl
theorem k_237 : Cond.fieldLink RX7 44 RX7 "like" "I" ∈ BIG := mB (List.mem_of_getElem? (i := 237) (by decide +kernel)) rfl
theorem k_239 : Cond.fieldLinkNest RX10 326 RX7 "like" "I" "TailorRegiment" ∈ NST := mN (List.mem_of_getElem? (i := 239) (by decide +kernel)) rfl
theorem k_240 : Cond.fieldLink RX7 47 RX7 "rain" "I" ∈ BIG := mB (List.mem_of_getElem? (i := 240) (by decide +kernel)) rfl
theorem k_241 : Cond.fieldLinkNest RX10 154 RX7 "rain" "I" "TailorRegiment" ∈ NST := mN (List.mem_of_getElem? (i := 241) (by decide +kernel)) rfl
theorem k_242 : Cond.fieldLinkNest RX1 31 RX7 "draw" "I" "TailorRegiment" ∈ NST := mN (List.mem_of_getElem? (i := 242) (by decide +kernel)) rfl
theorem k_243 : Cond.fieldLink RX7 50 RX7 "draw" "I" ∈ BIG := mB (List.mem_of_getElem? (i := 243) (by decide +kernel)) rfl
theorem k_265 : Cond.fieldLink RX6 29 RX6 "tape" "LTailorRegiment$Tape;" ∈ BIG := mB (List.mem_of_getElem? (i := 265) (by decide +kernel)) rfl
theorem k_266 : Cond.fieldLink RX6 12 RX6 "draft" "LTailorRegiment$Roll;" ∈ BIG := mB (List.mem_of_getElem? (i := 266) (by decide +kernel)) rfl
theorem k_267 : Cond.fieldLinkNest RX10 95 RX6 "draft" "LTailorRegiment$Roll;" "TailorRegiment" ∈ NST := mN (List.mem_of_getElem? (i := 267) (by decide +kernel)) rfl
theorem k_268 : Cond.fieldLink RX6 18 RX6 "manNames" "[I" ∈ BIG := mB (List.mem_of_getElem? (i := 268) (by decide +kernel)) rfl
theorem k_269 : Cond.fieldLink RX6 22 RX6 "coatNames" "[I" ∈ BIG := mB (List.mem_of_getElem? (i := 269) (by decide +kernel)) rfl
theorem k_270 : Cond.fieldLink RX6 36 RX6 "told" "I" ∈ BIG := mB (List.mem_of_getElem? (i := 270) (by decide +kernel)) rfl
theorem k_271 : Cond.fieldLink RX6 39 RX6 "faultSort" "I" ∈ BIG := mB (List.mem_of_getElem? (i := 271) (by decide +kernel)) rfl
theorem k_272 : Cond.fieldLinkNest RX10 114 RX6 "faultSort" "I" "TailorRegiment" ∈ NST := mN (List.mem_of_getElem? (i := 272) (by decide +kernel)) rfl
theorem k_273 : Cond.fieldLink RX6 25 RX6 "faultPlace" "I" ∈ BIG := mB (List.mem_of_getElem? (i := 273) (by decide +kernel)) rfl
theorem k_274 : Cond.fieldLinkNest RX10 117 RX6 "faultPlace" "I" "TailorRegiment" ∈ NST := mN (List.mem_of_getElem? (i := 274) (by decide +kernel)) rfl
theorem k_290 : Cond.classLink RX10 25 RX7 ∈ BIG := mB (List.mem_of_getElem? (i := 290) (by decide +kernel)) rfl
theorem k_291 : Cond.methodLink RX10 27 yX7_init ∈ BIG := mB (List.mem_of_getElem? (i := 291) (by decide +kernel)) rfl
theorem k_292 : Cond.classLink RX10 32 RX1 ∈ BIG := mB (List.mem_of_getElem? (i := 292) (by decide +kernel)) rfl
theorem k_293 : Cond.instantiable RX1 2 ∈ BIG := mB (List.mem_of_getElem? (i := 293) (by decide +kernel)) rfl
theorem k_294 : Cond.methodLink RX10 34 yX1_init ∈ BIG := mB (List.mem_of_getElem? (i := 294) (by decide +kernel)) rfl
theorem k_295 : Cond.instanceMethod yX1_init ∈ BIG := mB (List.mem_of_getElem? (i := 295) (by decide +kernel)) rfl
theorem k_296 : Cond.code yX1_init cX1_init 2 none ∈ BIG := mB (List.mem_of_getElem? (i := 296) (by decide +kernel)) rfl
theorem k_297 : Cond.methodLink RX1 5 Lib.objectInit ∈ BIG := mB (List.mem_of_getElem? (i := 297) (by decide +kernel)) rfl
theorem k_298 : Cond.methodLink RX1 19 yX1_muster ∈ BIG := mB (List.mem_of_getElem? (i := 298) (by decide +kernel)) rfl
theorem k_299 : Cond.instanceMethod yX1_muster ∈ BIG := mB (List.mem_of_getElem? (i := 299) (by decide +kernel)) rfl
theorem k_300 : Cond.selects RX1 yX1_muster yX1_muster ∈ BIG := mB (List.mem_of_getElem? (i := 300) (by decide +kernel)) rfl
theorem k_301 : Cond.code yX1_muster cX1_muster 3 none ∈ BIG := mB (List.mem_of_getElem? (i := 301) (by decide +kernel)) rfl
theorem k_302 : Cond.methodLink RX1 22 yX7_manPart ∈ BIG := mB (List.mem_of_getElem? (i := 302) (by decide +kernel)) rfl
theorem k_303 : Cond.instanceMethod yX7_manPart ∈ BIG := mB (List.mem_of_getElem? (i := 303) (by decide +kernel)) rfl
theorem k_304 : Cond.selects RX7 yX7_manPart yX7_manPart ∈ BIG := mB (List.mem_of_getElem? (i := 304) (by decide +kernel)) rfl
theorem k_305 : Cond.code yX7_manPart cX7_manPart 3 (some .int) ∈ BIG := mB (List.mem_of_getElem? (i := 305) (by decide +kernel)) rfl
theorem k_306 : Cond.methodLink RX7 63 yX7_hasMan ∈ BIG := mB (List.mem_of_getElem? (i := 306) (by decide +kernel)) rfl
theorem k_307 : Cond.instanceMethod yX7_hasMan ∈ BIG := mB (List.mem_of_getElem? (i := 307) (by decide +kernel)) rfl
theorem k_308 : Cond.selects RX7 yX7_hasMan yX7_hasMan ∈ BIG := mB (List.mem_of_getElem? (i := 308) (by decide +kernel)) rfl
theorem k_309 : Cond.code yX7_hasMan cX7_hasMan 2 (some .boolean) ∈ BIG := mB (List.mem_of_getElem? (i := 309) (by decide +kernel)) rfl
theorem k_310 : Cond.methodLink RX1 28 yX7_coatPart ∈ BIG := mB (List.mem_of_getElem? (i := 310) (by decide +kernel)) rfl
theorem k_311 : Cond.instanceMethod yX7_coatPart ∈ BIG := mB (List.mem_of_getElem? (i := 311) (by decide +kernel)) rfl
theorem k_312 : Cond.selects RX7 yX7_coatPart yX7_coatPart ∈ BIG := mB (List.mem_of_getElem? (i := 312) (by decide +kernel)) rfl
theorem k_313 : Cond.code yX7_coatPart cX7_coatPart 3 (some .int) ∈ BIG := mB (List.mem_of_getElem? (i := 313) (by decide +kernel)) rfl
theorem k_314 : Cond.methodLink RX7 67 yX7_hasCoat ∈ BIG := mB (List.mem_of_getElem? (i := 314) (by decide +kernel)) rfl
theorem k_315 : Cond.instanceMethod yX7_hasCoat ∈ BIG := mB (List.mem_of_getElem? (i := 315) (by decide +kernel)) rfl
theorem k_316 : Cond.selects RX7 yX7_hasCoat yX7_hasCoat ∈ BIG := mB (List.mem_of_getElem? (i := 316) (by decide +kernel)) rfl
theorem k_317 : Cond.code yX7_hasCoat cX7_hasCoat 2 (some .boolean) ∈ BIG := mB (List.mem_of_getElem? (i := 317) (by decide +kernel)) rfl
theorem k_318 : Cond.fieldLink RX1 15 RX1 "roll" "LTailorRegiment$Roll;" ∈ BIG := mB (List.mem_of_getElem? (i := 318) (by decide +kernel)) rfl
theorem k_319 : Cond.fieldLink RX1 11 RX1 "cells" "[I" ∈ BIG := mB (List.mem_of_getElem? (i := 319) (by decide +kernel)) rfl
theorem k_325 : Cond.classLink RX10 41 RX5 ∈ BIG := mB (List.mem_of_getElem? (i := 325) (by decide +kernel)) rfl
theorem k_326 : Cond.instantiable RX5 7 ∈ BIG := mB (List.mem_of_getElem? (i := 326) (by decide +kernel)) rfl
theorem k_327 : Cond.methodLink RX10 43 yX5_init ∈ BIG := mB (List.mem_of_getElem? (i := 327) (by decide +kernel)) rfl
theorem k_328 : Cond.instanceMethod yX5_init ∈ BIG := mB (List.mem_of_getElem? (i := 328) (by decide +kernel)) rfl
theorem k_329 : Cond.code yX5_init cX5_init 2 none ∈ BIG := mB (List.mem_of_getElem? (i := 329) (by decide +kernel)) rfl
theorem k_330 : Cond.methodLink RX5 3 Lib.objectInit ∈ BIG := mB (List.mem_of_getElem? (i := 330) (by decide +kernel)) rfl
theorem k_331 : Cond.methodLink RX5 24 yX1_saveTo ∈ BIG := mB (List.mem_of_getElem? (i := 331) (by decide +kernel)) rfl
theorem k_332 : Cond.instanceMethod yX1_saveTo ∈ BIG := mB (List.mem_of_getElem? (i := 332) (by decide +kernel)) rfl
theorem k_333 : Cond.selects RX1 yX1_saveTo yX1_saveTo ∈ BIG := mB (List.mem_of_getElem? (i := 333) (by decide +kernel)) rfl
theorem k_334 : Cond.code yX1_saveTo cX1_saveTo 3 none ∈ BIG := mB (List.mem_of_getElem? (i := 334) (by decide +kernel)) rfl
theorem k_335 : Cond.methodLink RX1 35 arraycopyName ∈ BIG := mB (List.mem_of_getElem? (i := 335) (by decide +kernel)) rfl
theorem k_336 : Cond.static arraycopyName ∈ BIG := mB (List.mem_of_getElem? (i := 336) (by decide +kernel)) rfl
theorem k_337 : Cond.native arraycopyName ∈ BIG := mB (List.mem_of_getElem? (i := 337) (by decide +kernel)) rfl
theorem k_338 : Cond.fieldLink RX5 20 RX5 "now" "LTailorRegiment$Company;" ∈ BIG := mB (List.mem_of_getElem? (i := 338) (by decide +kernel)) rfl
theorem k_339 : Cond.fieldLink RX5 13 RX5 "rows" "[I" ∈ BIG := mB (List.mem_of_getElem? (i := 339) (by decide +kernel)) rfl
theorem k_340 : Cond.fieldLink RX5 17 RX5 "boxes" "[I" ∈ BIG := mB (List.mem_of_getElem? (i := 340) (by decide +kernel)) rfl
theorem k_341 : Cond.fieldLink RX5 28 RX5 "filled" "I" ∈ BIG := mB (List.mem_of_getElem? (i := 341) (by decide +kernel)) rfl
theorem k_342 : Cond.fieldLink RX5 35 RX5 "first" "I" ∈ BIG := mB (List.mem_of_getElem? (i := 342) (by decide +kernel)) rfl
theorem k_343 : Cond.fieldLink RX5 38 RX5 "done" "I" ∈ BIG := mB (List.mem_of_getElem? (i := 343) (by decide +kernel)) rfl
theorem k_344 : Cond.fieldLinkNest RX10 332 RX5 "done" "I" "TailorRegiment" ∈ NST := mN (List.mem_of_getElem? (i := 344) (by decide +kernel)) rfl
theorem k_345 : Cond.fieldLink RX5 41 RX5 "undone" "I" ∈ BIG := mB (List.mem_of_getElem? (i := 345) (by decide +kernel)) rfl
theorem k_346 : Cond.fieldLinkNest RX10 335 RX5 "undone" "I" "TailorRegiment" ∈ NST := mN (List.mem_of_getElem? (i := 346) (by decide +kernel)) rfl
theorem k_362 : Cond.classLink RX10 50 RX3 ∈ BIG := mB (List.mem_of_getElem? (i := 362) (by decide +kernel)) rfl
theorem k_363 : Cond.instantiable RX3 10 ∈ BIG := mB (List.mem_of_getElem? (i := 363) (by decide +kernel)) rfl
theorem k_364 : Cond.methodLink RX10 52 yX3_init ∈ BIG := mB (List.mem_of_getElem? (i := 364) (by decide +kernel)) rfl
theorem k_365 : Cond.instanceMethod yX3_init ∈ BIG := mB (List.mem_of_getElem? (i := 365) (by decide +kernel)) rfl
theorem k_366 : Cond.code yX3_init cX3_init 3 none ∈ BIG := mB (List.mem_of_getElem? (i := 366) (by decide +kernel)) rfl
theorem k_367 : Cond.methodLink RX3 3 Lib.objectInit ∈ BIG := mB (List.mem_of_getElem? (i := 367) (by decide +kernel)) rfl
theorem k_368 : Cond.classLink RX3 19 RX1 ∈ BIG := mB (List.mem_of_getElem? (i := 368) (by decide +kernel)) rfl
theorem k_369 : Cond.methodLink RX3 21 yX1_init ∈ BIG := mB (List.mem_of_getElem? (i := 369) (by decide +kernel)) rfl
theorem k_370 : Cond.fieldLink RX3 9 RX3 "roll" "LTailorRegiment$Roll;" ∈ BIG := mB (List.mem_of_getElem? (i := 370) (by decide +kernel)) rfl
theorem k_371 : Cond.fieldLink RX3 15 RX3 "now" "LTailorRegiment$Company;" ∈ BIG := mB (List.mem_of_getElem? (i := 371) (by decide +kernel)) rfl
theorem k_372 : Cond.fieldLink RX3 24 RX3 "ahead" "LTailorRegiment$Company;" ∈ BIG := mB (List.mem_of_getElem? (i := 372) (by decide +kernel)) rfl
theorem k_385 : Cond.fieldLink RX3 110 RX3 "changeFits" "I" ∈ BIG := mB (List.mem_of_getElem? (i := 385) (by decide +kernel)) rfl
theorem k_408 : Cond.classLink RX10 59 RX2 ∈ BIG := mB (List.mem_of_getElem? (i := 408) (by decide +kernel)) rfl
theorem k_409 : Cond.instantiable RX2 3 ∈ BIG := mB (List.mem_of_getElem? (i := 409) (by decide +kernel)) rfl
theorem k_410 : Cond.methodLink RX10 61 yX2_init ∈ BIG := mB (List.mem_of_getElem? (i := 410) (by decide +kernel)) rfl
theorem k_411 : Cond.instanceMethod yX2_init ∈ BIG := mB (List.mem_of_getElem? (i := 411) (by decide +kernel)) rfl
theorem k_412 : Cond.code yX2_init cX2_init 3 none ∈ BIG := mB (List.mem_of_getElem? (i := 412) (by decide +kernel)) rfl
theorem k_413 : Cond.methodLink RX2 3 Lib.objectInit ∈ BIG := mB (List.mem_of_getElem? (i := 413) (by decide +kernel)) rfl
theorem k_414 : Cond.fieldLink RX2 15 RX2 "roll" "LTailorRegiment$Roll;" ∈ BIG := mB (List.mem_of_getElem? (i := 414) (by decide +kernel)) rfl
theorem k_415 : Cond.fieldLink RX2 19 RX2 "now" "LTailorRegiment$Company;" ∈ BIG := mB (List.mem_of_getElem? (i := 415) (by decide +kernel)) rfl
theorem k_416 : Cond.fieldLink RX2 9 RX2 "lengths" "[I" ∈ BIG := mB (List.mem_of_getElem? (i := 416) (by decide +kernel)) rfl
theorem k_424 : Cond.classLink RX10 66 RX0 ∈ BIG := mB (List.mem_of_getElem? (i := 424) (by decide +kernel)) rfl
theorem k_425 : Cond.instantiable RX0 8 ∈ BIG := mB (List.mem_of_getElem? (i := 425) (by decide +kernel)) rfl
theorem k_426 : Cond.methodLink RX10 68 yX0_init ∈ BIG := mB (List.mem_of_getElem? (i := 426) (by decide +kernel)) rfl
theorem k_427 : Cond.instanceMethod yX0_init ∈ BIG := mB (List.mem_of_getElem? (i := 427) (by decide +kernel)) rfl
theorem k_428 : Cond.code yX0_init cX0_init 3 none ∈ BIG := mB (List.mem_of_getElem? (i := 428) (by decide +kernel)) rfl
theorem k_429 : Cond.methodLink RX0 3 Lib.objectInit ∈ BIG := mB (List.mem_of_getElem? (i := 429) (by decide +kernel)) rfl
theorem k_430 : Cond.fieldLink RX0 21 RX0 "roll" "LTailorRegiment$Roll;" ∈ BIG := mB (List.mem_of_getElem? (i := 430) (by decide +kernel)) rfl
theorem k_431 : Cond.fieldLink RX0 25 RX0 "now" "LTailorRegiment$Company;" ∈ BIG := mB (List.mem_of_getElem? (i := 431) (by decide +kernel)) rfl
theorem k_432 : Cond.fieldLink RX0 9 RX0 "row" "[I" ∈ BIG := mB (List.mem_of_getElem? (i := 432) (by decide +kernel)) rfl
theorem k_433 : Cond.fieldLink RX0 29 RX0 "count" "I" ∈ BIG := mB (List.mem_of_getElem? (i := 433) (by decide +kernel)) rfl
theorem k_434 : Cond.fieldLinkNest RX10 350 RX0 "count" "I" "TailorRegiment" ∈ NST := mN (List.mem_of_getElem? (i := 434) (by decide +kernel)) rfl
theorem k_435 : Cond.fieldLink RX0 15 RX0 "best" "[I" ∈ BIG := mB (List.mem_of_getElem? (i := 435) (by decide +kernel)) rfl
theorem k_436 : Cond.fieldLink RX0 18 RX0 "gains" "[I" ∈ BIG := mB (List.mem_of_getElem? (i := 436) (by decide +kernel)) rfl
theorem k_437 : Cond.fieldLink RX0 42 RX0 "dressed" "I" ∈ BIG := mB (List.mem_of_getElem? (i := 437) (by decide +kernel)) rfl
theorem k_438 : Cond.fieldLinkNest RX10 193 RX0 "dressed" "I" "TailorRegiment" ∈ NST := mN (List.mem_of_getElem? (i := 438) (by decide +kernel)) rfl
theorem k_439 : Cond.fieldLink RX0 45 RX0 "dressedIll" "I" ∈ BIG := mB (List.mem_of_getElem? (i := 439) (by decide +kernel)) rfl
theorem k_440 : Cond.fieldLinkNest RX10 196 RX0 "dressedIll" "I" "TailorRegiment" ∈ NST := mN (List.mem_of_getElem? (i := 440) (by decide +kernel)) rfl
theorem k_458 : Cond.classLink RX10 73 RX8 ∈ BIG := mB (List.mem_of_getElem? (i := 458) (by decide +kernel)) rfl
theorem k_459 : Cond.instantiable RX8 7 ∈ BIG := mB (List.mem_of_getElem? (i := 459) (by decide +kernel)) rfl
theorem k_460 : Cond.methodLink RX10 75 yX8_init ∈ BIG := mB (List.mem_of_getElem? (i := 460) (by decide +kernel)) rfl
theorem k_461 : Cond.instanceMethod yX8_init ∈ BIG := mB (List.mem_of_getElem? (i := 461) (by decide +kernel)) rfl
theorem k_462 : Cond.code yX8_init cX8_init 2 none ∈ BIG := mB (List.mem_of_getElem? (i := 462) (by decide +kernel)) rfl
theorem k_463 : Cond.methodLink RX8 3 Lib.objectInit ∈ BIG := mB (List.mem_of_getElem? (i := 463) (by decide +kernel)) rfl
theorem k_464 : Cond.methodLink RX8 32 yJ7_fill_53178 ∈ BIG := mB (List.mem_of_getElem? (i := 464) (by decide +kernel)) rfl
theorem k_465 : Cond.static yJ7_fill_53178 ∈ BIG := mB (List.mem_of_getElem? (i := 465) (by decide +kernel)) rfl
theorem k_466 : Cond.code yJ7_fill_53178 cJ7_fill_53178 4 none ∈ BIG := mB (List.mem_of_getElem? (i := 466) (by decide +kernel)) rfl
theorem k_467 : Cond.fieldLink RX8 28 RX8 "roll" "LTailorRegiment$Roll;" ∈ BIG := mB (List.mem_of_getElem? (i := 467) (by decide +kernel)) rfl
theorem k_468 : Cond.fieldLink RX8 11 RX8 "days" "[I" ∈ BIG := mB (List.mem_of_getElem? (i := 468) (by decide +kernel)) rfl
theorem k_469 : Cond.fieldLink RX8 15 RX8 "fitted" "[Z" ∈ BIG := mB (List.mem_of_getElem? (i := 469) (by decide +kernel)) rfl
theorem k_470 : Cond.fieldLink RX8 19 RX8 "toldAt" "[I" ∈ BIG := mB (List.mem_of_getElem? (i := 470) (by decide +kernel)) rfl
theorem k_471 : Cond.fieldLink RX8 22 RX8 "untoldAt" "[I" ∈ BIG := mB (List.mem_of_getElem? (i := 471) (by decide +kernel)) rfl
theorem k_472 : Cond.fieldLink RX8 38 RX8 "count" "I" ∈ BIG := mB (List.mem_of_getElem? (i := 472) (by decide +kernel)) rfl
theorem k_473 : Cond.fieldLinkNest RX10 338 RX8 "count" "I" "TailorRegiment" ∈ NST := mN (List.mem_of_getElem? (i := 473) (by decide +kernel)) rfl
theorem k_474 : Cond.fieldLink RX8 25 RX8 "fitting" "[I" ∈ BIG := mB (List.mem_of_getElem? (i := 474) (by decide +kernel)) rfl
theorem k_490 : Cond.arrayClass .boolean ∈ BIG := mB (List.mem_of_getElem? (i := 490) (by decide +kernel)) rfl
theorem k_491 : Cond.fieldLink RX10 10 RX10 "tape" "LTailorRegiment$Tape;" ∈ BIG := mB (List.mem_of_getElem? (i := 491) (by decide +kernel)) rfl
theorem k_492 : Cond.fieldLink RX10 21 RX10 "reader" "LTailorRegiment$Reader;" ∈ BIG := mB (List.mem_of_getElem? (i := 492) (by decide +kernel)) rfl
theorem k_493 : Cond.fieldLink RX10 28 RX10 "roll" "LTailorRegiment$Roll;" ∈ BIG := mB (List.mem_of_getElem? (i := 493) (by decide +kernel)) rfl
theorem k_494 : Cond.fieldLink RX10 37 RX10 "now" "LTailorRegiment$Company;" ∈ BIG := mB (List.mem_of_getElem? (i := 494) (by decide +kernel)) rfl
theorem k_495 : Cond.fieldLink RX10 46 RX10 "memory" "LTailorRegiment$Memory;" ∈ BIG := mB (List.mem_of_getElem? (i := 495) (by decide +kernel)) rfl
theorem k_496 : Cond.fieldLink RX10 55 RX10 "fitting" "LTailorRegiment$Fitting;" ∈ BIG := mB (List.mem_of_getElem? (i := 496) (by decide +kernel)) rfl
theorem k_497 : Cond.fieldLink RX10 62 RX10 "cutting" "LTailorRegiment$Cutting;" ∈ BIG := mB (List.mem_of_getElem? (i := 497) (by decide +kernel)) rfl
theorem k_498 : Cond.fieldLink RX10 69 RX10 "choices" "LTailorRegiment$Choices;" ∈ BIG := mB (List.mem_of_getElem? (i := 498) (by decide +kernel)) rfl
theorem k_499 : Cond.fieldLink RX10 76 RX10 "sightings" "LTailorRegiment$Sightings;" ∈ BIG := mB (List.mem_of_getElem? (i := 499) (by decide +kernel)) rfl
theorem k_500 : Cond.fieldLink RX10 288 RX10 "time" "I" ∈ BIG := mB (List.mem_of_getElem? (i := 500) (by decide +kernel)) rfl
theorem k_522 : Cond.methodLink RL 13 yX10_feed ∈ BIG := mB (List.mem_of_getElem? (i := 522) (by decide +kernel)) rfl
theorem k_523 : Cond.instanceMethod yX10_feed ∈ BIG := mB (List.mem_of_getElem? (i := 523) (by decide +kernel)) rfl
theorem k_524 : Cond.selects RX10 yX10_feed yX10_feed ∈ BIG := mB (List.mem_of_getElem? (i := 524) (by decide +kernel)) rfl
theorem k_525 : Cond.code yX10_feed cX10_feed 6 (some .int) ∈ BIG := mB (List.mem_of_getElem? (i := 525) (by decide +kernel)) rfl
theorem k_526 : Cond.methodLink RX10 80 yX9_hasRoom ∈ BIG := mB (List.mem_of_getElem? (i := 526) (by decide +kernel)) rfl
theorem k_527 : Cond.instanceMethod yX9_hasRoom ∈ BIG := mB (List.mem_of_getElem? (i := 527) (by decide +kernel)) rfl
theorem k_528 : Cond.selects RX9 yX9_hasRoom yX9_hasRoom ∈ BIG := mB (List.mem_of_getElem? (i := 528) (by decide +kernel)) rfl
theorem k_529 : Cond.code yX9_hasRoom cX9_hasRoom 1 (some .boolean) ∈ BIG := mB (List.mem_of_getElem? (i := 529) (by decide +kernel)) rfl
theorem k_530 : Cond.methodLink RX10 84 yX9_append ∈ BIG := mB (List.mem_of_getElem? (i := 530) (by decide +kernel)) rfl
theorem k_531 : Cond.instanceMethod yX9_append ∈ BIG := mB (List.mem_of_getElem? (i := 531) (by decide +kernel)) rfl
theorem k_532 : Cond.selects RX9 yX9_append yX9_append ∈ BIG := mB (List.mem_of_getElem? (i := 532) (by decide +kernel)) rfl
theorem k_533 : Cond.code yX9_append cX9_append 3 none ∈ BIG := mB (List.mem_of_getElem? (i := 533) (by decide +kernel)) rfl
theorem k_534 : Cond.methodLink RL 18 yX10_end ∈ BIG := mB (List.mem_of_getElem? (i := 534) (by decide +kernel)) rfl
theorem k_535 : Cond.instanceMethod yX10_end ∈ BIG := mB (List.mem_of_getElem? (i := 535) (by decide +kernel)) rfl
theorem k_536 : Cond.selects RX10 yX10_end yX10_end ∈ BIG := mB (List.mem_of_getElem? (i := 536) (by decide +kernel)) rfl
theorem k_537 : Cond.code yX10_end cX10_end 2 (some .int) ∈ BIG := mB (List.mem_of_getElem? (i := 537) (by decide +kernel)) rfl
theorem k_538 : Cond.methodLink RL 23 yX10_regiment ∈ BIG := mB (List.mem_of_getElem? (i := 538) (by decide +kernel)) rfl
theorem k_539 : Cond.instanceMethod yX10_regiment ∈ BIG := mB (List.mem_of_getElem? (i := 539) (by decide +kernel)) rfl
theorem k_540 : Cond.selects RX10 yX10_regiment yX10_regiment ∈ BIG := mB (List.mem_of_getElem? (i := 540) (by decide +kernel)) rfl
theorem k_541 : Cond.code yX10_regiment cX10_regiment 2 (some .int) ∈ BIG := mB (List.mem_of_getElem? (i := 541) (by decide +kernel)) rfl
theorem k_542 : Cond.methodLink RX10 92 yX6_read ∈ BIG := mB (List.mem_of_getElem? (i := 542) (by decide +kernel)) rfl
theorem k_543 : Cond.instanceMethod yX6_read ∈ BIG := mB (List.mem_of_getElem? (i := 543) (by decide +kernel)) rfl
theorem k_544 : Cond.selects RX6 yX6_read yX6_read ∈ BIG := mB (List.mem_of_getElem? (i := 544) (by decide +kernel)) rfl
theorem k_545 : Cond.code yX6_read cX6_read 2 (some .boolean) ∈ BIG := mB (List.mem_of_getElem? (i := 545) (by decide +kernel)) rfl
theorem k_546 : Cond.methodLink RX6 33 yX7_clear ∈ BIG := mB (List.mem_of_getElem? (i := 546) (by decide +kernel)) rfl
theorem k_547 : Cond.instanceMethod yX7_clear ∈ BIG := mB (List.mem_of_getElem? (i := 547) (by decide +kernel)) rfl
theorem k_548 : Cond.selects RX7 yX7_clear yX7_clear ∈ BIG := mB (List.mem_of_getElem? (i := 548) (by decide +kernel)) rfl
theorem k_549 : Cond.code yX7_clear cX7_clear 1 none ∈ BIG := mB (List.mem_of_getElem? (i := 549) (by decide +kernel)) rfl
theorem k_550 : Cond.methodLink RX7 35 yX4_clear ∈ BIG := mB (List.mem_of_getElem? (i := 550) (by decide +kernel)) rfl
theorem k_551 : Cond.instanceMethod yX4_clear ∈ BIG := mB (List.mem_of_getElem? (i := 551) (by decide +kernel)) rfl
theorem k_552 : Cond.selects RX4 yX4_clear yX4_clear ∈ BIG := mB (List.mem_of_getElem? (i := 552) (by decide +kernel)) rfl
theorem k_553 : Cond.code yX4_clear cX4_clear 1 none ∈ BIG := mB (List.mem_of_getElem? (i := 553) (by decide +kernel)) rfl
theorem k_554 : Cond.methodLink RX6 42 yX9_rewind ∈ BIG := mB (List.mem_of_getElem? (i := 554) (by decide +kernel)) rfl
theorem k_555 : Cond.instanceMethod yX9_rewind ∈ BIG := mB (List.mem_of_getElem? (i := 555) (by decide +kernel)) rfl
theorem k_556 : Cond.selects RX9 yX9_rewind yX9_rewind ∈ BIG := mB (List.mem_of_getElem? (i := 556) (by decide +kernel)) rfl
theorem k_557 : Cond.code yX9_rewind cX9_rewind 1 none ∈ BIG := mB (List.mem_of_getElem? (i := 557) (by decide +kernel)) rfl
theorem k_558 : Cond.methodLink RX9 22 yX9_advance ∈ BIG := mB (List.mem_of_getElem? (i := 558) (by decide +kernel)) rfl
theorem k_559 : Cond.instanceMethod yX9_advance ∈ BIG := mB (List.mem_of_getElem? (i := 559) (by decide +kernel)) rfl
theorem k_560 : Cond.selects RX9 yX9_advance yX9_advance ∈ BIG := mB (List.mem_of_getElem? (i := 560) (by decide +kernel)) rfl
theorem k_561 : Cond.code yX9_advance cX9_advance 1 none ∈ BIG := mB (List.mem_of_getElem? (i := 561) (by decide +kernel)) rfl
theorem k_767 : Cond.methodLink RX10 98 yX7_copy ∈ BIG := mB (List.mem_of_getElem? (i := 767) (by decide +kernel)) rfl
theorem k_768 : Cond.instanceMethod yX7_copy ∈ BIG := mB (List.mem_of_getElem? (i := 768) (by decide +kernel)) rfl
theorem k_769 : Cond.selects RX7 yX7_copy yX7_copy ∈ BIG := mB (List.mem_of_getElem? (i := 769) (by decide +kernel)) rfl
theorem k_770 : Cond.code yX7_copy cX7_copy 2 none ∈ BIG := mB (List.mem_of_getElem? (i := 770) (by decide +kernel)) rfl
theorem k_771 : Cond.methodLink RX7 53 arraycopyName ∈ BIG := mB (List.mem_of_getElem? (i := 771) (by decide +kernel)) rfl
theorem k_772 : Cond.methodLink RX7 59 yX4_copy ∈ BIG := mB (List.mem_of_getElem? (i := 772) (by decide +kernel)) rfl
theorem k_773 : Cond.instanceMethod yX4_copy ∈ BIG := mB (List.mem_of_getElem? (i := 773) (by decide +kernel)) rfl
theorem k_774 : Cond.selects RX4 yX4_copy yX4_copy ∈ BIG := mB (List.mem_of_getElem? (i := 774) (by decide +kernel)) rfl
theorem k_775 : Cond.code yX4_copy cX4_copy 2 none ∈ BIG := mB (List.mem_of_getElem? (i := 775) (by decide +kernel)) rfl
theorem k_776 : Cond.methodLink RX4 31 arraycopyName ∈ BIG := mB (List.mem_of_getElem? (i := 776) (by decide +kernel)) rfl
theorem k_777 : Cond.methodLink RX10 101 yX1_muster ∈ BIG := mB (List.mem_of_getElem? (i := 777) (by decide +kernel)) rfl
theorem k_778 : Cond.methodLink RX10 104 yX5_forgetAll ∈ BIG := mB (List.mem_of_getElem? (i := 778) (by decide +kernel)) rfl
theorem k_779 : Cond.instanceMethod yX5_forgetAll ∈ BIG := mB (List.mem_of_getElem? (i := 779) (by decide +kernel)) rfl
theorem k_780 : Cond.selects RX5 yX5_forgetAll yX5_forgetAll ∈ BIG := mB (List.mem_of_getElem? (i := 780) (by decide +kernel)) rfl
theorem k_781 : Cond.code yX5_forgetAll cX5_forgetAll 1 none ∈ BIG := mB (List.mem_of_getElem? (i := 781) (by decide +kernel)) rfl
theorem k_782 : Cond.methodLink RX5 32 yX5_forgetActs ∈ BIG := mB (List.mem_of_getElem? (i := 782) (by decide +kernel)) rfl
theorem k_784 : Cond.instanceMethod yX5_forgetActs ∈ BIG := mB (List.mem_of_getElem? (i := 784) (by decide +kernel)) rfl
theorem k_785 : Cond.code yX5_forgetActs cX5_forgetActs 1 none ∈ BIG := mB (List.mem_of_getElem? (i := 785) (by decide +kernel)) rfl
theorem k_786 : Cond.methodLink RX10 107 yX0_clear ∈ BIG := mB (List.mem_of_getElem? (i := 786) (by decide +kernel)) rfl
theorem k_787 : Cond.instanceMethod yX0_clear ∈ BIG := mB (List.mem_of_getElem? (i := 787) (by decide +kernel)) rfl
theorem k_788 : Cond.selects RX0 yX0_clear yX0_clear ∈ BIG := mB (List.mem_of_getElem? (i := 788) (by decide +kernel)) rfl
theorem k_789 : Cond.code yX0_clear cX0_clear 1 none ∈ BIG := mB (List.mem_of_getElem? (i := 789) (by decide +kernel)) rfl
theorem k_790 : Cond.methodLink RX10 110 yX8_clear ∈ BIG := mB (List.mem_of_getElem? (i := 790) (by decide +kernel)) rfl
theorem k_791 : Cond.instanceMethod yX8_clear ∈ BIG := mB (List.mem_of_getElem? (i := 791) (by decide +kernel)) rfl
theorem k_792 : Cond.selects RX8 yX8_clear yX8_clear ∈ BIG := mB (List.mem_of_getElem? (i := 792) (by decide +kernel)) rfl
theorem k_793 : Cond.code yX8_clear cX8_clear 1 none ∈ BIG := mB (List.mem_of_getElem? (i := 793) (by decide +kernel)) rfl
theorem k_794 : Cond.methodLink RL 28 yX10_fault ∈ BIG := mB (List.mem_of_getElem? (i := 794) (by decide +kernel)) rfl
theorem k_795 : Cond.instanceMethod yX10_fault ∈ BIG := mB (List.mem_of_getElem? (i := 795) (by decide +kernel)) rfl
theorem k_796 : Cond.selects RX10 yX10_fault yX10_fault ∈ BIG := mB (List.mem_of_getElem? (i := 796) (by decide +kernel)) rfl
theorem k_797 : Cond.code yX10_fault cX10_fault 2 (some .int) ∈ BIG := mB (List.mem_of_getElem? (i := 797) (by decide +kernel)) rfl
theorem k_798 : Cond.methodLink RL 32 yX10_man ∈ BIG := mB (List.mem_of_getElem? (i := 798) (by decide +kernel)) rfl
theorem k_799 : Cond.instanceMethod yX10_man ∈ BIG := mB (List.mem_of_getElem? (i := 799) (by decide +kernel)) rfl
theorem k_800 : Cond.selects RX10 yX10_man yX10_man ∈ BIG := mB (List.mem_of_getElem? (i := 800) (by decide +kernel)) rfl
theorem k_801 : Cond.code yX10_man cX10_man 3 (some .int) ∈ BIG := mB (List.mem_of_getElem? (i := 801) (by decide +kernel)) rfl
theorem k_802 : Cond.methodLink RX10 120 yX7_hasMan ∈ BIG := mB (List.mem_of_getElem? (i := 802) (by decide +kernel)) rfl
theorem k_808 : Cond.methodLink RX1 41 yX7_hasMan ∈ BIG := mB (List.mem_of_getElem? (i := 808) (by decide +kernel)) rfl
theorem k_809 : Cond.methodLink RX10 132 yX1_wears ∈ BIG := mB (List.mem_of_getElem? (i := 809) (by decide +kernel)) rfl
theorem k_810 : Cond.instanceMethod yX1_wears ∈ BIG := mB (List.mem_of_getElem? (i := 810) (by decide +kernel)) rfl
theorem k_811 : Cond.selects RX1 yX1_wears yX1_wears ∈ BIG := mB (List.mem_of_getElem? (i := 811) (by decide +kernel)) rfl
theorem k_812 : Cond.code yX1_wears cX1_wears 2 (some .int) ∈ BIG := mB (List.mem_of_getElem? (i := 812) (by decide +kernel)) rfl
theorem k_821 : Cond.methodLink RX1 45 yX7_hasCoat ∈ BIG := mB (List.mem_of_getElem? (i := 821) (by decide +kernel)) rfl
theorem k_828 : Cond.instanceMethod yX1_part ∈ BIG := mB (List.mem_of_getElem? (i := 828) (by decide +kernel)) rfl
theorem k_829 : Cond.selects RX1 yX1_part yX1_part ∈ BIG := mB (List.mem_of_getElem? (i := 829) (by decide +kernel)) rfl
theorem k_830 : Cond.code yX1_part cX1_part 4 (some .int) ∈ BIG := mB (List.mem_of_getElem? (i := 830) (by decide +kernel)) rfl
theorem k_832 : Cond.instanceMethod yX1_today ∈ BIG := mB (List.mem_of_getElem? (i := 832) (by decide +kernel)) rfl
theorem k_833 : Cond.selects RX1 yX1_today yX1_today ∈ BIG := mB (List.mem_of_getElem? (i := 833) (by decide +kernel)) rfl
theorem k_834 : Cond.code yX1_today cX1_today 1 (some .int) ∈ BIG := mB (List.mem_of_getElem? (i := 834) (by decide +kernel)) rfl
theorem k_844 : Cond.methodLink RL 37 yX10_coat ∈ BIG := mB (List.mem_of_getElem? (i := 844) (by decide +kernel)) rfl
theorem k_845 : Cond.instanceMethod yX10_coat ∈ BIG := mB (List.mem_of_getElem? (i := 845) (by decide +kernel)) rfl
theorem k_846 : Cond.selects RX10 yX10_coat yX10_coat ∈ BIG := mB (List.mem_of_getElem? (i := 846) (by decide +kernel)) rfl
theorem k_847 : Cond.code yX10_coat cX10_coat 3 (some .int) ∈ BIG := mB (List.mem_of_getElem? (i := 847) (by decide +kernel)) rfl
theorem k_848 : Cond.methodLink RX10 138 yX7_hasCoat ∈ BIG := mB (List.mem_of_getElem? (i := 848) (by decide +kernel)) rfl
theorem k_854 : Cond.methodLink RX10 144 yX1_part ∈ BIG := mB (List.mem_of_getElem? (i := 854) (by decide +kernel)) rfl
theorem k_855 : Cond.methodLink RL 41 yX10_misfit ∈ BIG := mB (List.mem_of_getElem? (i := 855) (by decide +kernel)) rfl
theorem k_856 : Cond.instanceMethod yX10_misfit ∈ BIG := mB (List.mem_of_getElem? (i := 856) (by decide +kernel)) rfl
theorem k_857 : Cond.selects RX10 yX10_misfit yX10_misfit ∈ BIG := mB (List.mem_of_getElem? (i := 857) (by decide +kernel)) rfl
theorem k_858 : Cond.code yX10_misfit cX10_misfit 3 (some .int) ∈ BIG := mB (List.mem_of_getElem? (i := 858) (by decide +kernel)) rfl
theorem k_860 : Cond.methodLink RL 45 yX10_day ∈ BIG := mB (List.mem_of_getElem? (i := 860) (by decide +kernel)) rfl
theorem k_861 : Cond.instanceMethod yX10_day ∈ BIG := mB (List.mem_of_getElem? (i := 861) (by decide +kernel)) rfl
theorem k_862 : Cond.selects RX10 yX10_day yX10_day ∈ BIG := mB (List.mem_of_getElem? (i := 862) (by decide +kernel)) rfl
theorem k_863 : Cond.code yX10_day cX10_day 2 (some .int) ∈ BIG := mB (List.mem_of_getElem? (i := 863) (by decide +kernel)) rfl
theorem k_864 : Cond.methodLink RX10 150 yX1_today ∈ BIG := mB (List.mem_of_getElem? (i := 864) (by decide +kernel)) rfl
theorem k_865 : Cond.methodLink RX10 157 yX1_passDay ∈ BIG := mB (List.mem_of_getElem? (i := 865) (by decide +kernel)) rfl
theorem k_866 : Cond.instanceMethod yX1_passDay ∈ BIG := mB (List.mem_of_getElem? (i := 866) (by decide +kernel)) rfl
