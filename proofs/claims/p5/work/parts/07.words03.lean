theorem k_1208 : Cond.instanceMethod yX10_odds ∈ BIG := mB (tb_4 (List.mem_of_getElem? (i := 148) (by decide +kernel))) rfl
theorem k_1209 : Cond.selects RX10 yX10_odds yX10_odds ∈ BIG := mB (tb_4 (List.mem_of_getElem? (i := 149) (by decide +kernel))) rfl
theorem k_1210 : Cond.code yX10_odds cX10_odds 6 (some .int) ∈ BIG := mB (tb_4 (List.mem_of_getElem? (i := 150) (by decide +kernel))) rfl
theorem k_1211 : Cond.methodLink RX10 282 yX10_commonDivisor ∈ BIG := mB (tb_4 (List.mem_of_getElem? (i := 151) (by decide +kernel))) rfl
theorem k_1212 : Cond.static yX10_commonDivisor ∈ BIG := mB (tb_4 (List.mem_of_getElem? (i := 152) (by decide +kernel))) rfl
theorem k_1213 : Cond.code yX10_commonDivisor cX10_commonDivisor 6 (some .int) ∈ BIG := mB (tb_4 (List.mem_of_getElem? (i := 153) (by decide +kernel))) rfl
theorem k_1214 : Cond.methodLink RL 167 yX10_lies ∈ BIG := mB (tb_4 (List.mem_of_getElem? (i := 154) (by decide +kernel))) rfl
theorem k_1215 : Cond.instanceMethod yX10_lies ∈ BIG := mB (tb_4 (List.mem_of_getElem? (i := 155) (by decide +kernel))) rfl
theorem k_1216 : Cond.selects RX10 yX10_lies yX10_lies ∈ BIG := mB (tb_4 (List.mem_of_getElem? (i := 156) (by decide +kernel))) rfl
theorem k_1217 : Cond.code yX10_lies cX10_lies 2 (some .int) ∈ BIG := mB (tb_4 (List.mem_of_getElem? (i := 157) (by decide +kernel))) rfl
theorem k_1218 : Cond.methodLink RX10 285 yX0_lying ∈ BIG := mB (tb_4 (List.mem_of_getElem? (i := 158) (by decide +kernel))) rfl
theorem k_1219 : Cond.instanceMethod yX0_lying ∈ BIG := mB (tb_4 (List.mem_of_getElem? (i := 159) (by decide +kernel))) rfl
theorem k_1220 : Cond.selects RX0 yX0_lying yX0_lying ∈ BIG := mB (tb_4 (List.mem_of_getElem? (i := 160) (by decide +kernel))) rfl
theorem k_1221 : Cond.code yX0_lying cX0_lying 2 (some .int) ∈ BIG := mB (tb_4 (List.mem_of_getElem? (i := 161) (by decide +kernel))) rfl
theorem k_1222 : Cond.methodLink RL 171 yX10_seen ∈ BIG := mB (tb_4 (List.mem_of_getElem? (i := 162) (by decide +kernel))) rfl
theorem k_1223 : Cond.instanceMethod yX10_seen ∈ BIG := mB (tb_4 (List.mem_of_getElem? (i := 163) (by decide +kernel))) rfl
theorem k_1224 : Cond.selects RX10 yX10_seen yX10_seen ∈ BIG := mB (tb_4 (List.mem_of_getElem? (i := 164) (by decide +kernel))) rfl
theorem k_1225 : Cond.code yX10_seen cX10_seen 3 (some .int) ∈ BIG := mB (tb_4 (List.mem_of_getElem? (i := 165) (by decide +kernel))) rfl
theorem k_1226 : Cond.methodLink RX10 291 yX8_tell ∈ BIG := mB (tb_4 (List.mem_of_getElem? (i := 166) (by decide +kernel))) rfl
theorem k_1227 : Cond.instanceMethod yX8_tell ∈ BIG := mB (tb_4 (List.mem_of_getElem? (i := 167) (by decide +kernel))) rfl
theorem k_1228 : Cond.selects RX8 yX8_tell yX8_tell ∈ BIG := mB (tb_4 (List.mem_of_getElem? (i := 168) (by decide +kernel))) rfl
theorem k_1229 : Cond.code yX8_tell cX8_tell 4 (some .int) ∈ BIG := mB (tb_4 (List.mem_of_getElem? (i := 169) (by decide +kernel))) rfl
theorem k_1230 : Cond.methodLink RL 176 yX10_untell ∈ BIG := mB (tb_4 (List.mem_of_getElem? (i := 170) (by decide +kernel))) rfl
theorem k_1231 : Cond.instanceMethod yX10_untell ∈ BIG := mB (tb_4 (List.mem_of_getElem? (i := 171) (by decide +kernel))) rfl
theorem k_1232 : Cond.selects RX10 yX10_untell yX10_untell ∈ BIG := mB (tb_4 (List.mem_of_getElem? (i := 172) (by decide +kernel))) rfl
theorem k_1233 : Cond.code yX10_untell cX10_untell 2 (some .boolean) ∈ BIG := mB (tb_4 (List.mem_of_getElem? (i := 173) (by decide +kernel))) rfl
theorem k_1234 : Cond.methodLink RX10 295 yX8_takeBack ∈ BIG := mB (tb_4 (List.mem_of_getElem? (i := 174) (by decide +kernel))) rfl
theorem k_1235 : Cond.instanceMethod yX8_takeBack ∈ BIG := mB (tb_4 (List.mem_of_getElem? (i := 175) (by decide +kernel))) rfl
theorem k_1236 : Cond.selects RX8 yX8_takeBack yX8_takeBack ∈ BIG := mB (tb_4 (List.mem_of_getElem? (i := 176) (by decide +kernel))) rfl
theorem k_1237 : Cond.code yX8_takeBack cX8_takeBack 3 (some .boolean) ∈ BIG := mB (tb_4 (List.mem_of_getElem? (i := 177) (by decide +kernel))) rfl
theorem k_1238 : Cond.methodLink RL 181 yX10_later ∈ BIG := mB (tb_4 (List.mem_of_getElem? (i := 178) (by decide +kernel))) rfl
theorem k_1239 : Cond.instanceMethod yX10_later ∈ BIG := mB (tb_4 (List.mem_of_getElem? (i := 179) (by decide +kernel))) rfl
theorem k_1240 : Cond.selects RX10 yX10_later yX10_later ∈ BIG := mB (tb_4 (List.mem_of_getElem? (i := 180) (by decide +kernel))) rfl
theorem k_1241 : Cond.code yX10_later cX10_later 2 (some .int) ∈ BIG := mB (tb_4 (List.mem_of_getElem? (i := 181) (by decide +kernel))) rfl
theorem k_1242 : Cond.constant RX10 298 100000 ∈ BIG := mB (tb_4 (List.mem_of_getElem? (i := 182) (by decide +kernel))) rfl
theorem k_1243 : Cond.methodLink RL 185 yX10_growths ∈ BIG := mB (tb_4 (List.mem_of_getElem? (i := 183) (by decide +kernel))) rfl
theorem k_1244 : Cond.instanceMethod yX10_growths ∈ BIG := mB (tb_4 (List.mem_of_getElem? (i := 184) (by decide +kernel))) rfl
theorem k_1245 : Cond.selects RX10 yX10_growths yX10_growths ∈ BIG := mB (tb_4 (List.mem_of_getElem? (i := 185) (by decide +kernel))) rfl
theorem k_1246 : Cond.code yX10_growths cX10_growths 2 (some .int) ∈ BIG := mB (tb_4 (List.mem_of_getElem? (i := 186) (by decide +kernel))) rfl
theorem k_1247 : Cond.methodLink RX10 299 yX8_growthsAt ∈ BIG := mB (tb_4 (List.mem_of_getElem? (i := 187) (by decide +kernel))) rfl
theorem k_1248 : Cond.instanceMethod yX8_growthsAt ∈ BIG := mB (tb_4 (List.mem_of_getElem? (i := 188) (by decide +kernel))) rfl
theorem k_1249 : Cond.selects RX8 yX8_growthsAt yX8_growthsAt ∈ BIG := mB (tb_4 (List.mem_of_getElem? (i := 189) (by decide +kernel))) rfl
theorem k_1250 : Cond.code yX8_growthsAt cX8_growthsAt 6 (some .int) ∈ BIG := mB (tb_4 (List.mem_of_getElem? (i := 190) (by decide +kernel))) rfl
theorem k_1251 : Cond.constant RX8 50 2147483647 ∈ BIG := mB (tb_4 (List.mem_of_getElem? (i := 191) (by decide +kernel))) rfl
theorem k_1252 : Cond.methodLink RX8 51 yX8_fittingBehind ∈ BIG := mB (tb_4 (List.mem_of_getElem? (i := 192) (by decide +kernel))) rfl
theorem k_1254 : Cond.instanceMethod yX8_fittingBehind ∈ BIG := mB (tb_4 (List.mem_of_getElem? (i := 194) (by decide +kernel))) rfl
theorem k_1255 : Cond.code yX8_fittingBehind cX8_fittingBehind 4 (some .int) ∈ BIG := mB (tb_4 (List.mem_of_getElem? (i := 195) (by decide +kernel))) rfl
theorem k_1256 : Cond.methodLink RX8 55 yX8_fitsGrown ∈ BIG := mB (tb_4 (List.mem_of_getElem? (i := 196) (by decide +kernel))) rfl
theorem k_1258 : Cond.instanceMethod yX8_fitsGrown ∈ BIG := mB (tb_4 (List.mem_of_getElem? (i := 198) (by decide +kernel))) rfl
theorem k_1259 : Cond.code yX8_fitsGrown cX8_fitsGrown 5 (some .boolean) ∈ BIG := mB (tb_4 (List.mem_of_getElem? (i := 199) (by decide +kernel))) rfl
theorem k_1260 : Cond.methodLink RX8 59 yX7_manPart ∈ BIG := mB (tb_4 (List.mem_of_getElem? (i := 200) (by decide +kernel))) rfl
theorem k_1261 : Cond.methodLink RX8 63 Lib.Math.min.name ∈ BIG := mB (tb_4 (List.mem_of_getElem? (i := 201) (by decide +kernel))) rfl
theorem k_1262 : Cond.methodLink RX8 68 yX7_coatPart ∈ BIG := mB (tb_4 (List.mem_of_getElem? (i := 202) (by decide +kernel))) rfl
theorem k_1263 : Cond.methodLink RX8 75 yX4_worth ∈ BIG := mB (tb_4 (List.mem_of_getElem? (i := 203) (by decide +kernel))) rfl
theorem k_1264 : Cond.methodLink RL 189 yX10_sure ∈ BIG := mB (tb_4 (List.mem_of_getElem? (i := 204) (by decide +kernel))) rfl
theorem k_1265 : Cond.instanceMethod yX10_sure ∈ BIG := mB (tb_4 (List.mem_of_getElem? (i := 205) (by decide +kernel))) rfl
theorem k_1266 : Cond.selects RX10 yX10_sure yX10_sure ∈ BIG := mB (tb_4 (List.mem_of_getElem? (i := 206) (by decide +kernel))) rfl
theorem k_1267 : Cond.code yX10_sure cX10_sure 4 (some .int) ∈ BIG := mB (tb_4 (List.mem_of_getElem? (i := 207) (by decide +kernel))) rfl
theorem k_1268 : Cond.methodLink RX10 302 yJ6_numberOfTrailingZeros_0f7a4 ∈ BIG := mB (tb_4 (List.mem_of_getElem? (i := 208) (by decide +kernel))) rfl
theorem k_1269 : Cond.static yJ6_numberOfTrailingZeros_0f7a4 ∈ BIG := mB (tb_4 (List.mem_of_getElem? (i := 209) (by decide +kernel))) rfl
theorem k_1270 : Cond.code yJ6_numberOfTrailingZeros_0f7a4 cJ6_numberOfTrailingZeros_0f7a4 2 (some .int) ∈ BIG := mB (tb_4 (List.mem_of_getElem? (i := 210) (by decide +kernel))) rfl
theorem k_1271 : Cond.constant RJ6 264 65536 ∈ BIG := mB (tb_4 (List.mem_of_getElem? (i := 211) (by decide +kernel))) rfl
theorem k_1272 : Cond.methodLink RX10 305 yJ6_numberOfLeadingZeros_0f7a4 ∈ BIG := mB (tb_4 (List.mem_of_getElem? (i := 212) (by decide +kernel))) rfl
theorem k_1273 : Cond.static yJ6_numberOfLeadingZeros_0f7a4 ∈ BIG := mB (tb_4 (List.mem_of_getElem? (i := 213) (by decide +kernel))) rfl
theorem k_1274 : Cond.code yJ6_numberOfLeadingZeros_0f7a4 cJ6_numberOfLeadingZeros_0f7a4 2 (some .int) ∈ BIG := mB (tb_4 (List.mem_of_getElem? (i := 214) (by decide +kernel))) rfl
theorem k_1275 : Cond.methodLink RL 193 yX10_ask ∈ BIG := mB (tb_4 (List.mem_of_getElem? (i := 215) (by decide +kernel))) rfl
theorem k_1276 : Cond.instanceMethod yX10_ask ∈ BIG := mB (tb_4 (List.mem_of_getElem? (i := 216) (by decide +kernel))) rfl
theorem k_1277 : Cond.selects RX10 yX10_ask yX10_ask ∈ BIG := mB (tb_4 (List.mem_of_getElem? (i := 217) (by decide +kernel))) rfl
theorem k_1278 : Cond.code yX10_ask cX10_ask 5 (some .int) ∈ BIG := mB (tb_4 (List.mem_of_getElem? (i := 218) (by decide +kernel))) rfl
theorem k_1279 : Cond.methodLink RX10 308 yX8_bestQuestion ∈ BIG := mB (tb_4 (List.mem_of_getElem? (i := 219) (by decide +kernel))) rfl
theorem k_1280 : Cond.instanceMethod yX8_bestQuestion ∈ BIG := mB (tb_4 (List.mem_of_getElem? (i := 220) (by decide +kernel))) rfl
theorem k_1281 : Cond.selects RX8 yX8_bestQuestion yX8_bestQuestion ∈ BIG := mB (tb_4 (List.mem_of_getElem? (i := 221) (by decide +kernel))) rfl
theorem k_1282 : Cond.code yX8_bestQuestion cX8_bestQuestion 4 (some .int) ∈ BIG := mB (tb_4 (List.mem_of_getElem? (i := 222) (by decide +kernel))) rfl
theorem k_1283 : Cond.methodLink RX8 84 yX8_leftAtMost ∈ BIG := mB (tb_4 (List.mem_of_getElem? (i := 223) (by decide +kernel))) rfl
theorem k_1284 : Cond.instanceMethod yX8_leftAtMost ∈ BIG := mB (tb_4 (List.mem_of_getElem? (i := 224) (by decide +kernel))) rfl
theorem k_1285 : Cond.selects RX8 yX8_leftAtMost yX8_leftAtMost ∈ BIG := mB (tb_4 (List.mem_of_getElem? (i := 225) (by decide +kernel))) rfl
theorem k_1286 : Cond.code yX8_leftAtMost cX8_leftAtMost 4 (some .int) ∈ BIG := mB (tb_4 (List.mem_of_getElem? (i := 226) (by decide +kernel))) rfl
theorem k_1287 : Cond.methodLink RX8 87 yJ6_bitCount_0f7a4 ∈ BIG := mB (tb_4 (List.mem_of_getElem? (i := 227) (by decide +kernel))) rfl
theorem k_1288 : Cond.methodLink RX8 92 Lib.Math.max.name ∈ BIG := mB (tb_4 (List.mem_of_getElem? (i := 228) (by decide +kernel))) rfl
theorem k_1289 : Cond.methodLink RX10 311 yX8_leftAtMost ∈ BIG := mB (tb_4 (List.mem_of_getElem? (i := 229) (by decide +kernel))) rfl
theorem k_1290 : Cond.methodLink RL 197 yX10_image ∈ BIG := mB (tb_4 (List.mem_of_getElem? (i := 230) (by decide +kernel))) rfl
theorem k_1291 : Cond.instanceMethod yX10_image ∈ BIG := mB (tb_4 (List.mem_of_getElem? (i := 231) (by decide +kernel))) rfl
theorem k_1292 : Cond.selects RX10 yX10_image yX10_image ∈ BIG := mB (tb_4 (List.mem_of_getElem? (i := 232) (by decide +kernel))) rfl
theorem k_1293 : Cond.code yX10_image cX10_image 2 (some .int) ∈ BIG := mB (tb_4 (List.mem_of_getElem? (i := 233) (by decide +kernel))) rfl
theorem k_1294 : Cond.methodLink RX10 314 yX5_fillBox ∈ BIG := mB (tb_4 (List.mem_of_getElem? (i := 234) (by decide +kernel))) rfl
theorem k_1295 : Cond.instanceMethod yX5_fillBox ∈ BIG := mB (tb_4 (List.mem_of_getElem? (i := 235) (by decide +kernel))) rfl
theorem k_1296 : Cond.selects RX5 yX5_fillBox yX5_fillBox ∈ BIG := mB (tb_4 (List.mem_of_getElem? (i := 236) (by decide +kernel))) rfl
theorem k_1297 : Cond.code yX5_fillBox cX5_fillBox 2 (some .boolean) ∈ BIG := mB (tb_4 (List.mem_of_getElem? (i := 237) (by decide +kernel))) rfl
theorem k_1298 : Cond.methodLink RL 201 yX10_back ∈ BIG := mB (tb_4 (List.mem_of_getElem? (i := 238) (by decide +kernel))) rfl
theorem k_1299 : Cond.instanceMethod yX10_back ∈ BIG := mB (tb_4 (List.mem_of_getElem? (i := 239) (by decide +kernel))) rfl
theorem k_1300 : Cond.selects RX10 yX10_back yX10_back ∈ BIG := mB (tb_5 (List.mem_of_getElem? (i := 0) (by decide +kernel))) rfl
theorem k_1301 : Cond.code yX10_back cX10_back 2 (some .int) ∈ BIG := mB (tb_5 (List.mem_of_getElem? (i := 1) (by decide +kernel))) rfl
theorem k_1302 : Cond.methodLink RX10 317 yX5_takeBox ∈ BIG := mB (tb_5 (List.mem_of_getElem? (i := 2) (by decide +kernel))) rfl
theorem k_1303 : Cond.instanceMethod yX5_takeBox ∈ BIG := mB (tb_5 (List.mem_of_getElem? (i := 3) (by decide +kernel))) rfl
theorem k_1304 : Cond.selects RX5 yX5_takeBox yX5_takeBox ∈ BIG := mB (tb_5 (List.mem_of_getElem? (i := 4) (by decide +kernel))) rfl
theorem k_1305 : Cond.code yX5_takeBox cX5_takeBox 2 (some .boolean) ∈ BIG := mB (tb_5 (List.mem_of_getElem? (i := 5) (by decide +kernel))) rfl
theorem k_1306 : Cond.methodLink RL 205 yX10_about ∈ BIG := mB (tb_5 (List.mem_of_getElem? (i := 6) (by decide +kernel))) rfl
theorem k_1307 : Cond.instanceMethod yX10_about ∈ BIG := mB (tb_5 (List.mem_of_getElem? (i := 7) (by decide +kernel))) rfl
theorem k_1308 : Cond.selects RX10 yX10_about yX10_about ∈ BIG := mB (tb_5 (List.mem_of_getElem? (i := 8) (by decide +kernel))) rfl
theorem k_1309 : Cond.code yX10_about cX10_about 2 (some .int) ∈ BIG := mB (tb_5 (List.mem_of_getElem? (i := 9) (by decide +kernel))) rfl
theorem k_1310 : Cond.methodLink RX10 329 yX1_seed ∈ BIG := mB (tb_5 (List.mem_of_getElem? (i := 10) (by decide +kernel))) rfl
theorem k_1311 : Cond.instanceMethod yX1_seed ∈ BIG := mB (tb_5 (List.mem_of_getElem? (i := 11) (by decide +kernel))) rfl
theorem k_1312 : Cond.selects RX1 yX1_seed yX1_seed ∈ BIG := mB (tb_5 (List.mem_of_getElem? (i := 12) (by decide +kernel))) rfl
theorem k_1313 : Cond.code yX1_seed cX1_seed 1 (some .int) ∈ BIG := mB (tb_5 (List.mem_of_getElem? (i := 13) (by decide +kernel))) rfl
theorem k_1314 : Cond.classLink RL 10 RX11 ∈ BIG := mB (tb_5 (List.mem_of_getElem? (i := 14) (by decide +kernel))) rfl
theorem k_1315 : Cond.instantiable RX11 79 ∈ BIG := mB (tb_5 (List.mem_of_getElem? (i := 15) (by decide +kernel))) rfl
theorem k_1316 : Cond.methodLink RL 12 yX11_init ∈ BIG := mB (tb_5 (List.mem_of_getElem? (i := 16) (by decide +kernel))) rfl
theorem k_1317 : Cond.instanceMethod yX11_init ∈ BIG := mB (tb_5 (List.mem_of_getElem? (i := 17) (by decide +kernel))) rfl
theorem k_1318 : Cond.code yX11_init cX11_init 1 none ∈ BIG := mB (tb_5 (List.mem_of_getElem? (i := 18) (by decide +kernel))) rfl
theorem k_1319 : Cond.methodLink RX11 1 Lib.objectInit ∈ BIG := mB (tb_5 (List.mem_of_getElem? (i := 19) (by decide +kernel))) rfl
theorem k_1320 : Cond.fieldLink RX11 7 RX11 "tape" "[I" ∈ BIG := mB (tb_5 (List.mem_of_getElem? (i := 20) (by decide +kernel))) rfl
theorem k_1321 : Cond.fieldLink RX11 139 RX11 "taped" "I" ∈ BIG := mB (tb_5 (List.mem_of_getElem? (i := 21) (by decide +kernel))) rfl
theorem k_1322 : Cond.fieldLink RX11 179 RX11 "fault" "I" ∈ BIG := mB (tb_5 (List.mem_of_getElem? (i := 22) (by decide +kernel))) rfl
theorem k_1323 : Cond.fieldLink RX11 13 RX11 "faultPlace" "I" ∈ BIG := mB (tb_5 (List.mem_of_getElem? (i := 23) (by decide +kernel))) rfl
theorem k_1324 : Cond.fieldLink RX11 146 RX11 "at" "I" ∈ BIG := mB (tb_5 (List.mem_of_getElem? (i := 24) (by decide +kernel))) rfl
theorem k_1325 : Cond.fieldLink RX11 149 RX11 "size" "I" ∈ BIG := mB (tb_5 (List.mem_of_getElem? (i := 25) (by decide +kernel))) rfl
theorem k_1326 : Cond.fieldLink RX11 166 RX11 "sort" "I" ∈ BIG := mB (tb_5 (List.mem_of_getElem? (i := 26) (by decide +kernel))) rfl
theorem k_1327 : Cond.fieldLink RX11 156 RX11 "place" "I" ∈ BIG := mB (tb_5 (List.mem_of_getElem? (i := 27) (by decide +kernel))) rfl
theorem k_1328 : Cond.fieldLink RX11 163 RX11 "number" "I" ∈ BIG := mB (tb_5 (List.mem_of_getElem? (i := 28) (by decide +kernel))) rfl
theorem k_1329 : Cond.fieldLink RX11 159 RX11 "word" "J" ∈ BIG := mB (tb_5 (List.mem_of_getElem? (i := 29) (by decide +kernel))) rfl
theorem k_1330 : Cond.fieldLink RX11 17 RX11 "nName" "[J" ∈ BIG := mB (tb_5 (List.mem_of_getElem? (i := 30) (by decide +kernel))) rfl
theorem k_1331 : Cond.fieldLink RX11 21 RX11 "nStep" "[I" ∈ BIG := mB (tb_5 (List.mem_of_getElem? (i := 31) (by decide +kernel))) rfl
theorem k_1332 : Cond.fieldLink RX11 24 RX11 "nArg" "[I" ∈ BIG := mB (tb_5 (List.mem_of_getElem? (i := 32) (by decide +kernel))) rfl
theorem k_1333 : Cond.fieldLink RX11 27 RX11 "step" "[I" ∈ BIG := mB (tb_5 (List.mem_of_getElem? (i := 33) (by decide +kernel))) rfl
theorem k_1334 : Cond.fieldLink RX11 30 RX11 "arg" "[I" ∈ BIG := mB (tb_5 (List.mem_of_getElem? (i := 34) (by decide +kernel))) rfl
theorem k_1335 : Cond.fieldLink RX11 33 RX11 "open" "[I" ∈ BIG := mB (tb_5 (List.mem_of_getElem? (i := 35) (by decide +kernel))) rfl
theorem k_1336 : Cond.fieldLink RX11 36 RX11 "values" "[I" ∈ BIG := mB (tb_5 (List.mem_of_getElem? (i := 36) (by decide +kernel))) rfl
theorem k_1337 : Cond.fieldLink RX11 253 RX11 "nMany" "I" ∈ BIG := mB (tb_5 (List.mem_of_getElem? (i := 37) (by decide +kernel))) rfl
theorem k_1338 : Cond.fieldLink RX11 323 RX11 "steps" "I" ∈ BIG := mB (tb_5 (List.mem_of_getElem? (i := 38) (by decide +kernel))) rfl
theorem k_1339 : Cond.fieldLink RX11 256 RX11 "opens" "I" ∈ BIG := mB (tb_5 (List.mem_of_getElem? (i := 39) (by decide +kernel))) rfl
theorem k_1340 : Cond.fieldLink RX11 269 RX11 "nUnits" "I" ∈ BIG := mB (tb_5 (List.mem_of_getElem? (i := 40) (by decide +kernel))) rfl
theorem k_1341 : Cond.fieldLink RX11 396 RX11 "units" "I" ∈ BIG := mB (tb_5 (List.mem_of_getElem? (i := 41) (by decide +kernel))) rfl
theorem k_1342 : Cond.fieldLink RX11 272 RX11 "ownUnits" "I" ∈ BIG := mB (tb_5 (List.mem_of_getElem? (i := 42) (by decide +kernel))) rfl
theorem k_1343 : Cond.fieldLink RX11 266 RX11 "deep" "I" ∈ BIG := mB (tb_5 (List.mem_of_getElem? (i := 43) (by decide +kernel))) rfl
theorem k_1344 : Cond.fieldLink RX11 291 RX11 "nHasForm" "Z" ∈ BIG := mB (tb_5 (List.mem_of_getElem? (i := 44) (by decide +kernel))) rfl
theorem k_1345 : Cond.fieldLink RX11 317 RX11 "hasForm" "Z" ∈ BIG := mB (tb_5 (List.mem_of_getElem? (i := 45) (by decide +kernel))) rfl
theorem k_1346 : Cond.fieldLink RX11 39 RX11 "asks" "[I" ∈ BIG := mB (tb_5 (List.mem_of_getElem? (i := 46) (by decide +kernel))) rfl
theorem k_1347 : Cond.fieldLink RX11 42 RX11 "nTall" "[I" ∈ BIG := mB (tb_5 (List.mem_of_getElem? (i := 47) (by decide +kernel))) rfl
theorem k_1348 : Cond.fieldLink RX11 45 RX11 "nWide" "[I" ∈ BIG := mB (tb_5 (List.mem_of_getElem? (i := 48) (by decide +kernel))) rfl
theorem k_1349 : Cond.fieldLink RX11 48 RX11 "nGrows" "[I" ∈ BIG := mB (tb_5 (List.mem_of_getElem? (i := 49) (by decide +kernel))) rfl
theorem k_1350 : Cond.fieldLink RX11 51 RX11 "nCoatTall" "[I" ∈ BIG := mB (tb_5 (List.mem_of_getElem? (i := 50) (by decide +kernel))) rfl
theorem k_1351 : Cond.fieldLink RX11 54 RX11 "nCoatWide" "[I" ∈ BIG := mB (tb_5 (List.mem_of_getElem? (i := 51) (by decide +kernel))) rfl
theorem k_1352 : Cond.fieldLink RX11 57 RX11 "nSeam" "[I" ∈ BIG := mB (tb_5 (List.mem_of_getElem? (i := 52) (by decide +kernel))) rfl
theorem k_1353 : Cond.fieldLink RX11 60 RX11 "nWorn" "[I" ∈ BIG := mB (tb_5 (List.mem_of_getElem? (i := 53) (by decide +kernel))) rfl
theorem k_1354 : Cond.fieldLink RX11 63 RX11 "tall" "[I" ∈ BIG := mB (tb_5 (List.mem_of_getElem? (i := 54) (by decide +kernel))) rfl
theorem k_1355 : Cond.fieldLink RX11 66 RX11 "wide" "[I" ∈ BIG := mB (tb_5 (List.mem_of_getElem? (i := 55) (by decide +kernel))) rfl
theorem k_1356 : Cond.fieldLink RX11 69 RX11 "grows" "[I" ∈ BIG := mB (tb_5 (List.mem_of_getElem? (i := 56) (by decide +kernel))) rfl
theorem k_1357 : Cond.fieldLink RX11 72 RX11 "coatTall" "[I" ∈ BIG := mB (tb_5 (List.mem_of_getElem? (i := 57) (by decide +kernel))) rfl
theorem k_1358 : Cond.fieldLink RX11 75 RX11 "coatWide" "[I" ∈ BIG := mB (tb_5 (List.mem_of_getElem? (i := 58) (by decide +kernel))) rfl
theorem k_1359 : Cond.fieldLink RX11 78 RX11 "seam" "[I" ∈ BIG := mB (tb_5 (List.mem_of_getElem? (i := 59) (by decide +kernel))) rfl
theorem k_1360 : Cond.fieldLink RX11 81 RX11 "worn" "[I" ∈ BIG := mB (tb_5 (List.mem_of_getElem? (i := 60) (by decide +kernel))) rfl
theorem k_1361 : Cond.fieldLink RX11 330 RX11 "nMen" "I" ∈ BIG := mB (tb_5 (List.mem_of_getElem? (i := 61) (by decide +kernel))) rfl
theorem k_1362 : Cond.fieldLink RX11 339 RX11 "nCoats" "I" ∈ BIG := mB (tb_5 (List.mem_of_getElem? (i := 62) (by decide +kernel))) rfl
theorem k_1363 : Cond.fieldLink RX11 354 RX11 "nEasy" "I" ∈ BIG := mB (tb_5 (List.mem_of_getElem? (i := 63) (by decide +kernel))) rfl
theorem k_1364 : Cond.fieldLink RX11 360 RX11 "nBolt" "I" ∈ BIG := mB (tb_5 (List.mem_of_getElem? (i := 64) (by decide +kernel))) rfl
theorem k_1365 : Cond.fieldLink RX11 366 RX11 "nLike" "I" ∈ BIG := mB (tb_5 (List.mem_of_getElem? (i := 65) (by decide +kernel))) rfl
theorem k_1366 : Cond.fieldLink RX11 372 RX11 "nRain" "I" ∈ BIG := mB (tb_5 (List.mem_of_getElem? (i := 66) (by decide +kernel))) rfl
theorem k_1367 : Cond.fieldLink RX11 378 RX11 "nDraw" "I" ∈ BIG := mB (tb_5 (List.mem_of_getElem? (i := 67) (by decide +kernel))) rfl
theorem k_1368 : Cond.fieldLink RX11 387 RX11 "men" "I" ∈ BIG := mB (tb_5 (List.mem_of_getElem? (i := 68) (by decide +kernel))) rfl
theorem k_1369 : Cond.fieldLink RX11 390 RX11 "coats" "I" ∈ BIG := mB (tb_5 (List.mem_of_getElem? (i := 69) (by decide +kernel))) rfl
theorem k_1370 : Cond.fieldLink RX11 84 RX11 "easy" "I" ∈ BIG := mB (tb_5 (List.mem_of_getElem? (i := 70) (by decide +kernel))) rfl
theorem k_1371 : Cond.fieldLink RX11 87 RX11 "bolt" "I" ∈ BIG := mB (tb_5 (List.mem_of_getElem? (i := 71) (by decide +kernel))) rfl
theorem k_1372 : Cond.fieldLink RX11 90 RX11 "like" "I" ∈ BIG := mB (tb_5 (List.mem_of_getElem? (i := 72) (by decide +kernel))) rfl
theorem k_1373 : Cond.fieldLink RX11 393 RX11 "rain" "I" ∈ BIG := mB (tb_5 (List.mem_of_getElem? (i := 73) (by decide +kernel))) rfl
theorem k_1374 : Cond.fieldLink RX11 351 RX11 "nHasEasy" "Z" ∈ BIG := mB (tb_5 (List.mem_of_getElem? (i := 74) (by decide +kernel))) rfl
theorem k_1375 : Cond.fieldLink RX11 357 RX11 "nHasBolt" "Z" ∈ BIG := mB (tb_5 (List.mem_of_getElem? (i := 75) (by decide +kernel))) rfl
theorem k_1376 : Cond.fieldLink RX11 363 RX11 "nHasLike" "Z" ∈ BIG := mB (tb_5 (List.mem_of_getElem? (i := 76) (by decide +kernel))) rfl
theorem k_1377 : Cond.fieldLink RX11 369 RX11 "nHasRain" "Z" ∈ BIG := mB (tb_5 (List.mem_of_getElem? (i := 77) (by decide +kernel))) rfl
theorem k_1378 : Cond.fieldLink RX11 375 RX11 "nHasDraw" "Z" ∈ BIG := mB (tb_5 (List.mem_of_getElem? (i := 78) (by decide +kernel))) rfl
theorem k_1379 : Cond.fieldLink RX11 93 RX11 "now" "[I" ∈ BIG := mB (tb_5 (List.mem_of_getElem? (i := 79) (by decide +kernel))) rfl
theorem k_1380 : Cond.fieldLink RX11 96 RX11 "air" "[I" ∈ BIG := mB (tb_5 (List.mem_of_getElem? (i := 80) (by decide +kernel))) rfl
theorem k_1381 : Cond.fieldLink RX11 99 RX11 "were" "[I" ∈ BIG := mB (tb_5 (List.mem_of_getElem? (i := 81) (by decide +kernel))) rfl
theorem k_1382 : Cond.fieldLink RX11 405 RX11 "acts" "I" ∈ BIG := mB (tb_5 (List.mem_of_getElem? (i := 82) (by decide +kernel))) rfl
theorem k_1383 : Cond.fieldLink RX11 408 RX11 "undone" "I" ∈ BIG := mB (tb_5 (List.mem_of_getElem? (i := 83) (by decide +kernel))) rfl
theorem k_1384 : Cond.fieldLink RX11 102 RX11 "lies" "[I" ∈ BIG := mB (tb_5 (List.mem_of_getElem? (i := 84) (by decide +kernel))) rfl
theorem k_1385 : Cond.fieldLink RX11 105 RX11 "row" "[I" ∈ BIG := mB (tb_5 (List.mem_of_getElem? (i := 85) (by decide +kernel))) rfl
theorem k_1386 : Cond.fieldLink RX11 108 RX11 "ills" "[I" ∈ BIG := mB (tb_5 (List.mem_of_getElem? (i := 86) (by decide +kernel))) rfl
theorem k_1387 : Cond.fieldLink RX11 414 RX11 "lain" "I" ∈ BIG := mB (tb_5 (List.mem_of_getElem? (i := 87) (by decide +kernel))) rfl
theorem k_1388 : Cond.fieldLink RX11 111 RX11 "lengths" "[I" ∈ BIG := mB (tb_5 (List.mem_of_getElem? (i := 88) (by decide +kernel))) rfl
theorem k_1389 : Cond.fieldLink RX11 114 RX11 "sightDays" "[I" ∈ BIG := mB (tb_5 (List.mem_of_getElem? (i := 89) (by decide +kernel))) rfl
theorem k_1390 : Cond.fieldLink RX11 117 RX11 "sightTold" "[I" ∈ BIG := mB (tb_5 (List.mem_of_getElem? (i := 90) (by decide +kernel))) rfl
theorem k_1391 : Cond.fieldLink RX11 120 RX11 "sightUntold" "[I" ∈ BIG := mB (tb_5 (List.mem_of_getElem? (i := 91) (by decide +kernel))) rfl
theorem k_1392 : Cond.fieldLink RX11 123 RX11 "sightIs" "[Z" ∈ BIG := mB (tb_5 (List.mem_of_getElem? (i := 92) (by decide +kernel))) rfl
theorem k_1393 : Cond.fieldLink RX11 411 RX11 "sights" "I" ∈ BIG := mB (tb_5 (List.mem_of_getElem? (i := 93) (by decide +kernel))) rfl
theorem k_1394 : Cond.fieldLink RX11 527 RX11 "time" "I" ∈ BIG := mB (tb_5 (List.mem_of_getElem? (i := 94) (by decide +kernel))) rfl
theorem k_1395 : Cond.fieldLink RX11 127 RX11 "was" "[Z" ∈ BIG := mB (tb_5 (List.mem_of_getElem? (i := 95) (by decide +kernel))) rfl
theorem k_1396 : Cond.fieldLink RX11 130 RX11 "isFit" "[Z" ∈ BIG := mB (tb_5 (List.mem_of_getElem? (i := 96) (by decide +kernel))) rfl
theorem k_1397 : Cond.fieldLink RX11 133 RX11 "hasBox" "[Z" ∈ BIG := mB (tb_5 (List.mem_of_getElem? (i := 97) (by decide +kernel))) rfl
theorem k_1398 : Cond.fieldLink RX11 136 RX11 "boxes" "[I" ∈ BIG := mB (tb_5 (List.mem_of_getElem? (i := 98) (by decide +kernel))) rfl
theorem k_1558 : Cond.arrayClass .long ∈ BIG := mB (tb_6 (List.mem_of_getElem? (i := 18) (by decide +kernel))) rfl
theorem k_1559 : Cond.methodLink RL 17 yX11_feed ∈ BIG := mB (tb_6 (List.mem_of_getElem? (i := 19) (by decide +kernel))) rfl
theorem k_1560 : Cond.instanceMethod yX11_feed ∈ BIG := mB (tb_6 (List.mem_of_getElem? (i := 20) (by decide +kernel))) rfl
theorem k_1561 : Cond.selects RX11 yX11_feed yX11_feed ∈ BIG := mB (tb_6 (List.mem_of_getElem? (i := 21) (by decide +kernel))) rfl
theorem k_1562 : Cond.code yX11_feed cX11_feed 6 (some .int) ∈ BIG := mB (tb_6 (List.mem_of_getElem? (i := 22) (by decide +kernel))) rfl
theorem k_1563 : Cond.methodLink RX11 142 yX11_four ∈ BIG := mB (tb_6 (List.mem_of_getElem? (i := 23) (by decide +kernel))) rfl
theorem k_1565 : Cond.instanceMethod yX11_four ∈ BIG := mB (tb_6 (List.mem_of_getElem? (i := 25) (by decide +kernel))) rfl
theorem k_1566 : Cond.code yX11_four cX11_four 3 none ∈ BIG := mB (tb_6 (List.mem_of_getElem? (i := 26) (by decide +kernel))) rfl
theorem k_1567 : Cond.methodLink RL 22 yX11_end ∈ BIG := mB (tb_6 (List.mem_of_getElem? (i := 27) (by decide +kernel))) rfl
theorem k_1568 : Cond.instanceMethod yX11_end ∈ BIG := mB (tb_6 (List.mem_of_getElem? (i := 28) (by decide +kernel))) rfl
theorem k_1569 : Cond.selects RX11 yX11_end yX11_end ∈ BIG := mB (tb_6 (List.mem_of_getElem? (i := 29) (by decide +kernel))) rfl
theorem k_1570 : Cond.code yX11_end cX11_end 2 (some .int) ∈ BIG := mB (tb_6 (List.mem_of_getElem? (i := 30) (by decide +kernel))) rfl
theorem k_1571 : Cond.methodLink RL 27 yX11_regiment ∈ BIG := mB (tb_6 (List.mem_of_getElem? (i := 31) (by decide +kernel))) rfl
theorem k_1572 : Cond.instanceMethod yX11_regiment ∈ BIG := mB (tb_6 (List.mem_of_getElem? (i := 32) (by decide +kernel))) rfl
theorem k_1573 : Cond.selects RX11 yX11_regiment yX11_regiment ∈ BIG := mB (tb_6 (List.mem_of_getElem? (i := 33) (by decide +kernel))) rfl
theorem k_1574 : Cond.code yX11_regiment cX11_regiment 2 (some .int) ∈ BIG := mB (tb_6 (List.mem_of_getElem? (i := 34) (by decide +kernel))) rfl
theorem k_1575 : Cond.methodLink RX11 384 yX11_readAll ∈ BIG := mB (tb_6 (List.mem_of_getElem? (i := 35) (by decide +kernel))) rfl
theorem k_1577 : Cond.instanceMethod yX11_readAll ∈ BIG := mB (tb_6 (List.mem_of_getElem? (i := 37) (by decide +kernel))) rfl
theorem k_1578 : Cond.code yX11_readAll cX11_readAll 1 none ∈ BIG := mB (tb_6 (List.mem_of_getElem? (i := 38) (by decide +kernel))) rfl
theorem k_1579 : Cond.methodLink RX11 235 yX11_token ∈ BIG := mB (tb_6 (List.mem_of_getElem? (i := 39) (by decide +kernel))) rfl
theorem k_1581 : Cond.instanceMethod yX11_token ∈ BIG := mB (tb_6 (List.mem_of_getElem? (i := 41) (by decide +kernel))) rfl
theorem k_1582 : Cond.code yX11_token cX11_token 3 none ∈ BIG := mB (tb_6 (List.mem_of_getElem? (i := 42) (by decide +kernel))) rfl
theorem k_1583 : Cond.methodLink RX11 152 yX11_here ∈ BIG := mB (tb_6 (List.mem_of_getElem? (i := 43) (by decide +kernel))) rfl
theorem k_1585 : Cond.instanceMethod yX11_here ∈ BIG := mB (tb_6 (List.mem_of_getElem? (i := 45) (by decide +kernel))) rfl
theorem k_1586 : Cond.code yX11_here cX11_here 2 (some .int) ∈ BIG := mB (tb_6 (List.mem_of_getElem? (i := 46) (by decide +kernel))) rfl
theorem k_1587 : Cond.methodLink RX11 169 yX11_isLetter ∈ BIG := mB (tb_6 (List.mem_of_getElem? (i := 47) (by decide +kernel))) rfl
theorem k_1588 : Cond.static yX11_isLetter ∈ BIG := mB (tb_6 (List.mem_of_getElem? (i := 48) (by decide +kernel))) rfl
theorem k_1589 : Cond.code yX11_isLetter cX11_isLetter 1 (some .boolean) ∈ BIG := mB (tb_6 (List.mem_of_getElem? (i := 49) (by decide +kernel))) rfl
theorem k_1590 : Cond.methodLink RX11 173 yX11_isDigit ∈ BIG := mB (tb_6 (List.mem_of_getElem? (i := 50) (by decide +kernel))) rfl
theorem k_1591 : Cond.static yX11_isDigit ∈ BIG := mB (tb_6 (List.mem_of_getElem? (i := 51) (by decide +kernel))) rfl
theorem k_1592 : Cond.code yX11_isDigit cX11_isDigit 1 (some .boolean) ∈ BIG := mB (tb_6 (List.mem_of_getElem? (i := 52) (by decide +kernel))) rfl
theorem k_1593 : Cond.methodLink RX11 176 yX11_isSign ∈ BIG := mB (tb_6 (List.mem_of_getElem? (i := 53) (by decide +kernel))) rfl
theorem k_1594 : Cond.static yX11_isSign ∈ BIG := mB (tb_6 (List.mem_of_getElem? (i := 54) (by decide +kernel))) rfl
theorem k_1595 : Cond.code yX11_isSign cX11_isSign 1 (some .boolean) ∈ BIG := mB (tb_6 (List.mem_of_getElem? (i := 55) (by decide +kernel))) rfl
theorem k_1596 : Cond.methodLink RX11 381 yX11_readLine ∈ BIG := mB (tb_6 (List.mem_of_getElem? (i := 56) (by decide +kernel))) rfl
theorem k_1598 : Cond.instanceMethod yX11_readLine ∈ BIG := mB (tb_6 (List.mem_of_getElem? (i := 58) (by decide +kernel))) rfl
theorem k_1599 : Cond.code yX11_readLine cX11_readLine 1 none ∈ BIG := mB (tb_6 (List.mem_of_getElem? (i := 59) (by decide +kernel))) rfl
theorem k_1600 : Cond.constantLong RX11 182 7168366 ∈ BIG := mB (tb_6 (List.mem_of_getElem? (i := 60) (by decide +kernel))) rfl
theorem k_1601 : Cond.methodLink RX11 228 yX11_isWord ∈ BIG := mB (tb_6 (List.mem_of_getElem? (i := 61) (by decide +kernel))) rfl
theorem k_1603 : Cond.instanceMethod yX11_isWord ∈ BIG := mB (tb_6 (List.mem_of_getElem? (i := 63) (by decide +kernel))) rfl
theorem k_1604 : Cond.code yX11_isWord cX11_isWord 3 (some .boolean) ∈ BIG := mB (tb_6 (List.mem_of_getElem? (i := 64) (by decide +kernel))) rfl
theorem k_1605 : Cond.methodLink RX11 342 yX11_readMan ∈ BIG := mB (tb_6 (List.mem_of_getElem? (i := 65) (by decide +kernel))) rfl
theorem k_1607 : Cond.instanceMethod yX11_readMan ∈ BIG := mB (tb_6 (List.mem_of_getElem? (i := 67) (by decide +kernel))) rfl
theorem k_1608 : Cond.code yX11_readMan cX11_readMan 1 none ∈ BIG := mB (tb_6 (List.mem_of_getElem? (i := 68) (by decide +kernel))) rfl
theorem k_1609 : Cond.methodLink RX11 333 yX11_newName ∈ BIG := mB (tb_6 (List.mem_of_getElem? (i := 69) (by decide +kernel))) rfl
theorem k_1611 : Cond.instanceMethod yX11_newName ∈ BIG := mB (tb_6 (List.mem_of_getElem? (i := 71) (by decide +kernel))) rfl
theorem k_1612 : Cond.code yX11_newName cX11_newName 4 none ∈ BIG := mB (tb_6 (List.mem_of_getElem? (i := 72) (by decide +kernel))) rfl
theorem k_1613 : Cond.methodLink RX11 250 yX11_isName ∈ BIG := mB (tb_6 (List.mem_of_getElem? (i := 73) (by decide +kernel))) rfl
theorem k_1615 : Cond.instanceMethod yX11_isName ∈ BIG := mB (tb_6 (List.mem_of_getElem? (i := 75) (by decide +kernel))) rfl
theorem k_1616 : Cond.code yX11_isName cX11_isName 1 (some .boolean) ∈ BIG := mB (tb_6 (List.mem_of_getElem? (i := 76) (by decide +kernel))) rfl
theorem k_1617 : Cond.methodLink RX11 224 yX11_isOwn ∈ BIG := mB (tb_6 (List.mem_of_getElem? (i := 77) (by decide +kernel))) rfl
theorem k_1619 : Cond.instanceMethod yX11_isOwn ∈ BIG := mB (tb_6 (List.mem_of_getElem? (i := 79) (by decide +kernel))) rfl
theorem k_1620 : Cond.code yX11_isOwn cX11_isOwn 1 (some .boolean) ∈ BIG := mB (tb_6 (List.mem_of_getElem? (i := 80) (by decide +kernel))) rfl
theorem k_1621 : Cond.constantLong RX11 184 1952541804 ∈ BIG := mB (tb_6 (List.mem_of_getElem? (i := 81) (by decide +kernel))) rfl
theorem k_1622 : Cond.constantLong RX11 186 2003395685 ∈ BIG := mB (tb_6 (List.mem_of_getElem? (i := 82) (by decide +kernel))) rfl
theorem k_1623 : Cond.constantLong RX11 188 444301539187 ∈ BIG := mB (tb_6 (List.mem_of_getElem? (i := 83) (by decide +kernel))) rfl
theorem k_1624 : Cond.constantLong RX11 190 1668243828 ∈ BIG := mB (tb_6 (List.mem_of_getElem? (i := 84) (by decide +kernel))) rfl
theorem k_1625 : Cond.constantLong RX11 192 1936023917 ∈ BIG := mB (tb_6 (List.mem_of_getElem? (i := 85) (by decide +kernel))) rfl
theorem k_1626 : Cond.constantLong RX11 194 2003792494 ∈ BIG := mB (tb_6 (List.mem_of_getElem? (i := 86) (by decide +kernel))) rfl
theorem k_1627 : Cond.constantLong RX11 196 6909036 ∈ BIG := mB (tb_6 (List.mem_of_getElem? (i := 87) (by decide +kernel))) rfl
theorem k_1628 : Cond.constantLong RX11 198 1700885369 ∈ BIG := mB (tb_6 (List.mem_of_getElem? (i := 88) (by decide +kernel))) rfl
theorem k_1629 : Cond.constantLong RX11 200 1651469428 ∈ BIG := mB (tb_6 (List.mem_of_getElem? (i := 89) (by decide +kernel))) rfl
theorem k_1630 : Cond.constantLong RX11 202 1818848101 ∈ BIG := mB (tb_6 (List.mem_of_getElem? (i := 90) (by decide +kernel))) rfl
theorem k_1631 : Cond.constantLong RX11 204 1918986606 ∈ BIG := mB (tb_6 (List.mem_of_getElem? (i := 91) (by decide +kernel))) rfl
theorem k_1632 : Cond.constantLong RX11 206 1685217655 ∈ BIG := mB (tb_6 (List.mem_of_getElem? (i := 92) (by decide +kernel))) rfl
theorem k_1633 : Cond.constantLong RX11 208 499984590964 ∈ BIG := mB (tb_6 (List.mem_of_getElem? (i := 93) (by decide +kernel))) rfl
theorem k_1634 : Cond.constantLong RX11 210 465726042981 ∈ BIG := mB (tb_6 (List.mem_of_getElem? (i := 94) (by decide +kernel))) rfl
theorem k_1635 : Cond.constantLong RX11 212 495673373300 ∈ BIG := mB (tb_6 (List.mem_of_getElem? (i := 95) (by decide +kernel))) rfl
theorem k_1636 : Cond.constantLong RX11 214 1819242087 ∈ BIG := mB (tb_6 (List.mem_of_getElem? (i := 96) (by decide +kernel))) rfl
theorem k_1637 : Cond.constantLong RX11 216 6578553 ∈ BIG := mB (tb_6 (List.mem_of_getElem? (i := 97) (by decide +kernel))) rfl
theorem k_1638 : Cond.constantLong RX11 218 6385252 ∈ BIG := mB (tb_6 (List.mem_of_getElem? (i := 98) (by decide +kernel))) rfl
theorem k_1639 : Cond.constantLong RX11 220 28530 ∈ BIG := mB (tb_6 (List.mem_of_getElem? (i := 99) (by decide +kernel))) rfl
theorem k_1640 : Cond.constantLong RX11 222 7237492 ∈ BIG := mB (tb_6 (List.mem_of_getElem? (i := 100) (by decide +kernel))) rfl
theorem k_1641 : Cond.methodLink RX11 232 yX11_wrong ∈ BIG := mB (tb_6 (List.mem_of_getElem? (i := 101) (by decide +kernel))) rfl
theorem k_1643 : Cond.instanceMethod yX11_wrong ∈ BIG := mB (tb_6 (List.mem_of_getElem? (i := 103) (by decide +kernel))) rfl
theorem k_1644 : Cond.code yX11_wrong cX11_wrong 2 none ∈ BIG := mB (tb_6 (List.mem_of_getElem? (i := 104) (by decide +kernel))) rfl
theorem k_1645 : Cond.methodLink RX11 246 yX11_told ∈ BIG := mB (tb_6 (List.mem_of_getElem? (i := 105) (by decide +kernel))) rfl
theorem k_1647 : Cond.instanceMethod yX11_told ∈ BIG := mB (tb_6 (List.mem_of_getElem? (i := 107) (by decide +kernel))) rfl
theorem k_1648 : Cond.code yX11_told cX11_told 4 (some .int) ∈ BIG := mB (tb_6 (List.mem_of_getElem? (i := 108) (by decide +kernel))) rfl
theorem k_1649 : Cond.methodLink RX11 238 yX11_want ∈ BIG := mB (tb_6 (List.mem_of_getElem? (i := 109) (by decide +kernel))) rfl
theorem k_1651 : Cond.instanceMethod yX11_want ∈ BIG := mB (tb_6 (List.mem_of_getElem? (i := 111) (by decide +kernel))) rfl
theorem k_1652 : Cond.code yX11_want cX11_want 3 none ∈ BIG := mB (tb_6 (List.mem_of_getElem? (i := 112) (by decide +kernel))) rfl
theorem k_1653 : Cond.methodLink RX11 242 yX11_toldNumber ∈ BIG := mB (tb_6 (List.mem_of_getElem? (i := 113) (by decide +kernel))) rfl
theorem k_1655 : Cond.instanceMethod yX11_toldNumber ∈ BIG := mB (tb_6 (List.mem_of_getElem? (i := 115) (by decide +kernel))) rfl
theorem k_1656 : Cond.code yX11_toldNumber cX11_toldNumber 4 (some .int) ∈ BIG := mB (tb_6 (List.mem_of_getElem? (i := 116) (by decide +kernel))) rfl
theorem k_1657 : Cond.methodLink RX11 336 yX11_option ∈ BIG := mB (tb_6 (List.mem_of_getElem? (i := 117) (by decide +kernel))) rfl
theorem k_1659 : Cond.instanceMethod yX11_option ∈ BIG := mB (tb_6 (List.mem_of_getElem? (i := 119) (by decide +kernel))) rfl
theorem k_1660 : Cond.code yX11_option cX11_option 4 (some .int) ∈ BIG := mB (tb_6 (List.mem_of_getElem? (i := 120) (by decide +kernel))) rfl
theorem k_1661 : Cond.methodLink RX11 345 yX11_readCoat ∈ BIG := mB (tb_6 (List.mem_of_getElem? (i := 121) (by decide +kernel))) rfl
theorem k_1663 : Cond.instanceMethod yX11_readCoat ∈ BIG := mB (tb_6 (List.mem_of_getElem? (i := 123) (by decide +kernel))) rfl
theorem k_1664 : Cond.code yX11_readCoat cX11_readCoat 1 none ∈ BIG := mB (tb_6 (List.mem_of_getElem? (i := 124) (by decide +kernel))) rfl
theorem k_1665 : Cond.methodLink RX11 348 yX11_formula ∈ BIG := mB (tb_6 (List.mem_of_getElem? (i := 125) (by decide +kernel))) rfl
theorem k_1667 : Cond.instanceMethod yX11_formula ∈ BIG := mB (tb_6 (List.mem_of_getElem? (i := 127) (by decide +kernel))) rfl
theorem k_1668 : Cond.code yX11_formula cX11_formula 3 none ∈ BIG := mB (tb_6 (List.mem_of_getElem? (i := 128) (by decide +kernel))) rfl
theorem k_1669 : Cond.methodLink RX11 295 yX11_unit ∈ BIG := mB (tb_6 (List.mem_of_getElem? (i := 129) (by decide +kernel))) rfl
theorem k_1671 : Cond.instanceMethod yX11_unit ∈ BIG := mB (tb_6 (List.mem_of_getElem? (i := 131) (by decide +kernel))) rfl
theorem k_1672 : Cond.code yX11_unit cX11_unit 3 none ∈ BIG := mB (tb_6 (List.mem_of_getElem? (i := 132) (by decide +kernel))) rfl
theorem k_1673 : Cond.methodLink RX11 275 yX11_mayNot ∈ BIG := mB (tb_6 (List.mem_of_getElem? (i := 133) (by decide +kernel))) rfl
theorem k_1675 : Cond.instanceMethod yX11_mayNot ∈ BIG := mB (tb_6 (List.mem_of_getElem? (i := 135) (by decide +kernel))) rfl
theorem k_1676 : Cond.code yX11_mayNot cX11_mayNot 1 (some .boolean) ∈ BIG := mB (tb_6 (List.mem_of_getElem? (i := 136) (by decide +kernel))) rfl
theorem k_1677 : Cond.methodLink RX11 259 yX11_tight ∈ BIG := mB (tb_6 (List.mem_of_getElem? (i := 137) (by decide +kernel))) rfl
theorem k_1678 : Cond.static yX11_tight ∈ BIG := mB (tb_6 (List.mem_of_getElem? (i := 138) (by decide +kernel))) rfl
theorem k_1679 : Cond.code yX11_tight cX11_tight 1 (some .int) ∈ BIG := mB (tb_6 (List.mem_of_getElem? (i := 139) (by decide +kernel))) rfl
theorem k_1680 : Cond.methodLink RX11 278 yX11_openUp ∈ BIG := mB (tb_6 (List.mem_of_getElem? (i := 140) (by decide +kernel))) rfl
theorem k_1682 : Cond.instanceMethod yX11_openUp ∈ BIG := mB (tb_6 (List.mem_of_getElem? (i := 142) (by decide +kernel))) rfl
theorem k_1683 : Cond.code yX11_openUp cX11_openUp 2 none ∈ BIG := mB (tb_6 (List.mem_of_getElem? (i := 143) (by decide +kernel))) rfl
theorem k_1684 : Cond.methodLink RX11 281 yX11_isFull ∈ BIG := mB (tb_6 (List.mem_of_getElem? (i := 144) (by decide +kernel))) rfl
theorem k_1686 : Cond.instanceMethod yX11_isFull ∈ BIG := mB (tb_6 (List.mem_of_getElem? (i := 146) (by decide +kernel))) rfl
theorem k_1687 : Cond.code yX11_isFull cX11_isFull 1 (some .boolean) ∈ BIG := mB (tb_6 (List.mem_of_getElem? (i := 147) (by decide +kernel))) rfl
theorem k_1688 : Cond.methodLink RX11 284 yX11_countUnit ∈ BIG := mB (tb_6 (List.mem_of_getElem? (i := 148) (by decide +kernel))) rfl
theorem k_1690 : Cond.instanceMethod yX11_countUnit ∈ BIG := mB (tb_6 (List.mem_of_getElem? (i := 150) (by decide +kernel))) rfl
theorem k_1691 : Cond.code yX11_countUnit cX11_countUnit 1 none ∈ BIG := mB (tb_6 (List.mem_of_getElem? (i := 151) (by decide +kernel))) rfl
theorem k_1692 : Cond.methodLink RX11 287 yX11_asked ∈ BIG := mB (tb_6 (List.mem_of_getElem? (i := 152) (by decide +kernel))) rfl
theorem k_1694 : Cond.instanceMethod yX11_asked ∈ BIG := mB (tb_6 (List.mem_of_getElem? (i := 154) (by decide +kernel))) rfl
theorem k_1695 : Cond.code yX11_asked cX11_asked 1 (some .int) ∈ BIG := mB (tb_6 (List.mem_of_getElem? (i := 155) (by decide +kernel))) rfl
theorem k_1696 : Cond.methodLink RX11 262 yX11_add ∈ BIG := mB (tb_6 (List.mem_of_getElem? (i := 156) (by decide +kernel))) rfl
theorem k_1698 : Cond.instanceMethod yX11_add ∈ BIG := mB (tb_6 (List.mem_of_getElem? (i := 158) (by decide +kernel))) rfl
theorem k_1699 : Cond.code yX11_add cX11_add 3 none ∈ BIG := mB (tb_6 (List.mem_of_getElem? (i := 159) (by decide +kernel))) rfl
theorem k_1700 : Cond.methodLink RX11 298 yX11_sign ∈ BIG := mB (tb_6 (List.mem_of_getElem? (i := 160) (by decide +kernel))) rfl
theorem k_1702 : Cond.instanceMethod yX11_sign ∈ BIG := mB (tb_6 (List.mem_of_getElem? (i := 162) (by decide +kernel))) rfl
theorem k_1703 : Cond.code yX11_sign cX11_sign 1 (some .int) ∈ BIG := mB (tb_6 (List.mem_of_getElem? (i := 163) (by decide +kernel))) rfl
theorem k_1704 : Cond.methodLink RX11 301 yX11_hasBracket ∈ BIG := mB (tb_6 (List.mem_of_getElem? (i := 164) (by decide +kernel))) rfl
theorem k_1706 : Cond.instanceMethod yX11_hasBracket ∈ BIG := mB (tb_6 (List.mem_of_getElem? (i := 166) (by decide +kernel))) rfl
theorem k_1707 : Cond.code yX11_hasBracket cX11_hasBracket 3 (some .boolean) ∈ BIG := mB (tb_6 (List.mem_of_getElem? (i := 167) (by decide +kernel))) rfl
theorem k_1708 : Cond.methodLink RX11 304 yX11_close ∈ BIG := mB (tb_6 (List.mem_of_getElem? (i := 168) (by decide +kernel))) rfl
theorem k_1710 : Cond.instanceMethod yX11_close ∈ BIG := mB (tb_6 (List.mem_of_getElem? (i := 170) (by decide +kernel))) rfl
theorem k_1711 : Cond.code yX11_close cX11_close 2 none ∈ BIG := mB (tb_6 (List.mem_of_getElem? (i := 171) (by decide +kernel))) rfl
theorem k_1712 : Cond.methodLink RX11 307 yX11_hasRelation ∈ BIG := mB (tb_6 (List.mem_of_getElem? (i := 172) (by decide +kernel))) rfl
theorem k_1714 : Cond.instanceMethod yX11_hasRelation ∈ BIG := mB (tb_6 (List.mem_of_getElem? (i := 174) (by decide +kernel))) rfl
theorem k_1715 : Cond.code yX11_hasRelation cX11_hasRelation 2 (some .boolean) ∈ BIG := mB (tb_6 (List.mem_of_getElem? (i := 175) (by decide +kernel))) rfl
theorem k_1716 : Cond.methodLink RX11 399 yX11_begin ∈ BIG := mB (tb_6 (List.mem_of_getElem? (i := 176) (by decide +kernel))) rfl
theorem k_1718 : Cond.instanceMethod yX11_begin ∈ BIG := mB (tb_6 (List.mem_of_getElem? (i := 178) (by decide +kernel))) rfl
theorem k_1719 : Cond.code yX11_begin cX11_begin 2 none ∈ BIG := mB (tb_6 (List.mem_of_getElem? (i := 179) (by decide +kernel))) rfl
theorem k_1720 : Cond.methodLink RX11 402 yX11_keepAir ∈ BIG := mB (tb_6 (List.mem_of_getElem? (i := 180) (by decide +kernel))) rfl
theorem k_1722 : Cond.instanceMethod yX11_keepAir ∈ BIG := mB (tb_6 (List.mem_of_getElem? (i := 182) (by decide +kernel))) rfl
theorem k_1723 : Cond.code yX11_keepAir cX11_keepAir 2 none ∈ BIG := mB (tb_6 (List.mem_of_getElem? (i := 183) (by decide +kernel))) rfl
theorem k_1724 : Cond.methodLink RL 31 yX11_fault ∈ BIG := mB (tb_6 (List.mem_of_getElem? (i := 184) (by decide +kernel))) rfl
theorem k_1725 : Cond.instanceMethod yX11_fault ∈ BIG := mB (tb_6 (List.mem_of_getElem? (i := 185) (by decide +kernel))) rfl
theorem k_1726 : Cond.selects RX11 yX11_fault yX11_fault ∈ BIG := mB (tb_6 (List.mem_of_getElem? (i := 186) (by decide +kernel))) rfl
theorem k_1727 : Cond.code yX11_fault cX11_fault 2 (some .int) ∈ BIG := mB (tb_6 (List.mem_of_getElem? (i := 187) (by decide +kernel))) rfl
theorem k_1728 : Cond.methodLink RL 36 yX11_man ∈ BIG := mB (tb_6 (List.mem_of_getElem? (i := 188) (by decide +kernel))) rfl
theorem k_1729 : Cond.instanceMethod yX11_man ∈ BIG := mB (tb_6 (List.mem_of_getElem? (i := 189) (by decide +kernel))) rfl
theorem k_1730 : Cond.selects RX11 yX11_man yX11_man ∈ BIG := mB (tb_6 (List.mem_of_getElem? (i := 190) (by decide +kernel))) rfl
theorem k_1731 : Cond.code yX11_man cX11_man 3 (some .int) ∈ BIG := mB (tb_6 (List.mem_of_getElem? (i := 191) (by decide +kernel))) rfl
theorem k_1732 : Cond.methodLink RX11 446 yX11_isMan ∈ BIG := mB (tb_6 (List.mem_of_getElem? (i := 192) (by decide +kernel))) rfl
theorem k_1734 : Cond.instanceMethod yX11_isMan ∈ BIG := mB (tb_6 (List.mem_of_getElem? (i := 194) (by decide +kernel))) rfl
theorem k_1735 : Cond.code yX11_isMan cX11_isMan 2 (some .boolean) ∈ BIG := mB (tb_6 (List.mem_of_getElem? (i := 195) (by decide +kernel))) rfl
theorem k_1736 : Cond.methodLink RX11 417 yX11_isIn ∈ BIG := mB (tb_6 (List.mem_of_getElem? (i := 196) (by decide +kernel))) rfl
theorem k_1737 : Cond.static yX11_isIn ∈ BIG := mB (tb_6 (List.mem_of_getElem? (i := 197) (by decide +kernel))) rfl
theorem k_1738 : Cond.code yX11_isIn cX11_isIn 3 (some .boolean) ∈ BIG := mB (tb_6 (List.mem_of_getElem? (i := 198) (by decide +kernel))) rfl
theorem k_1739 : Cond.methodLink RX11 449 yX11_fill ∈ BIG := mB (tb_6 (List.mem_of_getElem? (i := 199) (by decide +kernel))) rfl
theorem k_1741 : Cond.instanceMethod yX11_fill ∈ BIG := mB (tb_6 (List.mem_of_getElem? (i := 201) (by decide +kernel))) rfl
theorem k_1742 : Cond.code yX11_fill cX11_fill 2 none ∈ BIG := mB (tb_6 (List.mem_of_getElem? (i := 202) (by decide +kernel))) rfl
theorem k_1743 : Cond.methodLink RX11 452 yX11_coatsFor ∈ BIG := mB (tb_6 (List.mem_of_getElem? (i := 203) (by decide +kernel))) rfl
theorem k_1745 : Cond.instanceMethod yX11_coatsFor ∈ BIG := mB (tb_6 (List.mem_of_getElem? (i := 205) (by decide +kernel))) rfl
theorem k_1746 : Cond.code yX11_coatsFor cX11_coatsFor 4 (some .int) ∈ BIG := mB (tb_6 (List.mem_of_getElem? (i := 206) (by decide +kernel))) rfl
theorem k_1747 : Cond.methodLink RX11 424 yX11_fits ∈ BIG := mB (tb_6 (List.mem_of_getElem? (i := 207) (by decide +kernel))) rfl
theorem k_1749 : Cond.instanceMethod yX11_fits ∈ BIG := mB (tb_6 (List.mem_of_getElem? (i := 209) (by decide +kernel))) rfl
theorem k_1750 : Cond.code yX11_fits cX11_fits 3 (some .boolean) ∈ BIG := mB (tb_6 (List.mem_of_getElem? (i := 210) (by decide +kernel))) rfl
theorem k_1751 : Cond.methodLink RX11 421 yX11_misfitOf ∈ BIG := mB (tb_6 (List.mem_of_getElem? (i := 211) (by decide +kernel))) rfl
theorem k_1753 : Cond.instanceMethod yX11_misfitOf ∈ BIG := mB (tb_6 (List.mem_of_getElem? (i := 213) (by decide +kernel))) rfl
theorem k_1754 : Cond.code yX11_misfitOf cX11_misfitOf 5 (some .int) ∈ BIG := mB (tb_6 (List.mem_of_getElem? (i := 214) (by decide +kernel))) rfl
theorem k_1755 : Cond.methodLink RX11 314 yX11_over ∈ BIG := mB (tb_6 (List.mem_of_getElem? (i := 215) (by decide +kernel))) rfl
theorem k_1756 : Cond.static yX11_over ∈ BIG := mB (tb_6 (List.mem_of_getElem? (i := 216) (by decide +kernel))) rfl
theorem k_1757 : Cond.code yX11_over cX11_over 2 (some .int) ∈ BIG := mB (tb_6 (List.mem_of_getElem? (i := 217) (by decide +kernel))) rfl
theorem k_1758 : Cond.methodLink RX11 320 yX11_within ∈ BIG := mB (tb_6 (List.mem_of_getElem? (i := 218) (by decide +kernel))) rfl
theorem k_1759 : Cond.static yX11_within ∈ BIG := mB (tb_6 (List.mem_of_getElem? (i := 219) (by decide +kernel))) rfl
theorem k_1760 : Cond.code yX11_within cX11_within 2 (some .int) ∈ BIG := mB (tb_6 (List.mem_of_getElem? (i := 220) (by decide +kernel))) rfl
theorem k_1761 : Cond.methodLink RX11 310 yX11_truth ∈ BIG := mB (tb_6 (List.mem_of_getElem? (i := 221) (by decide +kernel))) rfl
theorem k_1762 : Cond.static yX11_truth ∈ BIG := mB (tb_6 (List.mem_of_getElem? (i := 222) (by decide +kernel))) rfl
theorem k_1763 : Cond.code yX11_truth cX11_truth 1 (some .int) ∈ BIG := mB (tb_6 (List.mem_of_getElem? (i := 223) (by decide +kernel))) rfl
theorem k_1764 : Cond.methodLink RX11 326 yX11_done ∈ BIG := mB (tb_6 (List.mem_of_getElem? (i := 224) (by decide +kernel))) rfl
theorem k_1765 : Cond.static yX11_done ∈ BIG := mB (tb_6 (List.mem_of_getElem? (i := 225) (by decide +kernel))) rfl
theorem k_1766 : Cond.code yX11_done cX11_done 3 (some .int) ∈ BIG := mB (tb_6 (List.mem_of_getElem? (i := 226) (by decide +kernel))) rfl
theorem k_1767 : Cond.methodLink RL 40 yX11_coat ∈ BIG := mB (tb_6 (List.mem_of_getElem? (i := 227) (by decide +kernel))) rfl
theorem k_1768 : Cond.instanceMethod yX11_coat ∈ BIG := mB (tb_6 (List.mem_of_getElem? (i := 228) (by decide +kernel))) rfl
theorem k_1769 : Cond.selects RX11 yX11_coat yX11_coat ∈ BIG := mB (tb_6 (List.mem_of_getElem? (i := 229) (by decide +kernel))) rfl
theorem k_1770 : Cond.code yX11_coat cX11_coat 3 (some .int) ∈ BIG := mB (tb_6 (List.mem_of_getElem? (i := 230) (by decide +kernel))) rfl
theorem k_1771 : Cond.methodLink RX11 455 yX11_isCoat ∈ BIG := mB (tb_6 (List.mem_of_getElem? (i := 231) (by decide +kernel))) rfl
theorem k_1773 : Cond.instanceMethod yX11_isCoat ∈ BIG := mB (tb_6 (List.mem_of_getElem? (i := 233) (by decide +kernel))) rfl
theorem k_1774 : Cond.code yX11_isCoat cX11_isCoat 2 (some .boolean) ∈ BIG := mB (tb_6 (List.mem_of_getElem? (i := 234) (by decide +kernel))) rfl
theorem k_1775 : Cond.methodLink RX11 434 yX11_wearer ∈ BIG := mB (tb_6 (List.mem_of_getElem? (i := 235) (by decide +kernel))) rfl
theorem k_1777 : Cond.instanceMethod yX11_wearer ∈ BIG := mB (tb_6 (List.mem_of_getElem? (i := 237) (by decide +kernel))) rfl
theorem k_1778 : Cond.code yX11_wearer cX11_wearer 4 (some .int) ∈ BIG := mB (tb_6 (List.mem_of_getElem? (i := 238) (by decide +kernel))) rfl
theorem k_1779 : Cond.methodLink RL 44 yX11_misfit ∈ BIG := mB (tb_6 (List.mem_of_getElem? (i := 239) (by decide +kernel))) rfl
theorem k_1780 : Cond.instanceMethod yX11_misfit ∈ BIG := mB (tb_7 (List.mem_of_getElem? (i := 0) (by decide +kernel))) rfl
theorem k_1781 : Cond.selects RX11 yX11_misfit yX11_misfit ∈ BIG := mB (tb_7 (List.mem_of_getElem? (i := 1) (by decide +kernel))) rfl
theorem k_1782 : Cond.code yX11_misfit cX11_misfit 3 (some .int) ∈ BIG := mB (tb_7 (List.mem_of_getElem? (i := 2) (by decide +kernel))) rfl
theorem k_1783 : Cond.methodLink RL 48 yX11_day ∈ BIG := mB (tb_7 (List.mem_of_getElem? (i := 3) (by decide +kernel))) rfl
theorem k_1784 : Cond.instanceMethod yX11_day ∈ BIG := mB (tb_7 (List.mem_of_getElem? (i := 4) (by decide +kernel))) rfl
theorem k_1785 : Cond.selects RX11 yX11_day yX11_day ∈ BIG := mB (tb_7 (List.mem_of_getElem? (i := 5) (by decide +kernel))) rfl
theorem k_1786 : Cond.code yX11_day cX11_day 3 (some .int) ∈ BIG := mB (tb_7 (List.mem_of_getElem? (i := 6) (by decide +kernel))) rfl
theorem k_1787 : Cond.methodLink RX11 458 yX11_act ∈ BIG := mB (tb_7 (List.mem_of_getElem? (i := 7) (by decide +kernel))) rfl
theorem k_1789 : Cond.instanceMethod yX11_act ∈ BIG := mB (tb_7 (List.mem_of_getElem? (i := 9) (by decide +kernel))) rfl
theorem k_1790 : Cond.code yX11_act cX11_act 2 none ∈ BIG := mB (tb_7 (List.mem_of_getElem? (i := 10) (by decide +kernel))) rfl
theorem k_1791 : Cond.methodLink RX11 461 yX11_drawRain ∈ BIG := mB (tb_7 (List.mem_of_getElem? (i := 11) (by decide +kernel))) rfl
theorem k_1793 : Cond.instanceMethod yX11_drawRain ∈ BIG := mB (tb_7 (List.mem_of_getElem? (i := 13) (by decide +kernel))) rfl
theorem k_1794 : Cond.code yX11_drawRain cX11_drawRain 1 (some .boolean) ∈ BIG := mB (tb_7 (List.mem_of_getElem? (i := 14) (by decide +kernel))) rfl
theorem k_1795 : Cond.methodLink RX11 464 yX11_goDay ∈ BIG := mB (tb_7 (List.mem_of_getElem? (i := 15) (by decide +kernel))) rfl
theorem k_1797 : Cond.instanceMethod yX11_goDay ∈ BIG := mB (tb_7 (List.mem_of_getElem? (i := 17) (by decide +kernel))) rfl
theorem k_1798 : Cond.code yX11_goDay cX11_goDay 4 (some .int) ∈ BIG := mB (tb_7 (List.mem_of_getElem? (i := 18) (by decide +kernel))) rfl
theorem k_1799 : Cond.methodLink RX11 431 yX11_lesser ∈ BIG := mB (tb_7 (List.mem_of_getElem? (i := 19) (by decide +kernel))) rfl
theorem k_1800 : Cond.static yX11_lesser ∈ BIG := mB (tb_7 (List.mem_of_getElem? (i := 20) (by decide +kernel))) rfl
theorem k_1801 : Cond.code yX11_lesser cX11_lesser 2 (some .int) ∈ BIG := mB (tb_7 (List.mem_of_getElem? (i := 21) (by decide +kernel))) rfl
theorem k_1802 : Cond.methodLink RX11 437 yX11_greater ∈ BIG := mB (tb_7 (List.mem_of_getElem? (i := 22) (by decide +kernel))) rfl
theorem k_1803 : Cond.static yX11_greater ∈ BIG := mB (tb_7 (List.mem_of_getElem? (i := 23) (by decide +kernel))) rfl
theorem k_1804 : Cond.code yX11_greater cX11_greater 2 (some .int) ∈ BIG := mB (tb_7 (List.mem_of_getElem? (i := 24) (by decide +kernel))) rfl
theorem k_1805 : Cond.methodLink RX11 440 yX11_wearers ∈ BIG := mB (tb_7 (List.mem_of_getElem? (i := 25) (by decide +kernel))) rfl
theorem k_1807 : Cond.instanceMethod yX11_wearers ∈ BIG := mB (tb_7 (List.mem_of_getElem? (i := 27) (by decide +kernel))) rfl
theorem k_1808 : Cond.code yX11_wearers cX11_wearers 3 (some .int) ∈ BIG := mB (tb_7 (List.mem_of_getElem? (i := 28) (by decide +kernel))) rfl
theorem k_1809 : Cond.methodLink RX11 443 yX11_fittedOnes ∈ BIG := mB (tb_7 (List.mem_of_getElem? (i := 29) (by decide +kernel))) rfl
theorem k_1811 : Cond.instanceMethod yX11_fittedOnes ∈ BIG := mB (tb_7 (List.mem_of_getElem? (i := 31) (by decide +kernel))) rfl
theorem k_1812 : Cond.code yX11_fittedOnes cX11_fittedOnes 3 (some .int) ∈ BIG := mB (tb_7 (List.mem_of_getElem? (i := 32) (by decide +kernel))) rfl
theorem k_1813 : Cond.methodLink RX11 428 yX11_fitsOwn ∈ BIG := mB (tb_7 (List.mem_of_getElem? (i := 33) (by decide +kernel))) rfl
theorem k_1815 : Cond.instanceMethod yX11_fitsOwn ∈ BIG := mB (tb_7 (List.mem_of_getElem? (i := 35) (by decide +kernel))) rfl
theorem k_1816 : Cond.code yX11_fitsOwn cX11_fitsOwn 2 (some .boolean) ∈ BIG := mB (tb_7 (List.mem_of_getElem? (i := 36) (by decide +kernel))) rfl
theorem k_1817 : Cond.methodLink RL 52 yX11_don ∈ BIG := mB (tb_7 (List.mem_of_getElem? (i := 37) (by decide +kernel))) rfl
theorem k_1818 : Cond.instanceMethod yX11_don ∈ BIG := mB (tb_7 (List.mem_of_getElem? (i := 38) (by decide +kernel))) rfl
theorem k_1819 : Cond.selects RX11 yX11_don yX11_don ∈ BIG := mB (tb_7 (List.mem_of_getElem? (i := 39) (by decide +kernel))) rfl
theorem k_1820 : Cond.code yX11_don cX11_don 4 (some .int) ∈ BIG := mB (tb_7 (List.mem_of_getElem? (i := 40) (by decide +kernel))) rfl
theorem k_1821 : Cond.methodLink RL 56 yX11_doff ∈ BIG := mB (tb_7 (List.mem_of_getElem? (i := 41) (by decide +kernel))) rfl
theorem k_1822 : Cond.instanceMethod yX11_doff ∈ BIG := mB (tb_7 (List.mem_of_getElem? (i := 42) (by decide +kernel))) rfl
theorem k_1823 : Cond.selects RX11 yX11_doff yX11_doff ∈ BIG := mB (tb_7 (List.mem_of_getElem? (i := 43) (by decide +kernel))) rfl
theorem k_1824 : Cond.code yX11_doff cX11_doff 3 (some .int) ∈ BIG := mB (tb_7 (List.mem_of_getElem? (i := 44) (by decide +kernel))) rfl
theorem k_1825 : Cond.methodLink RL 60 yX11_letout ∈ BIG := mB (tb_7 (List.mem_of_getElem? (i := 45) (by decide +kernel))) rfl
theorem k_1826 : Cond.instanceMethod yX11_letout ∈ BIG := mB (tb_7 (List.mem_of_getElem? (i := 46) (by decide +kernel))) rfl
theorem k_1827 : Cond.selects RX11 yX11_letout yX11_letout ∈ BIG := mB (tb_7 (List.mem_of_getElem? (i := 47) (by decide +kernel))) rfl
theorem k_1828 : Cond.code yX11_letout cX11_letout 3 (some .int) ∈ BIG := mB (tb_7 (List.mem_of_getElem? (i := 48) (by decide +kernel))) rfl
theorem k_1829 : Cond.methodLink RL 64 yX11_takein ∈ BIG := mB (tb_7 (List.mem_of_getElem? (i := 49) (by decide +kernel))) rfl
theorem k_1830 : Cond.instanceMethod yX11_takein ∈ BIG := mB (tb_7 (List.mem_of_getElem? (i := 50) (by decide +kernel))) rfl
theorem k_1831 : Cond.selects RX11 yX11_takein yX11_takein ∈ BIG := mB (tb_7 (List.mem_of_getElem? (i := 51) (by decide +kernel))) rfl
theorem k_1832 : Cond.code yX11_takein cX11_takein 3 (some .int) ∈ BIG := mB (tb_7 (List.mem_of_getElem? (i := 52) (by decide +kernel))) rfl
theorem k_1833 : Cond.methodLink RL 68 yX11_hem ∈ BIG := mB (tb_7 (List.mem_of_getElem? (i := 53) (by decide +kernel))) rfl
theorem k_1834 : Cond.instanceMethod yX11_hem ∈ BIG := mB (tb_7 (List.mem_of_getElem? (i := 54) (by decide +kernel))) rfl
theorem k_1835 : Cond.selects RX11 yX11_hem yX11_hem ∈ BIG := mB (tb_7 (List.mem_of_getElem? (i := 55) (by decide +kernel))) rfl
theorem k_1836 : Cond.code yX11_hem cX11_hem 3 (some .int) ∈ BIG := mB (tb_7 (List.mem_of_getElem? (i := 56) (by decide +kernel))) rfl
theorem k_1837 : Cond.methodLink RL 72 yX11_turn ∈ BIG := mB (tb_7 (List.mem_of_getElem? (i := 57) (by decide +kernel))) rfl
theorem k_1838 : Cond.instanceMethod yX11_turn ∈ BIG := mB (tb_7 (List.mem_of_getElem? (i := 58) (by decide +kernel))) rfl
theorem k_1839 : Cond.selects RX11 yX11_turn yX11_turn ∈ BIG := mB (tb_7 (List.mem_of_getElem? (i := 59) (by decide +kernel))) rfl
theorem k_1840 : Cond.code yX11_turn cX11_turn 3 (some .int) ∈ BIG := mB (tb_7 (List.mem_of_getElem? (i := 60) (by decide +kernel))) rfl
theorem k_1841 : Cond.methodLink RL 77 yX11_undo ∈ BIG := mB (tb_7 (List.mem_of_getElem? (i := 61) (by decide +kernel))) rfl
theorem k_1842 : Cond.instanceMethod yX11_undo ∈ BIG := mB (tb_7 (List.mem_of_getElem? (i := 62) (by decide +kernel))) rfl
theorem k_1843 : Cond.selects RX11 yX11_undo yX11_undo ∈ BIG := mB (tb_7 (List.mem_of_getElem? (i := 63) (by decide +kernel))) rfl
theorem k_1844 : Cond.code yX11_undo cX11_undo 1 (some .boolean) ∈ BIG := mB (tb_7 (List.mem_of_getElem? (i := 64) (by decide +kernel))) rfl
theorem k_1845 : Cond.methodLink RX11 467 yX11_exchange ∈ BIG := mB (tb_7 (List.mem_of_getElem? (i := 65) (by decide +kernel))) rfl
theorem k_1847 : Cond.instanceMethod yX11_exchange ∈ BIG := mB (tb_7 (List.mem_of_getElem? (i := 67) (by decide +kernel))) rfl
theorem k_1848 : Cond.code yX11_exchange cX11_exchange 4 none ∈ BIG := mB (tb_7 (List.mem_of_getElem? (i := 68) (by decide +kernel))) rfl
theorem k_1849 : Cond.methodLink RL 81 yX11_redo ∈ BIG := mB (tb_7 (List.mem_of_getElem? (i := 69) (by decide +kernel))) rfl
theorem k_1850 : Cond.instanceMethod yX11_redo ∈ BIG := mB (tb_7 (List.mem_of_getElem? (i := 70) (by decide +kernel))) rfl
theorem k_1851 : Cond.selects RX11 yX11_redo yX11_redo ∈ BIG := mB (tb_7 (List.mem_of_getElem? (i := 71) (by decide +kernel))) rfl
theorem k_1852 : Cond.code yX11_redo cX11_redo 1 (some .boolean) ∈ BIG := mB (tb_7 (List.mem_of_getElem? (i := 72) (by decide +kernel))) rfl
theorem k_1853 : Cond.methodLink RL 86 yX11_will ∈ BIG := mB (tb_7 (List.mem_of_getElem? (i := 73) (by decide +kernel))) rfl
theorem k_1854 : Cond.instanceMethod yX11_will ∈ BIG := mB (tb_7 (List.mem_of_getElem? (i := 74) (by decide +kernel))) rfl
theorem k_1855 : Cond.selects RX11 yX11_will yX11_will ∈ BIG := mB (tb_7 (List.mem_of_getElem? (i := 75) (by decide +kernel))) rfl
theorem k_1856 : Cond.code yX11_will cX11_will 5 (some .int) ∈ BIG := mB (tb_7 (List.mem_of_getElem? (i := 76) (by decide +kernel))) rfl
theorem k_1857 : Cond.methodLink RL 90 yX11_out ∈ BIG := mB (tb_7 (List.mem_of_getElem? (i := 77) (by decide +kernel))) rfl
theorem k_1858 : Cond.instanceMethod yX11_out ∈ BIG := mB (tb_7 (List.mem_of_getElem? (i := 78) (by decide +kernel))) rfl
theorem k_1859 : Cond.selects RX11 yX11_out yX11_out ∈ BIG := mB (tb_7 (List.mem_of_getElem? (i := 79) (by decide +kernel))) rfl
theorem k_1860 : Cond.code yX11_out cX11_out 3 (some .int) ∈ BIG := mB (tb_7 (List.mem_of_getElem? (i := 80) (by decide +kernel))) rfl
theorem k_1861 : Cond.methodLink RL 162 yX11_rout ∈ BIG := mB (tb_7 (List.mem_of_getElem? (i := 81) (by decide +kernel))) rfl
theorem k_1862 : Cond.instanceMethod yX11_rout ∈ BIG := mB (tb_7 (List.mem_of_getElem? (i := 82) (by decide +kernel))) rfl
theorem k_1863 : Cond.selects RX11 yX11_rout yX11_rout ∈ BIG := mB (tb_7 (List.mem_of_getElem? (i := 83) (by decide +kernel))) rfl
theorem k_1864 : Cond.code yX11_rout cX11_rout 2 (some .int) ∈ BIG := mB (tb_7 (List.mem_of_getElem? (i := 84) (by decide +kernel))) rfl
theorem k_1865 : Cond.methodLink RL 94 yX11_fitted ∈ BIG := mB (tb_7 (List.mem_of_getElem? (i := 85) (by decide +kernel))) rfl
theorem k_1866 : Cond.instanceMethod yX11_fitted ∈ BIG := mB (tb_7 (List.mem_of_getElem? (i := 86) (by decide +kernel))) rfl
theorem k_1867 : Cond.selects RX11 yX11_fitted yX11_fitted ∈ BIG := mB (tb_7 (List.mem_of_getElem? (i := 87) (by decide +kernel))) rfl
theorem k_1868 : Cond.code yX11_fitted cX11_fitted 1 (some .int) ∈ BIG := mB (tb_7 (List.mem_of_getElem? (i := 88) (by decide +kernel))) rfl
theorem k_1869 : Cond.methodLink RL 98 yX11_dress ∈ BIG := mB (tb_7 (List.mem_of_getElem? (i := 89) (by decide +kernel))) rfl
theorem k_1870 : Cond.instanceMethod yX11_dress ∈ BIG := mB (tb_7 (List.mem_of_getElem? (i := 90) (by decide +kernel))) rfl
theorem k_1871 : Cond.selects RX11 yX11_dress yX11_dress ∈ BIG := mB (tb_7 (List.mem_of_getElem? (i := 91) (by decide +kernel))) rfl
theorem k_1872 : Cond.code yX11_dress cX11_dress 7 (some .int) ∈ BIG := mB (tb_7 (List.mem_of_getElem? (i := 92) (by decide +kernel))) rfl
theorem k_1873 : Cond.methodLink RX11 470 yX11_layIlls ∈ BIG := mB (tb_7 (List.mem_of_getElem? (i := 93) (by decide +kernel))) rfl
theorem k_1875 : Cond.instanceMethod yX11_layIlls ∈ BIG := mB (tb_7 (List.mem_of_getElem? (i := 95) (by decide +kernel))) rfl
theorem k_1876 : Cond.code yX11_layIlls cX11_layIlls 3 none ∈ BIG := mB (tb_7 (List.mem_of_getElem? (i := 96) (by decide +kernel))) rfl
theorem k_1877 : Cond.methodLink RX11 473 yX11_power ∈ BIG := mB (tb_7 (List.mem_of_getElem? (i := 97) (by decide +kernel))) rfl
theorem k_1878 : Cond.static yX11_power ∈ BIG := mB (tb_7 (List.mem_of_getElem? (i := 98) (by decide +kernel))) rfl
theorem k_1879 : Cond.code yX11_power cX11_power 4 (some .int) ∈ BIG := mB (tb_7 (List.mem_of_getElem? (i := 99) (by decide +kernel))) rfl
theorem k_1880 : Cond.methodLink RX11 476 yX11_layDress ∈ BIG := mB (tb_7 (List.mem_of_getElem? (i := 100) (by decide +kernel))) rfl
theorem k_1882 : Cond.instanceMethod yX11_layDress ∈ BIG := mB (tb_7 (List.mem_of_getElem? (i := 102) (by decide +kernel))) rfl
theorem k_1883 : Cond.code yX11_layDress cX11_layDress 7 (some .int) ∈ BIG := mB (tb_7 (List.mem_of_getElem? (i := 103) (by decide +kernel))) rfl
theorem k_1884 : Cond.methodLink RX11 479 yX11_illOfRow ∈ BIG := mB (tb_7 (List.mem_of_getElem? (i := 104) (by decide +kernel))) rfl
theorem k_1886 : Cond.instanceMethod yX11_illOfRow ∈ BIG := mB (tb_7 (List.mem_of_getElem? (i := 106) (by decide +kernel))) rfl
theorem k_1887 : Cond.code yX11_illOfRow cX11_illOfRow 3 (some .int) ∈ BIG := mB (tb_7 (List.mem_of_getElem? (i := 107) (by decide +kernel))) rfl
theorem k_1888 : Cond.methodLink RL 102 yX11_sewing ∈ BIG := mB (tb_7 (List.mem_of_getElem? (i := 108) (by decide +kernel))) rfl
theorem k_1889 : Cond.instanceMethod yX11_sewing ∈ BIG := mB (tb_7 (List.mem_of_getElem? (i := 109) (by decide +kernel))) rfl
theorem k_1890 : Cond.selects RX11 yX11_sewing yX11_sewing ∈ BIG := mB (tb_7 (List.mem_of_getElem? (i := 110) (by decide +kernel))) rfl
theorem k_1891 : Cond.code yX11_sewing cX11_sewing 10 (some .int) ∈ BIG := mB (tb_7 (List.mem_of_getElem? (i := 111) (by decide +kernel))) rfl
theorem k_1892 : Cond.methodLink RX11 482 yX11_isSewn ∈ BIG := mB (tb_7 (List.mem_of_getElem? (i := 112) (by decide +kernel))) rfl
theorem k_1894 : Cond.instanceMethod yX11_isSewn ∈ BIG := mB (tb_7 (List.mem_of_getElem? (i := 114) (by decide +kernel))) rfl
theorem k_1895 : Cond.code yX11_isSewn cX11_isSewn 5 (some .boolean) ∈ BIG := mB (tb_7 (List.mem_of_getElem? (i := 115) (by decide +kernel))) rfl
theorem k_1896 : Cond.methodLink RL 106 yX11_rota ∈ BIG := mB (tb_7 (List.mem_of_getElem? (i := 116) (by decide +kernel))) rfl
theorem k_1897 : Cond.instanceMethod yX11_rota ∈ BIG := mB (tb_7 (List.mem_of_getElem? (i := 117) (by decide +kernel))) rfl
theorem k_1898 : Cond.selects RX11 yX11_rota yX11_rota ∈ BIG := mB (tb_7 (List.mem_of_getElem? (i := 118) (by decide +kernel))) rfl
theorem k_1899 : Cond.code yX11_rota cX11_rota 6 (some .int) ∈ BIG := mB (tb_7 (List.mem_of_getElem? (i := 119) (by decide +kernel))) rfl
theorem k_1900 : Cond.methodLink RX11 486 yX11_members ∈ BIG := mB (tb_7 (List.mem_of_getElem? (i := 120) (by decide +kernel))) rfl
theorem k_1901 : Cond.static yX11_members ∈ BIG := mB (tb_7 (List.mem_of_getElem? (i := 121) (by decide +kernel))) rfl
theorem k_1902 : Cond.code yX11_members cX11_members 3 (some .int) ∈ BIG := mB (tb_7 (List.mem_of_getElem? (i := 122) (by decide +kernel))) rfl
theorem k_1903 : Cond.methodLink RL 110 yX11_change ∈ BIG := mB (tb_7 (List.mem_of_getElem? (i := 123) (by decide +kernel))) rfl
theorem k_1904 : Cond.instanceMethod yX11_change ∈ BIG := mB (tb_7 (List.mem_of_getElem? (i := 124) (by decide +kernel))) rfl
theorem k_1905 : Cond.selects RX11 yX11_change yX11_change ∈ BIG := mB (tb_7 (List.mem_of_getElem? (i := 125) (by decide +kernel))) rfl
theorem k_1906 : Cond.code yX11_change cX11_change 7 (some .int) ∈ BIG := mB (tb_7 (List.mem_of_getElem? (i := 126) (by decide +kernel))) rfl
theorem k_1907 : Cond.methodLink RX11 489 yX11_fitted ∈ BIG := mB (tb_7 (List.mem_of_getElem? (i := 127) (by decide +kernel))) rfl
theorem k_1908 : Cond.methodLink RL 114 yX11_front ∈ BIG := mB (tb_7 (List.mem_of_getElem? (i := 128) (by decide +kernel))) rfl
theorem k_1909 : Cond.instanceMethod yX11_front ∈ BIG := mB (tb_7 (List.mem_of_getElem? (i := 129) (by decide +kernel))) rfl
theorem k_1910 : Cond.selects RX11 yX11_front yX11_front ∈ BIG := mB (tb_7 (List.mem_of_getElem? (i := 130) (by decide +kernel))) rfl
theorem k_1911 : Cond.code yX11_front cX11_front 6 (some .int) ∈ BIG := mB (tb_7 (List.mem_of_getElem? (i := 131) (by decide +kernel))) rfl
theorem k_1912 : Cond.methodLink RX11 492 yX11_wideOf ∈ BIG := mB (tb_7 (List.mem_of_getElem? (i := 132) (by decide +kernel))) rfl
theorem k_1914 : Cond.instanceMethod yX11_wideOf ∈ BIG := mB (tb_7 (List.mem_of_getElem? (i := 134) (by decide +kernel))) rfl
theorem k_1915 : Cond.code yX11_wideOf cX11_wideOf 4 (some .int) ∈ BIG := mB (tb_7 (List.mem_of_getElem? (i := 135) (by decide +kernel))) rfl
theorem k_1916 : Cond.methodLink RL 118 yX11_wings ∈ BIG := mB (tb_7 (List.mem_of_getElem? (i := 136) (by decide +kernel))) rfl
theorem k_1917 : Cond.instanceMethod yX11_wings ∈ BIG := mB (tb_7 (List.mem_of_getElem? (i := 137) (by decide +kernel))) rfl
