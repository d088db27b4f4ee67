theorem m_1179 : Cond.fieldLink "AlgolJudgeModel" 96 "AlgolJudgeModel" "fault" "I" ∈ gT := gT_i (tb_5 _ (List.mem_of_getElem? (i := 100) (by decide +kernel))) rfl
theorem m_1180 : Cond.fieldLink "AlgolJudgeModel" 99 "AlgolJudgeModel" "worst" "I" ∈ gT := gT_i (tb_5 _ (List.mem_of_getElem? (i := 101) (by decide +kernel))) rfl
theorem m_1181 : Cond.fieldLink "AlgolJudgeModel" 109 "AlgolJudgeModel" "deep" "I" ∈ gT := gT_i (tb_5 _ (List.mem_of_getElem? (i := 102) (by decide +kernel))) rfl
theorem m_1182 : Cond.fieldLink "AlgolJudgeModel" 247 "AlgolJudgeModel" "owned" "[I" ∈ gT := gT_i (tb_5 _ (List.mem_of_getElem? (i := 103) (by decide +kernel))) rfl
theorem m_1183 : Cond.fieldLink "AlgolJudgeModel" 140 "AlgolJudgeModel" "declared" "[Z" ∈ gT := gT_i (tb_5 _ (List.mem_of_getElem? (i := 104) (by decide +kernel))) rfl
theorem m_1184 : Cond.fieldLink "AlgolJudgeModel" 258 "AlgolJudgeModel" "first" "[I" ∈ gT := gT_i (tb_5 _ (List.mem_of_getElem? (i := 105) (by decide +kernel))) rfl
theorem m_1185 : Cond.fieldLink "AlgolJudgeModel" 261 "AlgolJudgeModel" "last" "[I" ∈ gT := gT_i (tb_5 _ (List.mem_of_getElem? (i := 106) (by decide +kernel))) rfl
theorem m_1186 : Cond.fieldLink "AlgolJudgeModel" 190 "AlgolJudgeModel" "procedure" "I" ∈ gT := gT_i (tb_5 _ (List.mem_of_getElem? (i := 107) (by decide +kernel))) rfl
theorem m_1187 : Cond.fieldLink "AlgolJudgeModel" 210 "AlgolJudgeModel" "firstSegment" "I" ∈ gT := gT_i (tb_5 _ (List.mem_of_getElem? (i := 108) (by decide +kernel))) rfl
theorem m_1188 : Cond.fieldLink "AlgolJudgeModel" 204 "AlgolJudgeModel" "latestSegment" "I" ∈ gT := gT_i (tb_5 _ (List.mem_of_getElem? (i := 109) (by decide +kernel))) rfl
theorem m_1189 : Cond.fieldLink "AlgolJudgeModel" 276 "AlgolJudgeModel" "manyOf" "[I" ∈ gT := gT_i (tb_5 _ (List.mem_of_getElem? (i := 110) (by decide +kernel))) rfl
theorem m_1190 : Cond.fieldLink "AlgolJudgeModel" 279 "AlgolJudgeModel" "firstOf" "[I" ∈ gT := gT_i (tb_5 _ (List.mem_of_getElem? (i := 111) (by decide +kernel))) rfl
theorem m_1191 : Cond.fieldLink "AlgolJudgeModel" 290 "AlgolJudgeModel" "valued" "[I" ∈ gT := gT_i (tb_5 _ (List.mem_of_getElem? (i := 112) (by decide +kernel))) rfl
theorem m_1192 : Cond.fieldLink "AlgolJudgeModel" 466 "AlgolJudgeModel" "number" "[I" ∈ gT := gT_i (tb_5 _ (List.mem_of_getElem? (i := 113) (by decide +kernel))) rfl
theorem m_1193 : Cond.fieldLink "AlgolJudgeModel" 469 "AlgolJudgeModel" "meaning" "[I" ∈ gT := gT_i (tb_5 _ (List.mem_of_getElem? (i := 114) (by decide +kernel))) rfl
theorem m_1194 : Cond.fieldLink "AlgolJudgeModel" 472 "AlgolJudgeModel" "told" "[I" ∈ gT := gT_i (tb_5 _ (List.mem_of_getElem? (i := 115) (by decide +kernel))) rfl
theorem m_1195 : Cond.fieldLink "AlgolJudgeModel" 475 "AlgolJudgeModel" "many" "I" ∈ gT := gT_i (tb_5 _ (List.mem_of_getElem? (i := 116) (by decide +kernel))) rfl
theorem m_1196 : Cond.laysFinal "AlgolJudgeModel" "AlgolJudgeModel" "tape" "[B" ∈ gT := gT_i (tb_5 _ (List.mem_of_getElem? (i := 117) (by decide +kernel))) rfl
theorem m_1198 : Cond.lays "AlgolJudgeModel" "AlgolJudgeModel" "tapeMany" "I" ∈ gT := gT_i (tb_5 _ (List.mem_of_getElem? (i := 119) (by decide +kernel))) rfl
theorem m_1200 : Cond.laysFinal "AlgolJudgeModel" "AlgolJudgeModel" "kind" "[I" ∈ gT := gT_i (tb_5 _ (List.mem_of_getElem? (i := 121) (by decide +kernel))) rfl
theorem m_1202 : Cond.laysFinal "AlgolJudgeModel" "AlgolJudgeModel" "from" "[I" ∈ gT := gT_i (tb_5 _ (List.mem_of_getElem? (i := 123) (by decide +kernel))) rfl
theorem m_1204 : Cond.laysFinal "AlgolJudgeModel" "AlgolJudgeModel" "to" "[I" ∈ gT := gT_i (tb_5 _ (List.mem_of_getElem? (i := 125) (by decide +kernel))) rfl
theorem m_1206 : Cond.laysFinal "AlgolJudgeModel" "AlgolJudgeModel" "value" "[J" ∈ gT := gT_i (tb_5 _ (List.mem_of_getElem? (i := 127) (by decide +kernel))) rfl
theorem m_1208 : Cond.lays "AlgolJudgeModel" "AlgolJudgeModel" "at" "I" ∈ gT := gT_i (tb_5 _ (List.mem_of_getElem? (i := 129) (by decide +kernel))) rfl
theorem m_1210 : Cond.laysFinal "AlgolJudgeModel" "AlgolJudgeModel" "sort" "[I" ∈ gT := gT_i (tb_5 _ (List.mem_of_getElem? (i := 131) (by decide +kernel))) rfl
theorem m_1212 : Cond.laysFinal "AlgolJudgeModel" "AlgolJudgeModel" "start" "[I" ∈ gT := gT_i (tb_5 _ (List.mem_of_getElem? (i := 133) (by decide +kernel))) rfl
theorem m_1214 : Cond.laysFinal "AlgolJudgeModel" "AlgolJudgeModel" "one" "[I" ∈ gT := gT_i (tb_5 _ (List.mem_of_getElem? (i := 135) (by decide +kernel))) rfl
theorem m_1216 : Cond.laysFinal "AlgolJudgeModel" "AlgolJudgeModel" "two" "[I" ∈ gT := gT_i (tb_5 _ (List.mem_of_getElem? (i := 137) (by decide +kernel))) rfl
theorem m_1218 : Cond.laysFinal "AlgolJudgeModel" "AlgolJudgeModel" "three" "[I" ∈ gT := gT_i (tb_5 _ (List.mem_of_getElem? (i := 139) (by decide +kernel))) rfl
theorem m_1220 : Cond.laysFinal "AlgolJudgeModel" "AlgolJudgeModel" "four" "[I" ∈ gT := gT_i (tb_5 _ (List.mem_of_getElem? (i := 141) (by decide +kernel))) rfl
theorem m_1222 : Cond.laysFinal "AlgolJudgeModel" "AlgolJudgeModel" "next" "[I" ∈ gT := gT_i (tb_5 _ (List.mem_of_getElem? (i := 143) (by decide +kernel))) rfl
theorem m_1224 : Cond.laysFinal "AlgolJudgeModel" "AlgolJudgeModel" "where" "[I" ∈ gT := gT_i (tb_5 _ (List.mem_of_getElem? (i := 145) (by decide +kernel))) rfl
theorem m_1226 : Cond.lays "AlgolJudgeModel" "AlgolJudgeModel" "nodes" "I" ∈ gT := gT_i (tb_5 _ (List.mem_of_getElem? (i := 147) (by decide +kernel))) rfl
theorem m_1228 : Cond.laysFinal "AlgolJudgeModel" "AlgolJudgeModel" "word" "[I" ∈ gT := gT_i (tb_5 _ (List.mem_of_getElem? (i := 149) (by decide +kernel))) rfl
theorem m_1230 : Cond.laysFinal "AlgolJudgeModel" "AlgolJudgeModel" "what" "[I" ∈ gT := gT_i (tb_5 _ (List.mem_of_getElem? (i := 151) (by decide +kernel))) rfl
theorem m_1232 : Cond.laysFinal "AlgolJudgeModel" "AlgolJudgeModel" "type" "[I" ∈ gT := gT_i (tb_5 _ (List.mem_of_getElem? (i := 153) (by decide +kernel))) rfl
theorem m_1234 : Cond.laysFinal "AlgolJudgeModel" "AlgolJudgeModel" "home" "[I" ∈ gT := gT_i (tb_5 _ (List.mem_of_getElem? (i := 155) (by decide +kernel))) rfl
theorem m_1236 : Cond.laysFinal "AlgolJudgeModel" "AlgolJudgeModel" "level" "[I" ∈ gT := gT_i (tb_5 _ (List.mem_of_getElem? (i := 157) (by decide +kernel))) rfl
theorem m_1238 : Cond.laysFinal "AlgolJudgeModel" "AlgolJudgeModel" "slot" "[I" ∈ gT := gT_i (tb_5 _ (List.mem_of_getElem? (i := 159) (by decide +kernel))) rfl
theorem m_1240 : Cond.laysFinal "AlgolJudgeModel" "AlgolJudgeModel" "more" "[I" ∈ gT := gT_i (tb_5 _ (List.mem_of_getElem? (i := 161) (by decide +kernel))) rfl
theorem m_1242 : Cond.laysFinal "AlgolJudgeModel" "AlgolJudgeModel" "list" "[I" ∈ gT := gT_i (tb_5 _ (List.mem_of_getElem? (i := 163) (by decide +kernel))) rfl
theorem m_1244 : Cond.laysFinal "AlgolJudgeModel" "AlgolJudgeModel" "byValue" "[Z" ∈ gT := gT_i (tb_5 _ (List.mem_of_getElem? (i := 165) (by decide +kernel))) rfl
theorem m_1246 : Cond.laysFinal "AlgolJudgeModel" "AlgolJudgeModel" "specified" "[Z" ∈ gT := gT_i (tb_5 _ (List.mem_of_getElem? (i := 167) (by decide +kernel))) rfl
theorem m_1248 : Cond.laysFinal "AlgolJudgeModel" "AlgolJudgeModel" "isOwn" "[Z" ∈ gT := gT_i (tb_5 _ (List.mem_of_getElem? (i := 169) (by decide +kernel))) rfl
theorem m_1250 : Cond.lays "AlgolJudgeModel" "AlgolJudgeModel" "names" "I" ∈ gT := gT_i (tb_5 _ (List.mem_of_getElem? (i := 171) (by decide +kernel))) rfl
theorem m_1252 : Cond.laysFinal "AlgolJudgeModel" "AlgolJudgeModel" "around" "[I" ∈ gT := gT_i (tb_5 _ (List.mem_of_getElem? (i := 173) (by decide +kernel))) rfl
theorem m_1254 : Cond.laysFinal "AlgolJudgeModel" "AlgolJudgeModel" "scopeLevel" "[I" ∈ gT := gT_i (tb_5 _ (List.mem_of_getElem? (i := 175) (by decide +kernel))) rfl
theorem m_1256 : Cond.laysFinal "AlgolJudgeModel" "AlgolJudgeModel" "inside" "[I" ∈ gT := gT_i (tb_5 _ (List.mem_of_getElem? (i := 177) (by decide +kernel))) rfl
theorem m_1258 : Cond.lays "AlgolJudgeModel" "AlgolJudgeModel" "scopes" "I" ∈ gT := gT_i (tb_5 _ (List.mem_of_getElem? (i := 179) (by decide +kernel))) rfl
theorem m_1260 : Cond.lays "AlgolJudgeModel" "AlgolJudgeModel" "scope" "I" ∈ gT := gT_i (tb_5 _ (List.mem_of_getElem? (i := 181) (by decide +kernel))) rfl
theorem m_1262 : Cond.lays "AlgolJudgeModel" "AlgolJudgeModel" "fault" "I" ∈ gT := gT_i (tb_5 _ (List.mem_of_getElem? (i := 183) (by decide +kernel))) rfl
theorem m_1264 : Cond.lays "AlgolJudgeModel" "AlgolJudgeModel" "worst" "I" ∈ gT := gT_i (tb_5 _ (List.mem_of_getElem? (i := 185) (by decide +kernel))) rfl
theorem m_1266 : Cond.lays "AlgolJudgeModel" "AlgolJudgeModel" "deep" "I" ∈ gT := gT_i (tb_5 _ (List.mem_of_getElem? (i := 187) (by decide +kernel))) rfl
theorem m_1268 : Cond.laysFinal "AlgolJudgeModel" "AlgolJudgeModel" "owned" "[I" ∈ gT := gT_i (tb_5 _ (List.mem_of_getElem? (i := 189) (by decide +kernel))) rfl
theorem m_1270 : Cond.laysFinal "AlgolJudgeModel" "AlgolJudgeModel" "declared" "[Z" ∈ gT := gT_i (tb_5 _ (List.mem_of_getElem? (i := 191) (by decide +kernel))) rfl
theorem m_1272 : Cond.laysFinal "AlgolJudgeModel" "AlgolJudgeModel" "first" "[I" ∈ gT := gT_i (tb_5 _ (List.mem_of_getElem? (i := 193) (by decide +kernel))) rfl
theorem m_1274 : Cond.laysFinal "AlgolJudgeModel" "AlgolJudgeModel" "last" "[I" ∈ gT := gT_i (tb_5 _ (List.mem_of_getElem? (i := 195) (by decide +kernel))) rfl
theorem m_1276 : Cond.lays "AlgolJudgeModel" "AlgolJudgeModel" "procedure" "I" ∈ gT := gT_i (tb_5 _ (List.mem_of_getElem? (i := 197) (by decide +kernel))) rfl
theorem m_1278 : Cond.lays "AlgolJudgeModel" "AlgolJudgeModel" "firstSegment" "I" ∈ gT := gT_i (tb_5 _ (List.mem_of_getElem? (i := 199) (by decide +kernel))) rfl
theorem m_1280 : Cond.lays "AlgolJudgeModel" "AlgolJudgeModel" "latestSegment" "I" ∈ gT := gT_i (tb_5 _ (List.mem_of_getElem? (i := 201) (by decide +kernel))) rfl
theorem m_1282 : Cond.laysFinal "AlgolJudgeModel" "AlgolJudgeModel" "manyOf" "[I" ∈ gT := gT_i (tb_5 _ (List.mem_of_getElem? (i := 203) (by decide +kernel))) rfl
theorem m_1284 : Cond.laysFinal "AlgolJudgeModel" "AlgolJudgeModel" "firstOf" "[I" ∈ gT := gT_i (tb_5 _ (List.mem_of_getElem? (i := 205) (by decide +kernel))) rfl
theorem m_1286 : Cond.laysFinal "AlgolJudgeModel" "AlgolJudgeModel" "valued" "[I" ∈ gT := gT_i (tb_5 _ (List.mem_of_getElem? (i := 207) (by decide +kernel))) rfl
theorem m_1288 : Cond.laysFinal "AlgolJudgeModel" "AlgolJudgeModel" "number" "[I" ∈ gT := gT_i (tb_5 _ (List.mem_of_getElem? (i := 209) (by decide +kernel))) rfl
theorem m_1290 : Cond.laysFinal "AlgolJudgeModel" "AlgolJudgeModel" "meaning" "[I" ∈ gT := gT_i (tb_5 _ (List.mem_of_getElem? (i := 211) (by decide +kernel))) rfl
theorem m_1292 : Cond.laysFinal "AlgolJudgeModel" "AlgolJudgeModel" "told" "[I" ∈ gT := gT_i (tb_5 _ (List.mem_of_getElem? (i := 213) (by decide +kernel))) rfl
theorem m_1294 : Cond.lays "AlgolJudgeModel" "AlgolJudgeModel" "many" "I" ∈ gT := gT_i (tb_5 _ (List.mem_of_getElem? (i := 215) (by decide +kernel))) rfl
theorem m_1297 : Cond.methodLink "AlgolJudgeLaw" 17 ⟨"AlgolJudgeModel", "feed", "(IIIII)I"⟩ ∈ gT := gT_i (tb_5 _ (List.mem_of_getElem? (i := 218) (by decide +kernel))) rfl
theorem m_1298 : Cond.instanceMethod ⟨"AlgolJudgeModel", "feed", "(IIIII)I"⟩ ∈ gT := gT_i (tb_5 _ (List.mem_of_getElem? (i := 219) (by decide +kernel))) rfl
theorem m_1299 : Cond.selects "AlgolJudgeModel" ⟨"AlgolJudgeModel", "feed", "(IIIII)I"⟩ ⟨"AlgolJudgeModel", "feed", "(IIIII)I"⟩ ∈ gT := gT_i (tb_5 _ (List.mem_of_getElem? (i := 220) (by decide +kernel))) rfl
theorem m_1300 : Cond.code ⟨"AlgolJudgeModel", "feed", "(IIIII)I"⟩ prog_10_method_69_code 8 (some .int) ∈ gT := gT_i (tb_5 _ (List.mem_of_getElem? (i := 221) rfl)) rfl
theorem m_1301 : Cond.methodLink "AlgolJudgeLaw" 22 ⟨"AlgolJudgeModel", "end", "(I)I"⟩ ∈ gT := gT_i (tb_5 _ (List.mem_of_getElem? (i := 222) (by decide +kernel))) rfl
theorem m_1302 : Cond.instanceMethod ⟨"AlgolJudgeModel", "end", "(I)I"⟩ ∈ gT := gT_i (tb_5 _ (List.mem_of_getElem? (i := 223) (by decide +kernel))) rfl
theorem m_1303 : Cond.selects "AlgolJudgeModel" ⟨"AlgolJudgeModel", "end", "(I)I"⟩ ⟨"AlgolJudgeModel", "end", "(I)I"⟩ ∈ gT := gT_i (tb_5 _ (List.mem_of_getElem? (i := 224) (by decide +kernel))) rfl
theorem m_1304 : Cond.code ⟨"AlgolJudgeModel", "end", "(I)I"⟩ prog_10_method_70_code 2 (some .int) ∈ gT := gT_i (tb_5 _ (List.mem_of_getElem? (i := 225) rfl)) rfl
theorem m_1305 : Cond.methodLink "AlgolJudgeModel" 481 ⟨"AlgolJudgeModel", "in", "(JJJ)Z"⟩ ∈ gT := gT_i (tb_5 _ (List.mem_of_getElem? (i := 226) (by decide +kernel))) rfl
theorem m_1306 : Cond.static ⟨"AlgolJudgeModel", "in", "(JJJ)Z"⟩ ∈ gT := gT_i (tb_5 _ (List.mem_of_getElem? (i := 227) (by decide +kernel))) rfl
theorem m_1307 : Cond.code ⟨"AlgolJudgeModel", "in", "(JJJ)Z"⟩ prog_10_method_1_code 6 (some .boolean) ∈ gT := gT_i (tb_5 _ (List.mem_of_getElem? (i := 228) rfl)) rfl
theorem m_1308 : Cond.methodLink "AlgolJudgeLaw" 27 ⟨"AlgolJudgeModel", "judge", "()I"⟩ ∈ gT := gT_i (tb_5 _ (List.mem_of_getElem? (i := 229) (by decide +kernel))) rfl
theorem m_1309 : Cond.instanceMethod ⟨"AlgolJudgeModel", "judge", "()I"⟩ ∈ gT := gT_i (tb_5 _ (List.mem_of_getElem? (i := 230) (by decide +kernel))) rfl
theorem m_1310 : Cond.selects "AlgolJudgeModel" ⟨"AlgolJudgeModel", "judge", "()I"⟩ ⟨"AlgolJudgeModel", "judge", "()I"⟩ ∈ gT := gT_i (tb_5 _ (List.mem_of_getElem? (i := 231) (by decide +kernel))) rfl
theorem m_1311 : Cond.code ⟨"AlgolJudgeModel", "judge", "()I"⟩ prog_10_method_71_code 2 (some .int) ∈ gT := gT_i (tb_5 _ (List.mem_of_getElem? (i := 232) rfl)) rfl
theorem m_1312 : Cond.methodLink "AlgolJudgeModel" 485 ⟨"AlgolJudgeModel", "tokens", "(I)V"⟩ ∈ gT := gT_i (tb_5 _ (List.mem_of_getElem? (i := 233) (by decide +kernel))) rfl
theorem m_1314 : Cond.instanceMethod ⟨"AlgolJudgeModel", "tokens", "(I)V"⟩ ∈ gT := gT_i (tb_5 _ (List.mem_of_getElem? (i := 235) (by decide +kernel))) rfl
theorem m_1315 : Cond.code ⟨"AlgolJudgeModel", "tokens", "(I)V"⟩ prog_10_method_5_code 9 (none) ∈ gT := gT_i (tb_5 _ (List.mem_of_getElem? (i := 236) rfl)) rfl
theorem m_1316 : Cond.methodLink "AlgolJudgeModel" 26 ⟨"AlgolJudgeModel", "isSmall", "(I)Z"⟩ ∈ gT := gT_i (tb_5 _ (List.mem_of_getElem? (i := 237) (by decide +kernel))) rfl
theorem m_1317 : Cond.static ⟨"AlgolJudgeModel", "isSmall", "(I)Z"⟩ ∈ gT := gT_i (tb_5 _ (List.mem_of_getElem? (i := 238) (by decide +kernel))) rfl
theorem m_1318 : Cond.code ⟨"AlgolJudgeModel", "isSmall", "(I)Z"⟩ prog_10_method_2_code 1 (some .boolean) ∈ gT := gT_i (tb_5 _ (List.mem_of_getElem? (i := 239) rfl)) rfl
theorem m_1319 : Cond.methodLink "AlgolJudgeModel" 30 ⟨"AlgolJudgeModel", "isDigit", "(I)Z"⟩ ∈ gT := gT_i (tb_6 _ (List.mem_of_getElem? (i := 0) (by decide +kernel))) rfl
theorem m_1320 : Cond.static ⟨"AlgolJudgeModel", "isDigit", "(I)Z"⟩ ∈ gT := gT_i (tb_6 _ (List.mem_of_getElem? (i := 1) (by decide +kernel))) rfl
theorem m_1321 : Cond.code ⟨"AlgolJudgeModel", "isDigit", "(I)Z"⟩ prog_10_method_3_code 1 (some .boolean) ∈ gT := gT_i (tb_6 _ (List.mem_of_getElem? (i := 2) rfl)) rfl
theorem m_1322 : Cond.methodLink "AlgolJudgeModel" 33 ⟨"AlgolJudgeModel", "isReserved", "([BII)Z"⟩ ∈ gT := gT_i (tb_6 _ (List.mem_of_getElem? (i := 3) (by decide +kernel))) rfl
theorem m_1323 : Cond.static ⟨"AlgolJudgeModel", "isReserved", "([BII)Z"⟩ ∈ gT := gT_i (tb_6 _ (List.mem_of_getElem? (i := 4) (by decide +kernel))) rfl
theorem m_1324 : Cond.code ⟨"AlgolJudgeModel", "isReserved", "([BII)Z"⟩ prog_10_method_4_code 7 (some .boolean) ∈ gT := gT_i (tb_6 _ (List.mem_of_getElem? (i := 5) rfl)) rfl
theorem m_1326 : Cond.methodLink "AlgolJudgeModel" 5 ⟨"java/lang/String", "length", "()I"⟩ ∈ gT := gT_i (tb_6 _ (List.mem_of_getElem? (i := 7) (by decide +kernel))) rfl
theorem m_1327 : Cond.methodLink "AlgolJudgeModel" 11 ⟨"java/lang/String", "charAt", "(I)C"⟩ ∈ gT := gT_i (tb_6 _ (List.mem_of_getElem? (i := 8) (by decide +kernel))) rfl
theorem m_1328 : Cond.constantLong "AlgolJudgeModel" 37 1099511627776 ∈ gT := gT_i (tb_6 _ (List.mem_of_getElem? (i := 9) (by decide +kernel))) rfl
theorem m_1329 : Cond.constantLong "AlgolJudgeModel" 39 10 ∈ gT := gT_i (tb_6 _ (List.mem_of_getElem? (i := 10) (by decide +kernel))) rfl
theorem m_1330 : Cond.constantLong "AlgolJudgeModel" 41 48 ∈ gT := gT_i (tb_6 _ (List.mem_of_getElem? (i := 11) (by decide +kernel))) rfl
theorem m_1331 : Cond.methodLink "AlgolJudgeModel" 43 ⟨"java/lang/Math", "min", "(JJ)J"⟩ ∈ gT := gT_i (tb_6 _ (List.mem_of_getElem? (i := 12) (by decide +kernel))) rfl
theorem m_1332 : Cond.static ⟨"java/lang/Math", "min", "(JJ)J"⟩ ∈ gT := gT_i (tb_6 _ (List.mem_of_getElem? (i := 13) (by decide +kernel))) rfl
theorem m_1333 : Cond.code ⟨"java/lang/Math", "min", "(JJ)J"⟩ prog_12_method_70_code 4 (some .long) ∈ gT := gT_i (tb_6 _ (List.mem_of_getElem? (i := 14) rfl)) rfl
theorem m_1334 : Cond.constantLong "AlgolJudgeModel" 53 34359738367 ∈ gT := gT_i (tb_6 _ (List.mem_of_getElem? (i := 15) (by decide +kernel))) rfl
theorem m_1335 : Cond.methodLink "AlgolJudgeModel" 488 ⟨"java/util/Arrays", "fill", "([ZZ)V"⟩ ∈ gT := gT_i (tb_6 _ (List.mem_of_getElem? (i := 16) (by decide +kernel))) rfl
theorem m_1336 : Cond.static ⟨"java/util/Arrays", "fill", "([ZZ)V"⟩ ∈ gT := gT_i (tb_6 _ (List.mem_of_getElem? (i := 17) (by decide +kernel))) rfl
theorem m_1337 : Cond.code ⟨"java/util/Arrays", "fill", "([ZZ)V"⟩ prog_16_method_111_code 4 (none) ∈ gT := gT_i (tb_6 _ (List.mem_of_getElem? (i := 18) rfl)) rfl
theorem m_1338 : Cond.methodLink "AlgolJudgeModel" 298 ⟨"AlgolJudgeModel", "block", "()I"⟩ ∈ gT := gT_i (tb_6 _ (List.mem_of_getElem? (i := 19) (by decide +kernel))) rfl
theorem m_1340 : Cond.instanceMethod ⟨"AlgolJudgeModel", "block", "()I"⟩ ∈ gT := gT_i (tb_6 _ (List.mem_of_getElem? (i := 21) (by decide +kernel))) rfl
theorem m_1341 : Cond.code ⟨"AlgolJudgeModel", "block", "()I"⟩ prog_10_method_20_code 8 (some .int) ∈ gT := gT_i (tb_6 _ (List.mem_of_getElem? (i := 22) rfl)) rfl
theorem m_1343 : Cond.methodLink "AlgolJudgeModel" 102 ⟨"AlgolJudgeModel", "is", "(Ljava/lang/String;)Z"⟩ ∈ gT := gT_i (tb_6 _ (List.mem_of_getElem? (i := 24) (by decide +kernel))) rfl
theorem m_1345 : Cond.instanceMethod ⟨"AlgolJudgeModel", "is", "(Ljava/lang/String;)Z"⟩ ∈ gT := gT_i (tb_6 _ (List.mem_of_getElem? (i := 26) (by decide +kernel))) rfl
theorem m_1346 : Cond.code ⟨"AlgolJudgeModel", "is", "(Ljava/lang/String;)Z"⟩ prog_10_method_7_code 2 (some .boolean) ∈ gT := gT_i (tb_6 _ (List.mem_of_getElem? (i := 27) rfl)) rfl
theorem m_1347 : Cond.methodLink "AlgolJudgeModel" 62 ⟨"AlgolJudgeModel", "isAt", "(ILjava/lang/String;)Z"⟩ ∈ gT := gT_i (tb_6 _ (List.mem_of_getElem? (i := 28) (by decide +kernel))) rfl
theorem m_1349 : Cond.instanceMethod ⟨"AlgolJudgeModel", "isAt", "(ILjava/lang/String;)Z"⟩ ∈ gT := gT_i (tb_6 _ (List.mem_of_getElem? (i := 30) (by decide +kernel))) rfl
theorem m_1350 : Cond.code ⟨"AlgolJudgeModel", "isAt", "(ILjava/lang/String;)Z"⟩ prog_10_method_6_code 4 (some .boolean) ∈ gT := gT_i (tb_6 _ (List.mem_of_getElem? (i := 31) rfl)) rfl
theorem m_1351 : Cond.methodLink "AlgolJudgeModel" 106 ⟨"AlgolJudgeModel", "bad", "()I"⟩ ∈ gT := gT_i (tb_6 _ (List.mem_of_getElem? (i := 32) (by decide +kernel))) rfl
theorem m_1353 : Cond.instanceMethod ⟨"AlgolJudgeModel", "bad", "()I"⟩ ∈ gT := gT_i (tb_6 _ (List.mem_of_getElem? (i := 34) (by decide +kernel))) rfl
theorem m_1354 : Cond.code ⟨"AlgolJudgeModel", "bad", "()I"⟩ prog_10_method_10_code 1 (some .int) ∈ gT := gT_i (tb_6 _ (List.mem_of_getElem? (i := 35) rfl)) rfl
theorem m_1355 : Cond.methodLink "AlgolJudgeModel" 183 ⟨"AlgolJudgeModel", "deeper", "()Z"⟩ ∈ gT := gT_i (tb_6 _ (List.mem_of_getElem? (i := 36) (by decide +kernel))) rfl
theorem m_1357 : Cond.instanceMethod ⟨"AlgolJudgeModel", "deeper", "()Z"⟩ ∈ gT := gT_i (tb_6 _ (List.mem_of_getElem? (i := 38) (by decide +kernel))) rfl
theorem m_1358 : Cond.code ⟨"AlgolJudgeModel", "deeper", "()Z"⟩ prog_10_method_13_code 1 (some .boolean) ∈ gT := gT_i (tb_6 _ (List.mem_of_getElem? (i := 39) rfl)) rfl
theorem m_1359 : Cond.methodLink "AlgolJudgeModel" 187 ⟨"AlgolJudgeModel", "node", "(II)I"⟩ ∈ gT := gT_i (tb_6 _ (List.mem_of_getElem? (i := 40) (by decide +kernel))) rfl
theorem m_1361 : Cond.instanceMethod ⟨"AlgolJudgeModel", "node", "(II)I"⟩ ∈ gT := gT_i (tb_6 _ (List.mem_of_getElem? (i := 42) (by decide +kernel))) rfl
theorem m_1362 : Cond.code ⟨"AlgolJudgeModel", "node", "(II)I"⟩ prog_10_method_9_code 3 (some .int) ∈ gT := gT_i (tb_6 _ (List.mem_of_getElem? (i := 43) rfl)) rfl
theorem m_1363 : Cond.methodLink "AlgolJudgeModel" 193 ⟨"AlgolJudgeModel", "open", "(II)I"⟩ ∈ gT := gT_i (tb_6 _ (List.mem_of_getElem? (i := 44) (by decide +kernel))) rfl
theorem m_1365 : Cond.instanceMethod ⟨"AlgolJudgeModel", "open", "(II)I"⟩ ∈ gT := gT_i (tb_6 _ (List.mem_of_getElem? (i := 46) (by decide +kernel))) rfl
theorem m_1366 : Cond.code ⟨"AlgolJudgeModel", "open", "(II)I"⟩ prog_10_method_18_code 3 (some .int) ∈ gT := gT_i (tb_6 _ (List.mem_of_getElem? (i := 47) rfl)) rfl
theorem m_1368 : Cond.methodLink "AlgolJudgeModel" 198 ⟨"AlgolJudgeModel", "isType", "()Z"⟩ ∈ gT := gT_i (tb_6 _ (List.mem_of_getElem? (i := 49) (by decide +kernel))) rfl
theorem m_1370 : Cond.instanceMethod ⟨"AlgolJudgeModel", "isType", "()Z"⟩ ∈ gT := gT_i (tb_6 _ (List.mem_of_getElem? (i := 51) (by decide +kernel))) rfl
theorem m_1371 : Cond.code ⟨"AlgolJudgeModel", "isType", "()Z"⟩ prog_10_method_19_code 1 (some .boolean) ∈ gT := gT_i (tb_6 _ (List.mem_of_getElem? (i := 52) rfl)) rfl
theorem m_1376 : Cond.methodLink "AlgolJudgeModel" 207 ⟨"AlgolJudgeModel", "declaration", "(I)Z"⟩ ∈ gT := gT_i (tb_6 _ (List.mem_of_getElem? (i := 57) (by decide +kernel))) rfl
theorem m_1378 : Cond.instanceMethod ⟨"AlgolJudgeModel", "declaration", "(I)Z"⟩ ∈ gT := gT_i (tb_6 _ (List.mem_of_getElem? (i := 59) (by decide +kernel))) rfl
theorem m_1379 : Cond.code ⟨"AlgolJudgeModel", "declaration", "(I)Z"⟩ prog_10_method_22_code 3 (some .boolean) ∈ gT := gT_i (tb_6 _ (List.mem_of_getElem? (i := 60) rfl)) rfl
theorem m_1380 : Cond.methodLink "AlgolJudgeModel" 232 ⟨"AlgolJudgeModel", "variables", "(IZ)Z"⟩ ∈ gT := gT_i (tb_6 _ (List.mem_of_getElem? (i := 61) (by decide +kernel))) rfl
theorem m_1382 : Cond.instanceMethod ⟨"AlgolJudgeModel", "variables", "(IZ)Z"⟩ ∈ gT := gT_i (tb_6 _ (List.mem_of_getElem? (i := 63) (by decide +kernel))) rfl
theorem m_1383 : Cond.code ⟨"AlgolJudgeModel", "variables", "(IZ)Z"⟩ prog_10_method_24_code 4 (some .boolean) ∈ gT := gT_i (tb_6 _ (List.mem_of_getElem? (i := 64) rfl)) rfl
theorem m_1384 : Cond.methodLink "AlgolJudgeModel" 250 ⟨"AlgolJudgeModel", "isNameToOwn", "()Z"⟩ ∈ gT := gT_i (tb_6 _ (List.mem_of_getElem? (i := 65) (by decide +kernel))) rfl
theorem m_1386 : Cond.instanceMethod ⟨"AlgolJudgeModel", "isNameToOwn", "()Z"⟩ ∈ gT := gT_i (tb_6 _ (List.mem_of_getElem? (i := 67) (by decide +kernel))) rfl
theorem m_1387 : Cond.code ⟨"AlgolJudgeModel", "isNameToOwn", "()Z"⟩ prog_10_method_23_code 1 (some .boolean) ∈ gT := gT_i (tb_6 _ (List.mem_of_getElem? (i := 68) rfl)) rfl
theorem m_1388 : Cond.methodLink "AlgolJudgeModel" 220 ⟨"AlgolJudgeModel", "declare", "(III)I"⟩ ∈ gT := gT_i (tb_6 _ (List.mem_of_getElem? (i := 69) (by decide +kernel))) rfl
theorem m_1390 : Cond.instanceMethod ⟨"AlgolJudgeModel", "declare", "(III)I"⟩ ∈ gT := gT_i (tb_6 _ (List.mem_of_getElem? (i := 71) (by decide +kernel))) rfl
theorem m_1391 : Cond.code ⟨"AlgolJudgeModel", "declare", "(III)I"⟩ prog_10_method_16_code 5 (some .int) ∈ gT := gT_i (tb_6 _ (List.mem_of_getElem? (i := 72) rfl)) rfl
theorem m_1392 : Cond.methodLink "AlgolJudgeModel" 125 ⟨"AlgolJudgeModel", "find", "(II)I"⟩ ∈ gT := gT_i (tb_6 _ (List.mem_of_getElem? (i := 73) (by decide +kernel))) rfl
theorem m_1394 : Cond.instanceMethod ⟨"AlgolJudgeModel", "find", "(II)I"⟩ ∈ gT := gT_i (tb_6 _ (List.mem_of_getElem? (i := 75) (by decide +kernel))) rfl
theorem m_1395 : Cond.code ⟨"AlgolJudgeModel", "find", "(II)I"⟩ prog_10_method_14_code 4 (some .int) ∈ gT := gT_i (tb_6 _ (List.mem_of_getElem? (i := 76) rfl)) rfl
theorem m_1396 : Cond.methodLink "AlgolJudgeModel" 121 ⟨"AlgolJudgeModel", "isLike", "(II)Z"⟩ ∈ gT := gT_i (tb_6 _ (List.mem_of_getElem? (i := 77) (by decide +kernel))) rfl
theorem m_1398 : Cond.instanceMethod ⟨"AlgolJudgeModel", "isLike", "(II)Z"⟩ ∈ gT := gT_i (tb_6 _ (List.mem_of_getElem? (i := 79) (by decide +kernel))) rfl
theorem m_1399 : Cond.code ⟨"AlgolJudgeModel", "isLike", "(II)Z"⟩ prog_10_method_8_code 4 (some .boolean) ∈ gT := gT_i (tb_6 _ (List.mem_of_getElem? (i := 80) rfl)) rfl
theorem m_1400 : Cond.methodLink "AlgolJudgeModel" 132 ⟨"AlgolJudgeModel", "wrong", "(I)V"⟩ ∈ gT := gT_i (tb_6 _ (List.mem_of_getElem? (i := 81) (by decide +kernel))) rfl
theorem m_1402 : Cond.instanceMethod ⟨"AlgolJudgeModel", "wrong", "(I)V"⟩ ∈ gT := gT_i (tb_6 _ (List.mem_of_getElem? (i := 83) (by decide +kernel))) rfl
