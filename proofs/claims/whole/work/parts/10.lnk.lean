/-! method records, words by their places, links (printed by walk.py) -/
abbrev MJ6_bitCount_0f7a4 : MR := (yJ6_bitCount_0f7a4, cJ6_bitCount_0f7a4, 1, (some .int))
abbrev MJ9_abs_067f4 : MR := (yJ9_abs_067f4, cJ9_abs_067f4, 2, (some .long))
abbrev MJ9_abs_0f7a4 : MR := (yJ9_abs_0f7a4, cJ9_abs_0f7a4, 1, (some .int))
abbrev MJ9_max_7cf53 : MR := (yJ9_max_7cf53, cJ9_max_7cf53, 2, (some .int))
abbrev MJ9_max_f86c9 : MR := (yJ9_max_f86c9, cJ9_max_f86c9, 4, (some .long))
abbrev MJ9_min_7cf53 : MR := (yJ9_min_7cf53, cJ9_min_7cf53, 2, (some .int))
abbrev MJ9_min_f86c9 : MR := (yJ9_min_f86c9, cJ9_min_f86c9, 4, (some .long))
abbrev MX12_agree : MR := (yX12_agree, cX12_agree, 9, (some .int))
abbrev MX12_alike : MR := (yX12_alike, cX12_alike, 3, (some .int))
abbrev MX12_alikeOf : MR := (yX12_alikeOf, cX12_alikeOf, 6, (some .int))
abbrev MX12_bearers : MR := (yX12_bearers, cX12_bearers, 5, (some .int))
abbrev MX12_buy : MR := (yX12_buy, cX12_buy, 6, (some .int))
abbrev MX12_bytesIn : MR := (yX12_bytesIn, cX12_bytesIn, 3, (some .int))
abbrev MX12_count : MR := (yX12_count, cX12_count, 4, (some .int))
abbrev MX12_days : MR := (yX12_days, cX12_days, 2, (some .int))
abbrev MX12_end : MR := (yX12_end, cX12_end, 2, (some .boolean))
abbrev MX12_feed : MR := (yX12_feed, cX12_feed, 6, (some .int))
abbrev MX12_force : MR := (yX12_force, cX12_force, 3, (some .int))
abbrev MX12_habit : MR := (yX12_habit, cX12_habit, 9, (some .int))
abbrev MX12_happen : MR := (yX12_happen, cX12_happen, 5, (some .boolean))
abbrev MX12_hide : MR := (yX12_hide, cX12_hide, 6, (some .int))
abbrev MX12_isDay : MR := (yX12_isDay, cX12_isDay, 1, (some .boolean))
abbrev MX12_isIn : MR := (yX12_isIn, cX12_isIn, 3, (some .boolean))
abbrev MX12_isKnown : MR := (yX12_isKnown, cX12_isKnown, 2, (some .boolean))
abbrev MX12_isLine : MR := (yX12_isLine, cX12_isLine, 2, (some .boolean))
abbrev MX12_isLineBy : MR := (yX12_isLineBy, cX12_isLineBy, 3, (some .boolean))
abbrev MX12_isPerson : MR := (yX12_isPerson, cX12_isPerson, 2, (some .boolean))
abbrev MX12_isReader : MR := (yX12_isReader, cX12_isReader, 1, (some .boolean))
abbrev MX12_isSort : MR := (yX12_isSort, cX12_isSort, 1, (some .boolean))
abbrev MX12_isStopped : MR := (yX12_isStopped, cX12_isStopped, 4, (some .boolean))
abbrev MX12_judge : MR := (yX12_judge, cX12_judge, 3, (some .int))
abbrev MX12_land : MR := (yX12_land, cX12_land, 4, (some .boolean))
abbrev MX12_last : MR := (yX12_last, cX12_last, 3, (some .int))
abbrev MX12_lastOf : MR := (yX12_lastOf, cX12_lastOf, 5, (some .int))
abbrev MX12_lean : MR := (yX12_lean, cX12_lean, 10, (some .int))
abbrev MX12_line : MR := (yX12_line, cX12_line, 8, (some .int))
abbrev MX12_mark : MR := (yX12_mark, cX12_mark, 4, (some .boolean))
abbrev MX12_markOf : MR := (yX12_markOf, cX12_markOf, 6, (some .int))
abbrev MX12_marked : MR := (yX12_marked, cX12_marked, 4, (some .int))
abbrev MX12_maySee : MR := (yX12_maySee, cX12_maySee, 5, (some .boolean))
abbrev MX12_mood : MR := (yX12_mood, cX12_mood, 7, (some .int))
abbrev MX12_people : MR := (yX12_people, cX12_people, 3, (some .int))
abbrev MX12_person : MR := (yX12_person, cX12_person, 4, (some .int))
abbrev MX12_priceOf : MR := (yX12_priceOf, cX12_priceOf, 4, (some .int))
abbrev MX12_put : MR := (yX12_put, cX12_put, 3, none)
abbrev MX12_question : MR := (yX12_question, cX12_question, 3, (some .int))
abbrev MX12_ruleOn : MR := (yX12_ruleOn, cX12_ruleOn, 5, (some .int))
abbrev MX12_sortsOf : MR := (yX12_sortsOf, cX12_sortsOf, 4, (some .int))
abbrev MX12_stop : MR := (yX12_stop, cX12_stop, 3, (some .boolean))
abbrev MX12_stopped : MR := (yX12_stopped, cX12_stopped, 3, (some .int))
abbrev MX12_stopsFrom : MR := (yX12_stopsFrom, cX12_stopsFrom, 5, (some .int))
abbrev MX12_stratum : MR := (yX12_stratum, cX12_stratum, 2, (some .int))
abbrev MX12_table : MR := (yX12_table, cX12_table, 2, (some .int))
abbrev MX12_thrown : MR := (yX12_thrown, cX12_thrown, 1, (some .int))
abbrev MX12_told : MR := (yX12_told, cX12_told, 3, (some .int))
abbrev MX12_truth : MR := (yX12_truth, cX12_truth, 5, (some .int))
abbrev MX12_tryTable : MR := (yX12_tryTable, cX12_tryTable, 4, none)
abbrev MX12_want : MR := (yX12_want, cX12_want, 3, (some .int))
abbrev MX12_watcher : MR := (yX12_watcher, cX12_watcher, 3, (some .int))
abbrev MX12_wordOf : MR := (yX12_wordOf, cX12_wordOf, 6, (some .int))
theorem tb10 : (Cond.initialized "DiaryHouseModel") ∈ lw_tbl := tb_r (List.mem_of_getElem? (i := 10) (by decide +kernel))
theorem tb13 : (Cond.initialized "java/lang/Math") ∈ lw_tbl := tb_r (List.mem_of_getElem? (i := 13) (by decide +kernel))
theorem tb30 : (Cond.initialized "java/lang/Integer") ∈ lw_tbl := tb_r (List.mem_of_getElem? (i := 30) (by decide +kernel))
theorem tb753 : (Cond.static ({ cls := "java/lang/Math", name := "abs", desc := "(I)I" } : MethodName)) ∈ lw_tbl := tb_r (List.mem_of_getElem? (i := 753) (by decide +kernel))
theorem tb754 : (Cond.code ({ cls := "java/lang/Math", name := "abs", desc := "(I)I" } : MethodName) prog_23_method_59_code (1 : Nat) (Option.some FieldType.int)) ∈ lw_tbl := tb_r (List.mem_of_getElem? (i := 754) (by decide +kernel))
theorem tb1054 : (Cond.static ({ cls := "java/lang/Integer", name := "bitCount", desc := "(I)I" } : MethodName)) ∈ lw_tbl := tb_r (List.mem_of_getElem? (i := 1054) (by decide +kernel))
theorem tb1055 : (Cond.code ({ cls := "java/lang/Integer", name := "bitCount", desc := "(I)I" } : MethodName) prog_21_method_49_code (1 : Nat) (Option.some FieldType.int)) ∈ lw_tbl := tb_r (List.mem_of_getElem? (i := 1055) (by decide +kernel))
theorem tb1056 : (Cond.constant "java/lang/Integer" (265 : Nat) (1431655765 : Int32)) ∈ lw_tbl := tb_r (List.mem_of_getElem? (i := 1056) (by decide +kernel))
theorem tb1057 : (Cond.constant "java/lang/Integer" (266 : Nat) (858993459 : Int32)) ∈ lw_tbl := tb_r (List.mem_of_getElem? (i := 1057) (by decide +kernel))
theorem tb1058 : (Cond.constant "java/lang/Integer" (267 : Nat) (252645135 : Int32)) ∈ lw_tbl := tb_r (List.mem_of_getElem? (i := 1058) (by decide +kernel))
theorem tb1183 : (Cond.fieldLink "DiaryHouseModel" (138 : Nat) "DiaryHouseModel" "thrown" "I") ∈ lw_tbl := tb_r (List.mem_of_getElem? (i := 1183) (by decide +kernel))
theorem tb1184 : (Cond.fieldLink "DiaryHouseModel" (142 : Nat) "DiaryHouseModel" "now" "I") ∈ lw_tbl := tb_r (List.mem_of_getElem? (i := 1184) (by decide +kernel))
theorem tb1185 : (Cond.fieldLink "DiaryHouseModel" (9 : Nat) "DiaryHouseModel" "place" "[I") ∈ lw_tbl := tb_r (List.mem_of_getElem? (i := 1185) (by decide +kernel))
theorem tb1186 : (Cond.fieldLink "DiaryHouseModel" (13 : Nat) "DiaryHouseModel" "age" "[I") ∈ lw_tbl := tb_r (List.mem_of_getElem? (i := 1186) (by decide +kernel))
theorem tb1187 : (Cond.fieldLink "DiaryHouseModel" (16 : Nat) "DiaryHouseModel" "work" "[I") ∈ lw_tbl := tb_r (List.mem_of_getElem? (i := 1187) (by decide +kernel))
theorem tb1188 : (Cond.fieldLink "DiaryHouseModel" (19 : Nat) "DiaryHouseModel" "stopOf" "[I") ∈ lw_tbl := tb_r (List.mem_of_getElem? (i := 1188) (by decide +kernel))
theorem tb1189 : (Cond.fieldLink "DiaryHouseModel" (22 : Nat) "DiaryHouseModel" "stopDay" "[I") ∈ lw_tbl := tb_r (List.mem_of_getElem? (i := 1189) (by decide +kernel))
theorem tb1190 : (Cond.fieldLink "DiaryHouseModel" (25 : Nat) "DiaryHouseModel" "stopTold" "[I") ∈ lw_tbl := tb_r (List.mem_of_getElem? (i := 1190) (by decide +kernel))
theorem tb1191 : (Cond.fieldLink "DiaryHouseModel" (28 : Nat) "DiaryHouseModel" "lineOf" "[I") ∈ lw_tbl := tb_r (List.mem_of_getElem? (i := 1191) (by decide +kernel))
theorem tb1192 : (Cond.fieldLink "DiaryHouseModel" (31 : Nat) "DiaryHouseModel" "lineDay" "[I") ∈ lw_tbl := tb_r (List.mem_of_getElem? (i := 1192) (by decide +kernel))
theorem tb1193 : (Cond.fieldLink "DiaryHouseModel" (34 : Nat) "DiaryHouseModel" "lineSort" "[I") ∈ lw_tbl := tb_r (List.mem_of_getElem? (i := 1193) (by decide +kernel))
theorem tb1194 : (Cond.fieldLink "DiaryHouseModel" (37 : Nat) "DiaryHouseModel" "lineMood" "[I") ∈ lw_tbl := tb_r (List.mem_of_getElem? (i := 1194) (by decide +kernel))
theorem tb1195 : (Cond.fieldLink "DiaryHouseModel" (40 : Nat) "DiaryHouseModel" "lineSaying" "[I") ∈ lw_tbl := tb_r (List.mem_of_getElem? (i := 1195) (by decide +kernel))
theorem tb1196 : (Cond.fieldLink "DiaryHouseModel" (43 : Nat) "DiaryHouseModel" "lineFrom" "[I") ∈ lw_tbl := tb_r (List.mem_of_getElem? (i := 1196) (by decide +kernel))
theorem tb1197 : (Cond.fieldLink "DiaryHouseModel" (46 : Nat) "DiaryHouseModel" "lineTold" "[I") ∈ lw_tbl := tb_r (List.mem_of_getElem? (i := 1197) (by decide +kernel))
theorem tb1198 : (Cond.fieldLink "DiaryHouseModel" (149 : Nat) "DiaryHouseModel" "persons" "I") ∈ lw_tbl := tb_r (List.mem_of_getElem? (i := 1198) (by decide +kernel))
theorem tb1199 : (Cond.fieldLink "DiaryHouseModel" (152 : Nat) "DiaryHouseModel" "lines" "I") ∈ lw_tbl := tb_r (List.mem_of_getElem? (i := 1199) (by decide +kernel))
theorem tb1200 : (Cond.fieldLink "DiaryHouseModel" (162 : Nat) "DiaryHouseModel" "stops" "I") ∈ lw_tbl := tb_r (List.mem_of_getElem? (i := 1200) (by decide +kernel))
theorem tb1201 : (Cond.fieldLink "DiaryHouseModel" (49 : Nat) "DiaryHouseModel" "tape" "[B") ∈ lw_tbl := tb_r (List.mem_of_getElem? (i := 1201) (by decide +kernel))
theorem tb1204 : (Cond.fieldLink "DiaryHouseModel" (59 : Nat) "DiaryHouseModel" "ruleFrom" "[I") ∈ lw_tbl := tb_r (List.mem_of_getElem? (i := 1204) (by decide +kernel))
theorem tb1205 : (Cond.fieldLink "DiaryHouseModel" (62 : Nat) "DiaryHouseModel" "ruleTold" "[I") ∈ lw_tbl := tb_r (List.mem_of_getElem? (i := 1205) (by decide +kernel))
theorem tb1207 : (Cond.fieldLink "DiaryHouseModel" (178 : Nat) "DiaryHouseModel" "length" "I") ∈ lw_tbl := tb_r (List.mem_of_getElem? (i := 1207) (by decide +kernel))
theorem tb1208 : (Cond.fieldLink "DiaryHouseModel" (289 : Nat) "DiaryHouseModel" "rules" "I") ∈ lw_tbl := tb_r (List.mem_of_getElem? (i := 1208) (by decide +kernel))
theorem tb1221 : (Cond.fieldLink "DiaryHouseModel" (74 : Nat) "DiaryHouseModel" "happenPlace" "[I") ∈ lw_tbl := tb_r (List.mem_of_getElem? (i := 1221) (by decide +kernel))
theorem tb1222 : (Cond.fieldLink "DiaryHouseModel" (77 : Nat) "DiaryHouseModel" "happenDay" "[I") ∈ lw_tbl := tb_r (List.mem_of_getElem? (i := 1222) (by decide +kernel))
theorem tb1223 : (Cond.fieldLink "DiaryHouseModel" (80 : Nat) "DiaryHouseModel" "happenSort" "[I") ∈ lw_tbl := tb_r (List.mem_of_getElem? (i := 1223) (by decide +kernel))
theorem tb1224 : (Cond.fieldLink "DiaryHouseModel" (83 : Nat) "DiaryHouseModel" "happenTold" "[I") ∈ lw_tbl := tb_r (List.mem_of_getElem? (i := 1224) (by decide +kernel))
theorem tb1225 : (Cond.fieldLink "DiaryHouseModel" (86 : Nat) "DiaryHouseModel" "happened" "[Z") ∈ lw_tbl := tb_r (List.mem_of_getElem? (i := 1225) (by decide +kernel))
theorem tb1227 : (Cond.fieldLink "DiaryHouseModel" (329 : Nat) "DiaryHouseModel" "happenings" "I") ∈ lw_tbl := tb_r (List.mem_of_getElem? (i := 1227) (by decide +kernel))
theorem tb1228 : (Cond.fieldLink "DiaryHouseModel" (93 : Nat) "DiaryHouseModel" "markReader" "[I") ∈ lw_tbl := tb_r (List.mem_of_getElem? (i := 1228) (by decide +kernel))
theorem tb1229 : (Cond.fieldLink "DiaryHouseModel" (96 : Nat) "DiaryHouseModel" "markLine" "[I") ∈ lw_tbl := tb_r (List.mem_of_getElem? (i := 1229) (by decide +kernel))
theorem tb1230 : (Cond.fieldLink "DiaryHouseModel" (99 : Nat) "DiaryHouseModel" "markIs" "[I") ∈ lw_tbl := tb_r (List.mem_of_getElem? (i := 1230) (by decide +kernel))
theorem tb1231 : (Cond.fieldLink "DiaryHouseModel" (102 : Nat) "DiaryHouseModel" "markTold" "[I") ∈ lw_tbl := tb_r (List.mem_of_getElem? (i := 1231) (by decide +kernel))
theorem tb1232 : (Cond.fieldLink "DiaryHouseModel" (335 : Nat) "DiaryHouseModel" "marks" "I") ∈ lw_tbl := tb_r (List.mem_of_getElem? (i := 1232) (by decide +kernel))
theorem tb1233 : (Cond.fieldLink "DiaryHouseModel" (105 : Nat) "DiaryHouseModel" "land" "[I") ∈ lw_tbl := tb_r (List.mem_of_getElem? (i := 1233) (by decide +kernel))
theorem tb1236 : (Cond.fieldLink "DiaryHouseModel" (111 : Nat) "DiaryHouseModel" "watchFrom" "[I") ∈ lw_tbl := tb_r (List.mem_of_getElem? (i := 1236) (by decide +kernel))
theorem tb1237 : (Cond.fieldLink "DiaryHouseModel" (114 : Nat) "DiaryHouseModel" "watchTo" "[I") ∈ lw_tbl := tb_r (List.mem_of_getElem? (i := 1237) (by decide +kernel))
theorem tb1238 : (Cond.fieldLink "DiaryHouseModel" (117 : Nat) "DiaryHouseModel" "wantPlace" "[I") ∈ lw_tbl := tb_r (List.mem_of_getElem? (i := 1238) (by decide +kernel))
theorem tb1239 : (Cond.fieldLink "DiaryHouseModel" (120 : Nat) "DiaryHouseModel" "wantHour" "[I") ∈ lw_tbl := tb_r (List.mem_of_getElem? (i := 1239) (by decide +kernel))
theorem tb1240 : (Cond.fieldLink "DiaryHouseModel" (123 : Nat) "DiaryHouseModel" "tried" "[I") ∈ lw_tbl := tb_r (List.mem_of_getElem? (i := 1240) (by decide +kernel))
theorem tb1241 : (Cond.fieldLink "DiaryHouseModel" (126 : Nat) "DiaryHouseModel" "bestTable" "[I") ∈ lw_tbl := tb_r (List.mem_of_getElem? (i := 1241) (by decide +kernel))
theorem tb1242 : (Cond.fieldLink "DiaryHouseModel" (369 : Nat) "DiaryHouseModel" "watchers" "I") ∈ lw_tbl := tb_r (List.mem_of_getElem? (i := 1242) (by decide +kernel))
theorem tb1243 : (Cond.fieldLink "DiaryHouseModel" (372 : Nat) "DiaryHouseModel" "wanted" "I") ∈ lw_tbl := tb_r (List.mem_of_getElem? (i := 1243) (by decide +kernel))
theorem tb1244 : (Cond.fieldLink "DiaryHouseModel" (375 : Nat) "DiaryHouseModel" "bestSeen" "I") ∈ lw_tbl := tb_r (List.mem_of_getElem? (i := 1244) (by decide +kernel))
theorem tb1245 : (Cond.fieldLink "DiaryHouseModel" (129 : Nat) "DiaryHouseModel" "price" "[I") ∈ lw_tbl := tb_r (List.mem_of_getElem? (i := 1245) (by decide +kernel))
theorem tb1246 : (Cond.fieldLink "DiaryHouseModel" (132 : Nat) "DiaryHouseModel" "tells" "[I") ∈ lw_tbl := tb_r (List.mem_of_getElem? (i := 1246) (by decide +kernel))
theorem tb1248 : (Cond.fieldLink "DiaryHouseModel" (393 : Nat) "DiaryHouseModel" "questions" "I") ∈ lw_tbl := tb_r (List.mem_of_getElem? (i := 1248) (by decide +kernel))
theorem tb1391 : (Cond.methodLink "DiaryHouseModel" (145 : Nat) ({ cls := "DiaryHouseModel", name := "isIn", desc := "(III)Z" } : MethodName)) ∈ lw_tbl := tb_r (List.mem_of_getElem? (i := 1391) (by decide +kernel))
theorem tb1392 : (Cond.static ({ cls := "DiaryHouseModel", name := "isIn", desc := "(III)Z" } : MethodName)) ∈ lw_tbl := tb_r (List.mem_of_getElem? (i := 1392) (by decide +kernel))
theorem tb1393 : (Cond.code ({ cls := "DiaryHouseModel", name := "isIn", desc := "(III)Z" } : MethodName) prog_14_method_3_code (3 : Nat) (Option.some FieldType.boolean)) ∈ lw_tbl := tb_r (List.mem_of_getElem? (i := 1393) (by decide +kernel))
theorem tb1402 : (Cond.methodLink "DiaryHouseModel" (165 : Nat) ({ cls := "DiaryHouseModel", name := "isPerson", desc := "(I)Z" } : MethodName)) ∈ lw_tbl := tb_r (List.mem_of_getElem? (i := 1402) (by decide +kernel))
theorem tb1404 : (Cond.instanceMethod ({ cls := "DiaryHouseModel", name := "isPerson", desc := "(I)Z" } : MethodName)) ∈ lw_tbl := tb_r (List.mem_of_getElem? (i := 1404) (by decide +kernel))
theorem tb1405 : (Cond.code ({ cls := "DiaryHouseModel", name := "isPerson", desc := "(I)Z" } : MethodName) prog_14_method_8_code (2 : Nat) (Option.some FieldType.boolean)) ∈ lw_tbl := tb_r (List.mem_of_getElem? (i := 1405) (by decide +kernel))
theorem tb1406 : (Cond.methodLink "DiaryHouseModel" (168 : Nat) ({ cls := "DiaryHouseModel", name := "isSort", desc := "(I)Z" } : MethodName)) ∈ lw_tbl := tb_r (List.mem_of_getElem? (i := 1406) (by decide +kernel))
theorem tb1407 : (Cond.static ({ cls := "DiaryHouseModel", name := "isSort", desc := "(I)Z" } : MethodName)) ∈ lw_tbl := tb_r (List.mem_of_getElem? (i := 1407) (by decide +kernel))
theorem tb1408 : (Cond.code ({ cls := "DiaryHouseModel", name := "isSort", desc := "(I)Z" } : MethodName) prog_14_method_6_code (1 : Nat) (Option.some FieldType.boolean)) ∈ lw_tbl := tb_r (List.mem_of_getElem? (i := 1408) (by decide +kernel))
theorem tb1409 : (Cond.methodLink "DiaryHouseModel" (171 : Nat) ({ cls := "DiaryHouseModel", name := "stopsFrom", desc := "(II)I" } : MethodName)) ∈ lw_tbl := tb_r (List.mem_of_getElem? (i := 1409) (by decide +kernel))
theorem tb1411 : (Cond.instanceMethod ({ cls := "DiaryHouseModel", name := "stopsFrom", desc := "(II)I" } : MethodName)) ∈ lw_tbl := tb_r (List.mem_of_getElem? (i := 1411) (by decide +kernel))
theorem tb1412 : (Cond.code ({ cls := "DiaryHouseModel", name := "stopsFrom", desc := "(II)I" } : MethodName) prog_14_method_13_code (5 : Nat) (Option.some FieldType.int)) ∈ lw_tbl := tb_r (List.mem_of_getElem? (i := 1412) (by decide +kernel))
theorem tb1417 : (Cond.methodLink "DiaryHouseModel" (155 : Nat) ({ cls := "DiaryHouseModel", name := "isLine", desc := "(I)Z" } : MethodName)) ∈ lw_tbl := tb_r (List.mem_of_getElem? (i := 1417) (by decide +kernel))
theorem tb1419 : (Cond.instanceMethod ({ cls := "DiaryHouseModel", name := "isLine", desc := "(I)Z" } : MethodName)) ∈ lw_tbl := tb_r (List.mem_of_getElem? (i := 1419) (by decide +kernel))
theorem tb1420 : (Cond.code ({ cls := "DiaryHouseModel", name := "isLine", desc := "(I)Z" } : MethodName) prog_14_method_9_code (2 : Nat) (Option.some FieldType.boolean)) ∈ lw_tbl := tb_r (List.mem_of_getElem? (i := 1420) (by decide +kernel))
theorem tb1425 : (Cond.methodLink "DiaryHouseModel" (175 : Nat) ({ cls := "DiaryHouseModel", name := "isDay", desc := "(I)Z" } : MethodName)) ∈ lw_tbl := tb_r (List.mem_of_getElem? (i := 1425) (by decide +kernel))
theorem tb1426 : (Cond.static ({ cls := "DiaryHouseModel", name := "isDay", desc := "(I)Z" } : MethodName)) ∈ lw_tbl := tb_r (List.mem_of_getElem? (i := 1426) (by decide +kernel))
theorem tb1427 : (Cond.code ({ cls := "DiaryHouseModel", name := "isDay", desc := "(I)Z" } : MethodName) prog_14_method_5_code (1 : Nat) (Option.some FieldType.boolean)) ∈ lw_tbl := tb_r (List.mem_of_getElem? (i := 1427) (by decide +kernel))
theorem tb1432 : (Cond.methodLink "DiaryHouseModel" (159 : Nat) ({ cls := "DiaryHouseModel", name := "isKnown", desc := "(I)Z" } : MethodName)) ∈ lw_tbl := tb_r (List.mem_of_getElem? (i := 1432) (by decide +kernel))
theorem tb1434 : (Cond.instanceMethod ({ cls := "DiaryHouseModel", name := "isKnown", desc := "(I)Z" } : MethodName)) ∈ lw_tbl := tb_r (List.mem_of_getElem? (i := 1434) (by decide +kernel))
theorem tb1435 : (Cond.code ({ cls := "DiaryHouseModel", name := "isKnown", desc := "(I)Z" } : MethodName) prog_14_method_4_code (2 : Nat) (Option.some FieldType.boolean)) ∈ lw_tbl := tb_r (List.mem_of_getElem? (i := 1435) (by decide +kernel))
theorem tb1440 : (Cond.methodLink "DiaryHouseModel" (181 : Nat) ({ cls := "DiaryHouseModel", name := "bytesIn", desc := "(I)I" } : MethodName)) ∈ lw_tbl := tb_r (List.mem_of_getElem? (i := 1440) (by decide +kernel))
theorem tb1441 : (Cond.static ({ cls := "DiaryHouseModel", name := "bytesIn", desc := "(I)I" } : MethodName)) ∈ lw_tbl := tb_r (List.mem_of_getElem? (i := 1441) (by decide +kernel))
theorem tb1442 : (Cond.code ({ cls := "DiaryHouseModel", name := "bytesIn", desc := "(I)I" } : MethodName) prog_14_method_18_code (3 : Nat) (Option.some FieldType.int)) ∈ lw_tbl := tb_r (List.mem_of_getElem? (i := 1442) (by decide +kernel))
theorem tb1443 : (Cond.methodLink "DiaryHouseModel" (185 : Nat) ({ cls := "DiaryHouseModel", name := "put", desc := "(I)V" } : MethodName)) ∈ lw_tbl := tb_r (List.mem_of_getElem? (i := 1443) (by decide +kernel))
theorem tb1445 : (Cond.instanceMethod ({ cls := "DiaryHouseModel", name := "put", desc := "(I)V" } : MethodName)) ∈ lw_tbl := tb_r (List.mem_of_getElem? (i := 1445) (by decide +kernel))
theorem tb1446 : (Cond.code ({ cls := "DiaryHouseModel", name := "put", desc := "(I)V" } : MethodName) prog_14_method_19_code (3 : Nat) (Option.none : Option FieldType)) ∈ lw_tbl := tb_r (List.mem_of_getElem? (i := 1446) (by decide +kernel))
theorem tb1532 : (Cond.methodLink "DiaryHouseModel" (292 : Nat) ({ cls := "DiaryHouseModel", name := "ruleOn", desc := "(II)I" } : MethodName)) ∈ lw_tbl := tb_r (List.mem_of_getElem? (i := 1532) (by decide +kernel))
theorem tb1534 : (Cond.instanceMethod ({ cls := "DiaryHouseModel", name := "ruleOn", desc := "(II)I" } : MethodName)) ∈ lw_tbl := tb_r (List.mem_of_getElem? (i := 1534) (by decide +kernel))
theorem tb1535 : (Cond.code ({ cls := "DiaryHouseModel", name := "ruleOn", desc := "(II)I" } : MethodName) prog_14_method_40_code (5 : Nat) (Option.some FieldType.int)) ∈ lw_tbl := tb_r (List.mem_of_getElem? (i := 1535) (by decide +kernel))
theorem tb1556 : (Cond.methodLink "DiaryHouseModel" (305 : Nat) ({ cls := "DiaryHouseModel", name := "isLineBy", desc := "(II)Z" } : MethodName)) ∈ lw_tbl := tb_r (List.mem_of_getElem? (i := 1556) (by decide +kernel))
theorem tb1558 : (Cond.instanceMethod ({ cls := "DiaryHouseModel", name := "isLineBy", desc := "(II)Z" } : MethodName)) ∈ lw_tbl := tb_r (List.mem_of_getElem? (i := 1558) (by decide +kernel))
theorem tb1559 : (Cond.code ({ cls := "DiaryHouseModel", name := "isLineBy", desc := "(II)Z" } : MethodName) prog_14_method_10_code (3 : Nat) (Option.some FieldType.boolean)) ∈ lw_tbl := tb_r (List.mem_of_getElem? (i := 1559) (by decide +kernel))
theorem tb1574 : (Cond.methodLink "DiaryHouseModel" (323 : Nat) ({ cls := "java/lang/Math", name := "abs", desc := "(I)I" } : MethodName)) ∈ lw_tbl := tb_r (List.mem_of_getElem? (i := 1574) (by decide +kernel))
theorem tb1591 : (Cond.methodLink "DiaryHouseModel" (332 : Nat) ({ cls := "DiaryHouseModel", name := "wordOf", desc := "(III)I" } : MethodName)) ∈ lw_tbl := tb_r (List.mem_of_getElem? (i := 1591) (by decide +kernel))
theorem tb1593 : (Cond.instanceMethod ({ cls := "DiaryHouseModel", name := "wordOf", desc := "(III)I" } : MethodName)) ∈ lw_tbl := tb_r (List.mem_of_getElem? (i := 1593) (by decide +kernel))
theorem tb1594 : (Cond.code ({ cls := "DiaryHouseModel", name := "wordOf", desc := "(III)I" } : MethodName) prog_14_method_53_code (6 : Nat) (Option.some FieldType.int)) ∈ lw_tbl := tb_r (List.mem_of_getElem? (i := 1594) (by decide +kernel))
theorem tb1603 : (Cond.methodLink "DiaryHouseModel" (338 : Nat) ({ cls := "DiaryHouseModel", name := "isReader", desc := "(I)Z" } : MethodName)) ∈ lw_tbl := tb_r (List.mem_of_getElem? (i := 1603) (by decide +kernel))
theorem tb1604 : (Cond.static ({ cls := "DiaryHouseModel", name := "isReader", desc := "(I)Z" } : MethodName)) ∈ lw_tbl := tb_r (List.mem_of_getElem? (i := 1604) (by decide +kernel))
theorem tb1605 : (Cond.code ({ cls := "DiaryHouseModel", name := "isReader", desc := "(I)Z" } : MethodName) prog_14_method_56_code (1 : Nat) (Option.some FieldType.boolean)) ∈ lw_tbl := tb_r (List.mem_of_getElem? (i := 1605) (by decide +kernel))
theorem tb1610 : (Cond.methodLink "DiaryHouseModel" (341 : Nat) ({ cls := "DiaryHouseModel", name := "markOf", desc := "(III)I" } : MethodName)) ∈ lw_tbl := tb_r (List.mem_of_getElem? (i := 1610) (by decide +kernel))
theorem tb1612 : (Cond.instanceMethod ({ cls := "DiaryHouseModel", name := "markOf", desc := "(III)I" } : MethodName)) ∈ lw_tbl := tb_r (List.mem_of_getElem? (i := 1612) (by decide +kernel))
theorem tb1613 : (Cond.code ({ cls := "DiaryHouseModel", name := "markOf", desc := "(III)I" } : MethodName) prog_14_method_58_code (6 : Nat) (Option.some FieldType.int)) ∈ lw_tbl := tb_r (List.mem_of_getElem? (i := 1613) (by decide +kernel))
theorem tb1622 : (Cond.constant "DiaryHouseModel" (344 : Nat) (-1000000 : Int32)) ∈ lw_tbl := tb_r (List.mem_of_getElem? (i := 1622) (by decide +kernel))
theorem tb1635 : (Cond.methodLink "DiaryHouseModel" (345 : Nat) ({ cls := "DiaryHouseModel", name := "people", desc := "()I" } : MethodName)) ∈ lw_tbl := tb_r (List.mem_of_getElem? (i := 1635) (by decide +kernel))
theorem tb1637 : (Cond.instanceMethod ({ cls := "DiaryHouseModel", name := "people", desc := "()I" } : MethodName)) ∈ lw_tbl := tb_r (List.mem_of_getElem? (i := 1637) (by decide +kernel))
theorem tb1638 : (Cond.code ({ cls := "DiaryHouseModel", name := "people", desc := "()I" } : MethodName) prog_14_method_64_code (3 : Nat) (Option.some FieldType.int)) ∈ lw_tbl := tb_r (List.mem_of_getElem? (i := 1638) (by decide +kernel))
theorem tb1639 : (Cond.methodLink "DiaryHouseModel" (348 : Nat) ({ cls := "DiaryHouseModel", name := "stratum", desc := "(I)I" } : MethodName)) ∈ lw_tbl := tb_r (List.mem_of_getElem? (i := 1639) (by decide +kernel))
theorem tb1641 : (Cond.instanceMethod ({ cls := "DiaryHouseModel", name := "stratum", desc := "(I)I" } : MethodName)) ∈ lw_tbl := tb_r (List.mem_of_getElem? (i := 1641) (by decide +kernel))
theorem tb1642 : (Cond.code ({ cls := "DiaryHouseModel", name := "stratum", desc := "(I)I" } : MethodName) prog_14_method_12_code (2 : Nat) (Option.some FieldType.int)) ∈ lw_tbl := tb_r (List.mem_of_getElem? (i := 1642) (by decide +kernel))
theorem tb1661 : (Cond.methodLink "DiaryHouseModel" (363 : Nat) ({ cls := "DiaryHouseModel", name := "lastOf", desc := "(II)I" } : MethodName)) ∈ lw_tbl := tb_r (List.mem_of_getElem? (i := 1661) (by decide +kernel))
theorem tb1663 : (Cond.instanceMethod ({ cls := "DiaryHouseModel", name := "lastOf", desc := "(II)I" } : MethodName)) ∈ lw_tbl := tb_r (List.mem_of_getElem? (i := 1663) (by decide +kernel))
theorem tb1664 : (Cond.code ({ cls := "DiaryHouseModel", name := "lastOf", desc := "(II)I" } : MethodName) prog_14_method_69_code (5 : Nat) (Option.some FieldType.int)) ∈ lw_tbl := tb_r (List.mem_of_getElem? (i := 1664) (by decide +kernel))
theorem tb1669 : (Cond.methodLink "DiaryHouseModel" (366 : Nat) ({ cls := "DiaryHouseModel", name := "isStopped", desc := "(II)Z" } : MethodName)) ∈ lw_tbl := tb_r (List.mem_of_getElem? (i := 1669) (by decide +kernel))
theorem tb1671 : (Cond.instanceMethod ({ cls := "DiaryHouseModel", name := "isStopped", desc := "(II)Z" } : MethodName)) ∈ lw_tbl := tb_r (List.mem_of_getElem? (i := 1671) (by decide +kernel))
theorem tb1672 : (Cond.code ({ cls := "DiaryHouseModel", name := "isStopped", desc := "(II)Z" } : MethodName) prog_14_method_71_code (4 : Nat) (Option.some FieldType.boolean)) ∈ lw_tbl := tb_r (List.mem_of_getElem? (i := 1672) (by decide +kernel))
theorem tb1685 : (Cond.methodLink "DiaryHouseModel" (381 : Nat) ({ cls := "DiaryHouseModel", name := "tryTable", desc := "(II)V" } : MethodName)) ∈ lw_tbl := tb_r (List.mem_of_getElem? (i := 1685) (by decide +kernel))
theorem tb1687 : (Cond.instanceMethod ({ cls := "DiaryHouseModel", name := "tryTable", desc := "(II)V" } : MethodName)) ∈ lw_tbl := tb_r (List.mem_of_getElem? (i := 1687) (by decide +kernel))
theorem tb1688 : (Cond.code ({ cls := "DiaryHouseModel", name := "tryTable", desc := "(II)V" } : MethodName) prog_14_method_76_code (4 : Nat) (Option.none : Option FieldType)) ∈ lw_tbl := tb_r (List.mem_of_getElem? (i := 1688) (by decide +kernel))
theorem tb1689 : (Cond.methodLink "DiaryHouseModel" (378 : Nat) ({ cls := "DiaryHouseModel", name := "maySee", desc := "(II)Z" } : MethodName)) ∈ lw_tbl := tb_r (List.mem_of_getElem? (i := 1689) (by decide +kernel))
theorem tb1691 : (Cond.instanceMethod ({ cls := "DiaryHouseModel", name := "maySee", desc := "(II)Z" } : MethodName)) ∈ lw_tbl := tb_r (List.mem_of_getElem? (i := 1691) (by decide +kernel))
theorem tb1692 : (Cond.code ({ cls := "DiaryHouseModel", name := "maySee", desc := "(II)Z" } : MethodName) prog_14_method_75_code (5 : Nat) (Option.some FieldType.boolean)) ∈ lw_tbl := tb_r (List.mem_of_getElem? (i := 1692) (by decide +kernel))
theorem tb1697 : (Cond.methodLink "DiaryHouseModel" (385 : Nat) ({ cls := "DiaryHouseModel", name := "alikeOf", desc := "(II)I" } : MethodName)) ∈ lw_tbl := tb_r (List.mem_of_getElem? (i := 1697) (by decide +kernel))
theorem tb1699 : (Cond.instanceMethod ({ cls := "DiaryHouseModel", name := "alikeOf", desc := "(II)I" } : MethodName)) ∈ lw_tbl := tb_r (List.mem_of_getElem? (i := 1699) (by decide +kernel))
theorem tb1700 : (Cond.code ({ cls := "DiaryHouseModel", name := "alikeOf", desc := "(II)I" } : MethodName) prog_14_method_78_code (6 : Nat) (Option.some FieldType.int)) ∈ lw_tbl := tb_r (List.mem_of_getElem? (i := 1700) (by decide +kernel))
theorem tb1705 : (Cond.methodLink "DiaryHouseModel" (388 : Nat) ({ cls := "java/lang/Integer", name := "bitCount", desc := "(I)I" } : MethodName)) ∈ lw_tbl := tb_r (List.mem_of_getElem? (i := 1705) (by decide +kernel))
theorem tb1714 : (Cond.methodLink "DiaryHouseModel" (396 : Nat) ({ cls := "DiaryHouseModel", name := "priceOf", desc := "(I)I" } : MethodName)) ∈ lw_tbl := tb_r (List.mem_of_getElem? (i := 1714) (by decide +kernel))
theorem tb1716 : (Cond.instanceMethod ({ cls := "DiaryHouseModel", name := "priceOf", desc := "(I)I" } : MethodName)) ∈ lw_tbl := tb_r (List.mem_of_getElem? (i := 1716) (by decide +kernel))
theorem tb1717 : (Cond.code ({ cls := "DiaryHouseModel", name := "priceOf", desc := "(I)I" } : MethodName) prog_14_method_82_code (4 : Nat) (Option.some FieldType.int)) ∈ lw_tbl := tb_r (List.mem_of_getElem? (i := 1717) (by decide +kernel))
theorem tb1718 : (Cond.methodLink "DiaryHouseModel" (399 : Nat) ({ cls := "DiaryHouseModel", name := "sortsOf", desc := "(I)I" } : MethodName)) ∈ lw_tbl := tb_r (List.mem_of_getElem? (i := 1718) (by decide +kernel))
theorem tb1720 : (Cond.instanceMethod ({ cls := "DiaryHouseModel", name := "sortsOf", desc := "(I)I" } : MethodName)) ∈ lw_tbl := tb_r (List.mem_of_getElem? (i := 1720) (by decide +kernel))
theorem tb1721 : (Cond.code ({ cls := "DiaryHouseModel", name := "sortsOf", desc := "(I)I" } : MethodName) prog_14_method_83_code (4 : Nat) (Option.some FieldType.int)) ∈ lw_tbl := tb_r (List.mem_of_getElem? (i := 1721) (by decide +kernel))
theorem sl_X12_alikeOf : Cond.selects yX12_alikeOf.cls yX12_alikeOf yX12_alikeOf ∈ lw_tbl := List.mem_of_getElem? (i := 90) (by decide +kernel)
theorem sl_X12_isKnown : Cond.selects yX12_isKnown.cls yX12_isKnown yX12_isKnown ∈ lw_tbl := List.mem_of_getElem? (i := 58) (by decide +kernel)
theorem sl_X12_isLine : Cond.selects yX12_isLine.cls yX12_isLine yX12_isLine ∈ lw_tbl := List.mem_of_getElem? (i := 57) (by decide +kernel)
theorem sl_X12_isLineBy : Cond.selects yX12_isLineBy.cls yX12_isLineBy yX12_isLineBy ∈ lw_tbl := List.mem_of_getElem? (i := 78) (by decide +kernel)
theorem sl_X12_isPerson : Cond.selects yX12_isPerson.cls yX12_isPerson yX12_isPerson ∈ lw_tbl := List.mem_of_getElem? (i := 55) (by decide +kernel)
theorem sl_X12_isStopped : Cond.selects yX12_isStopped.cls yX12_isStopped yX12_isStopped ∈ lw_tbl := List.mem_of_getElem? (i := 87) (by decide +kernel)
theorem sl_X12_lastOf : Cond.selects yX12_lastOf.cls yX12_lastOf yX12_lastOf ∈ lw_tbl := List.mem_of_getElem? (i := 86) (by decide +kernel)
theorem sl_X12_markOf : Cond.selects yX12_markOf.cls yX12_markOf yX12_markOf ∈ lw_tbl := List.mem_of_getElem? (i := 82) (by decide +kernel)
theorem sl_X12_maySee : Cond.selects yX12_maySee.cls yX12_maySee yX12_maySee ∈ lw_tbl := List.mem_of_getElem? (i := 89) (by decide +kernel)
theorem sl_X12_people : Cond.selects yX12_people.cls yX12_people yX12_people ∈ lw_tbl := List.mem_of_getElem? (i := 83) (by decide +kernel)
theorem sl_X12_priceOf : Cond.selects yX12_priceOf.cls yX12_priceOf yX12_priceOf ∈ lw_tbl := List.mem_of_getElem? (i := 91) (by decide +kernel)
theorem sl_X12_put : Cond.selects yX12_put.cls yX12_put yX12_put ∈ lw_tbl := List.mem_of_getElem? (i := 59) (by decide +kernel)
theorem sl_X12_ruleOn : Cond.selects yX12_ruleOn.cls yX12_ruleOn yX12_ruleOn ∈ lw_tbl := List.mem_of_getElem? (i := 74) (by decide +kernel)
theorem sl_X12_sortsOf : Cond.selects yX12_sortsOf.cls yX12_sortsOf yX12_sortsOf ∈ lw_tbl := List.mem_of_getElem? (i := 92) (by decide +kernel)
theorem sl_X12_stopsFrom : Cond.selects yX12_stopsFrom.cls yX12_stopsFrom yX12_stopsFrom ∈ lw_tbl := List.mem_of_getElem? (i := 56) (by decide +kernel)
theorem sl_X12_stratum : Cond.selects yX12_stratum.cls yX12_stratum yX12_stratum ∈ lw_tbl := List.mem_of_getElem? (i := 84) (by decide +kernel)
theorem sl_X12_tryTable : Cond.selects yX12_tryTable.cls yX12_tryTable yX12_tryTable ∈ lw_tbl := List.mem_of_getElem? (i := 88) (by decide +kernel)
theorem sl_X12_wordOf : Cond.selects yX12_wordOf.cls yX12_wordOf yX12_wordOf ∈ lw_tbl := List.mem_of_getElem? (i := 81) (by decide +kernel)
theorem lc_J6_bitCount_0f7a4 : LkC MJ6_bitCount_0f7a4 1 := ⟨tb1055, tb30, by decide, by decide +kernel, by decide⟩
theorem lc_J9_abs_0f7a4 : LkC MJ9_abs_0f7a4 1 := ⟨tb754, tb13, by decide, by decide +kernel, by decide⟩
theorem lc_X12_alikeOf : LkC MX12_alikeOf 2 := ⟨tb1700, tb10, by decide, by decide +kernel, by decide⟩
theorem lc_X12_bytesIn : LkC MX12_bytesIn 1 := ⟨tb1442, tb10, by decide, by decide +kernel, by decide⟩
theorem lc_X12_isDay : LkC MX12_isDay 1 := ⟨tb1427, tb10, by decide, by decide +kernel, by decide⟩
theorem lc_X12_isIn : LkC MX12_isIn 3 := ⟨tb1393, tb10, by decide, by decide +kernel, by decide⟩
theorem lc_X12_isKnown : LkC MX12_isKnown 1 := ⟨tb1435, tb10, by decide, by decide +kernel, by decide⟩
theorem lc_X12_isLine : LkC MX12_isLine 1 := ⟨tb1420, tb10, by decide, by decide +kernel, by decide⟩
theorem lc_X12_isLineBy : LkC MX12_isLineBy 2 := ⟨tb1559, tb10, by decide, by decide +kernel, by decide⟩
theorem lc_X12_isPerson : LkC MX12_isPerson 1 := ⟨tb1405, tb10, by decide, by decide +kernel, by decide⟩
theorem lc_X12_isReader : LkC MX12_isReader 1 := ⟨tb1605, tb10, by decide, by decide +kernel, by decide⟩
theorem lc_X12_isSort : LkC MX12_isSort 1 := ⟨tb1408, tb10, by decide, by decide +kernel, by decide⟩
theorem lc_X12_isStopped : LkC MX12_isStopped 2 := ⟨tb1672, tb10, by decide, by decide +kernel, by decide⟩
theorem lc_X12_lastOf : LkC MX12_lastOf 2 := ⟨tb1664, tb10, by decide, by decide +kernel, by decide⟩
theorem lc_X12_markOf : LkC MX12_markOf 3 := ⟨tb1613, tb10, by decide, by decide +kernel, by decide⟩
theorem lc_X12_maySee : LkC MX12_maySee 2 := ⟨tb1692, tb10, by decide, by decide +kernel, by decide⟩
theorem lc_X12_people : LkC MX12_people 0 := ⟨tb1638, tb10, by decide, by decide +kernel, by decide⟩
theorem lc_X12_priceOf : LkC MX12_priceOf 1 := ⟨tb1717, tb10, by decide, by decide +kernel, by decide⟩
theorem lc_X12_put : LkC MX12_put 1 := ⟨tb1446, tb10, by decide, by decide +kernel, by decide⟩
theorem lc_X12_ruleOn : LkC MX12_ruleOn 2 := ⟨tb1535, tb10, by decide, by decide +kernel, by decide⟩
theorem lc_X12_sortsOf : LkC MX12_sortsOf 1 := ⟨tb1721, tb10, by decide, by decide +kernel, by decide⟩
theorem lc_X12_stopsFrom : LkC MX12_stopsFrom 2 := ⟨tb1412, tb10, by decide, by decide +kernel, by decide⟩
theorem lc_X12_stratum : LkC MX12_stratum 1 := ⟨tb1642, tb10, by decide, by decide +kernel, by decide⟩
theorem lc_X12_tryTable : LkC MX12_tryTable 2 := ⟨tb1688, tb10, by decide, by decide +kernel, by decide⟩
theorem lc_X12_wordOf : LkC MX12_wordOf 3 := ⟨tb1594, tb10, by decide, by decide +kernel, by decide⟩
theorem lf_X12_102 : LkF RX12 102 13 48 := ⟨_, rfl, by decide, Or.inl tb1231, Or.inl rfl⟩
theorem lf_X12_105 : LkF RX12 105 13 50 := ⟨_, rfl, by decide, Or.inl tb1233, Or.inl rfl⟩
theorem lf_X12_111 : LkF RX12 111 13 53 := ⟨_, rfl, by decide, Or.inl tb1236, Or.inl rfl⟩
theorem lf_X12_114 : LkF RX12 114 13 54 := ⟨_, rfl, by decide, Or.inl tb1237, Or.inl rfl⟩
theorem lf_X12_117 : LkF RX12 117 13 55 := ⟨_, rfl, by decide, Or.inl tb1238, Or.inl rfl⟩
theorem lf_X12_120 : LkF RX12 120 13 56 := ⟨_, rfl, by decide, Or.inl tb1239, Or.inl rfl⟩
theorem lf_X12_123 : LkF RX12 123 13 57 := ⟨_, rfl, by decide, Or.inl tb1240, Or.inl rfl⟩
theorem lf_X12_126 : LkF RX12 126 13 58 := ⟨_, rfl, by decide, Or.inl tb1241, Or.inl rfl⟩
theorem lf_X12_129 : LkF RX12 129 13 62 := ⟨_, rfl, by decide, Or.inl tb1245, Or.inl rfl⟩
theorem lf_X12_13 : LkF RX12 13 13 3 := ⟨_, rfl, by decide, Or.inl tb1186, Or.inl rfl⟩
theorem lf_X12_132 : LkF RX12 132 13 63 := ⟨_, rfl, by decide, Or.inl tb1246, Or.inl rfl⟩
theorem lf_X12_138 : LkF RX12 138 13 0 := ⟨_, rfl, by decide, Or.inl tb1183, Or.inl rfl⟩
theorem lf_X12_142 : LkF RX12 142 13 1 := ⟨_, rfl, by decide, Or.inl tb1184, Or.inl rfl⟩
theorem lf_X12_149 : LkF RX12 149 13 15 := ⟨_, rfl, by decide, Or.inl tb1198, Or.inl rfl⟩
theorem lf_X12_152 : LkF RX12 152 13 16 := ⟨_, rfl, by decide, Or.inl tb1199, Or.inl rfl⟩
theorem lf_X12_16 : LkF RX12 16 13 4 := ⟨_, rfl, by decide, Or.inl tb1187, Or.inl rfl⟩
theorem lf_X12_162 : LkF RX12 162 13 17 := ⟨_, rfl, by decide, Or.inl tb1200, Or.inl rfl⟩
theorem lf_X12_178 : LkF RX12 178 13 24 := ⟨_, rfl, by decide, Or.inl tb1207, Or.inl rfl⟩
theorem lf_X12_19 : LkF RX12 19 13 5 := ⟨_, rfl, by decide, Or.inl tb1188, Or.inl rfl⟩
theorem lf_X12_22 : LkF RX12 22 13 6 := ⟨_, rfl, by decide, Or.inl tb1189, Or.inl rfl⟩
theorem lf_X12_25 : LkF RX12 25 13 7 := ⟨_, rfl, by decide, Or.inl tb1190, Or.inl rfl⟩
theorem lf_X12_28 : LkF RX12 28 13 8 := ⟨_, rfl, by decide, Or.inl tb1191, Or.inl rfl⟩
theorem lf_X12_289 : LkF RX12 289 13 25 := ⟨_, rfl, by decide, Or.inl tb1208, Or.inl rfl⟩
theorem lf_X12_31 : LkF RX12 31 13 9 := ⟨_, rfl, by decide, Or.inl tb1192, Or.inl rfl⟩
theorem lf_X12_329 : LkF RX12 329 13 44 := ⟨_, rfl, by decide, Or.inl tb1227, Or.inl rfl⟩
theorem lf_X12_335 : LkF RX12 335 13 49 := ⟨_, rfl, by decide, Or.inl tb1232, Or.inl rfl⟩
theorem lf_X12_34 : LkF RX12 34 13 10 := ⟨_, rfl, by decide, Or.inl tb1193, Or.inl rfl⟩
theorem lf_X12_369 : LkF RX12 369 13 59 := ⟨_, rfl, by decide, Or.inl tb1242, Or.inl rfl⟩
theorem lf_X12_37 : LkF RX12 37 13 11 := ⟨_, rfl, by decide, Or.inl tb1194, Or.inl rfl⟩
theorem lf_X12_372 : LkF RX12 372 13 60 := ⟨_, rfl, by decide, Or.inl tb1243, Or.inl rfl⟩
theorem lf_X12_375 : LkF RX12 375 13 61 := ⟨_, rfl, by decide, Or.inl tb1244, Or.inl rfl⟩
theorem lf_X12_393 : LkF RX12 393 13 65 := ⟨_, rfl, by decide, Or.inl tb1248, Or.inl rfl⟩
theorem lf_X12_40 : LkF RX12 40 13 12 := ⟨_, rfl, by decide, Or.inl tb1195, Or.inl rfl⟩
theorem lf_X12_43 : LkF RX12 43 13 13 := ⟨_, rfl, by decide, Or.inl tb1196, Or.inl rfl⟩
theorem lf_X12_46 : LkF RX12 46 13 14 := ⟨_, rfl, by decide, Or.inl tb1197, Or.inl rfl⟩
theorem lf_X12_49 : LkF RX12 49 13 18 := ⟨_, rfl, by decide, Or.inl tb1201, Or.inl rfl⟩
theorem lf_X12_59 : LkF RX12 59 13 21 := ⟨_, rfl, by decide, Or.inl tb1204, Or.inl rfl⟩
theorem lf_X12_62 : LkF RX12 62 13 22 := ⟨_, rfl, by decide, Or.inl tb1205, Or.inl rfl⟩
theorem lf_X12_74 : LkF RX12 74 13 38 := ⟨_, rfl, by decide, Or.inl tb1221, Or.inl rfl⟩
theorem lf_X12_77 : LkF RX12 77 13 39 := ⟨_, rfl, by decide, Or.inl tb1222, Or.inl rfl⟩
theorem lf_X12_80 : LkF RX12 80 13 40 := ⟨_, rfl, by decide, Or.inl tb1223, Or.inl rfl⟩
theorem lf_X12_83 : LkF RX12 83 13 41 := ⟨_, rfl, by decide, Or.inl tb1224, Or.inl rfl⟩
theorem lf_X12_86 : LkF RX12 86 13 42 := ⟨_, rfl, by decide, Or.inl tb1225, Or.inl rfl⟩
theorem lf_X12_9 : LkF RX12 9 13 2 := ⟨_, rfl, by decide, Or.inl tb1185, Or.inl rfl⟩
theorem lf_X12_93 : LkF RX12 93 13 45 := ⟨_, rfl, by decide, Or.inl tb1228, Or.inl rfl⟩
theorem lf_X12_96 : LkF RX12 96 13 46 := ⟨_, rfl, by decide, Or.inl tb1229, Or.inl rfl⟩
theorem lf_X12_99 : LkF RX12 99 13 47 := ⟨_, rfl, by decide, Or.inl tb1230, Or.inl rfl⟩
theorem lp_X12_138 : LkP RX12 138 13 0 := ⟨_, rfl, by decide, tb1183, Or.inl rfl, rfl⟩
theorem lp_X12_142 : LkP RX12 142 13 1 := ⟨_, rfl, by decide, tb1184, Or.inl rfl, rfl⟩
theorem lp_X12_149 : LkP RX12 149 13 15 := ⟨_, rfl, by decide, tb1198, Or.inl rfl, rfl⟩
theorem lp_X12_152 : LkP RX12 152 13 16 := ⟨_, rfl, by decide, tb1199, Or.inl rfl, rfl⟩
theorem lp_X12_162 : LkP RX12 162 13 17 := ⟨_, rfl, by decide, tb1200, Or.inl rfl, rfl⟩
theorem lp_X12_178 : LkP RX12 178 13 24 := ⟨_, rfl, by decide, tb1207, Or.inl rfl, rfl⟩
theorem lp_X12_329 : LkP RX12 329 13 44 := ⟨_, rfl, by decide, tb1227, Or.inl rfl, rfl⟩
theorem lp_X12_335 : LkP RX12 335 13 49 := ⟨_, rfl, by decide, tb1232, Or.inl rfl, rfl⟩
theorem lp_X12_369 : LkP RX12 369 13 59 := ⟨_, rfl, by decide, tb1242, Or.inl rfl, rfl⟩
theorem lp_X12_372 : LkP RX12 372 13 60 := ⟨_, rfl, by decide, tb1243, Or.inl rfl, rfl⟩
theorem lp_X12_375 : LkP RX12 375 13 61 := ⟨_, rfl, by decide, tb1244, Or.inl rfl, rfl⟩
theorem lp_X12_393 : LkP RX12 393 13 65 := ⟨_, rfl, by decide, tb1248, Or.inl rfl, rfl⟩
theorem ls_X12_145 : LkS RX12 145 MX12_isIn 3 := ⟨lc_X12_isIn, tb1392, tb1391⟩
theorem ls_X12_168 : LkS RX12 168 MX12_isSort 1 := ⟨lc_X12_isSort, tb1407, tb1406⟩
theorem ls_X12_175 : LkS RX12 175 MX12_isDay 1 := ⟨lc_X12_isDay, tb1426, tb1425⟩
theorem ls_X12_181 : LkS RX12 181 MX12_bytesIn 1 := ⟨lc_X12_bytesIn, tb1441, tb1440⟩
theorem ls_X12_323 : LkS RX12 323 MJ9_abs_0f7a4 1 := ⟨lc_J9_abs_0f7a4, tb753, tb1574⟩
theorem ls_X12_338 : LkS RX12 338 MX12_isReader 1 := ⟨lc_X12_isReader, tb1604, tb1603⟩
theorem ls_X12_388 : LkS RX12 388 MJ6_bitCount_0f7a4 1 := ⟨lc_J6_bitCount_0f7a4, tb1054, tb1705⟩
theorem lv_X12_155 : LkV RX12 155 MX12_isLine 1 := ⟨lc_X12_isLine, tb1419, sl_X12_isLine, tb1417⟩
theorem lv_X12_159 : LkV RX12 159 MX12_isKnown 1 := ⟨lc_X12_isKnown, tb1434, sl_X12_isKnown, tb1432⟩
theorem lv_X12_165 : LkV RX12 165 MX12_isPerson 1 := ⟨lc_X12_isPerson, tb1404, sl_X12_isPerson, tb1402⟩
theorem lv_X12_171 : LkV RX12 171 MX12_stopsFrom 2 := ⟨lc_X12_stopsFrom, tb1411, sl_X12_stopsFrom, tb1409⟩
theorem lv_X12_185 : LkV RX12 185 MX12_put 1 := ⟨lc_X12_put, tb1445, sl_X12_put, tb1443⟩
theorem lv_X12_292 : LkV RX12 292 MX12_ruleOn 2 := ⟨lc_X12_ruleOn, tb1534, sl_X12_ruleOn, tb1532⟩
theorem lv_X12_305 : LkV RX12 305 MX12_isLineBy 2 := ⟨lc_X12_isLineBy, tb1558, sl_X12_isLineBy, tb1556⟩
theorem lv_X12_332 : LkV RX12 332 MX12_wordOf 3 := ⟨lc_X12_wordOf, tb1593, sl_X12_wordOf, tb1591⟩
theorem lv_X12_341 : LkV RX12 341 MX12_markOf 3 := ⟨lc_X12_markOf, tb1612, sl_X12_markOf, tb1610⟩
theorem lv_X12_345 : LkV RX12 345 MX12_people 0 := ⟨lc_X12_people, tb1637, sl_X12_people, tb1635⟩
theorem lv_X12_348 : LkV RX12 348 MX12_stratum 1 := ⟨lc_X12_stratum, tb1641, sl_X12_stratum, tb1639⟩
theorem lv_X12_363 : LkV RX12 363 MX12_lastOf 2 := ⟨lc_X12_lastOf, tb1663, sl_X12_lastOf, tb1661⟩
theorem lv_X12_366 : LkV RX12 366 MX12_isStopped 2 := ⟨lc_X12_isStopped, tb1671, sl_X12_isStopped, tb1669⟩
theorem lv_X12_378 : LkV RX12 378 MX12_maySee 2 := ⟨lc_X12_maySee, tb1691, sl_X12_maySee, tb1689⟩
theorem lv_X12_381 : LkV RX12 381 MX12_tryTable 2 := ⟨lc_X12_tryTable, tb1687, sl_X12_tryTable, tb1685⟩
theorem lv_X12_385 : LkV RX12 385 MX12_alikeOf 2 := ⟨lc_X12_alikeOf, tb1699, sl_X12_alikeOf, tb1697⟩
theorem lv_X12_396 : LkV RX12 396 MX12_priceOf 1 := ⟨lc_X12_priceOf, tb1716, sl_X12_priceOf, tb1714⟩
theorem lv_X12_399 : LkV RX12 399 MX12_sortsOf 1 := ⟨lc_X12_sortsOf, tb1720, sl_X12_sortsOf, tb1718⟩
