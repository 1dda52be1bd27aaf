/-! method records, words by their places, links (printed by walk.py) -/
abbrev MX12_days : MR := (yX12_days, cX12_days, 2, (some .int))
abbrev MX12_isDay : MR := (yX12_isDay, cX12_isDay, 1, (some .boolean))
abbrev MX12_isIn : MR := (yX12_isIn, cX12_isIn, 3, (some .boolean))
abbrev MX12_isKnown : MR := (yX12_isKnown, cX12_isKnown, 2, (some .boolean))
abbrev MX12_isLine : MR := (yX12_isLine, cX12_isLine, 2, (some .boolean))
abbrev MX12_isLineBy : MR := (yX12_isLineBy, cX12_isLineBy, 3, (some .boolean))
abbrev MX12_isPerson : MR := (yX12_isPerson, cX12_isPerson, 2, (some .boolean))
abbrev MX12_isSort : MR := (yX12_isSort, cX12_isSort, 1, (some .boolean))
abbrev MX12_person : MR := (yX12_person, cX12_person, 4, (some .int))
abbrev MX12_stopsFrom : MR := (yX12_stopsFrom, cX12_stopsFrom, 5, (some .int))
theorem tb10 : (Cond.initialized "DiaryHouseModel") ∈ lw_tbl := tb_r (List.mem_of_getElem? (i := 10) (by decide +kernel))
theorem tb1183 : (Cond.fieldLink "DiaryHouseModel" (138 : Nat) "DiaryHouseModel" "thrown" "I") ∈ lw_tbl := tb_r (List.mem_of_getElem? (i := 1183) (by decide +kernel))
theorem tb1184 : (Cond.fieldLink "DiaryHouseModel" (142 : Nat) "DiaryHouseModel" "now" "I") ∈ lw_tbl := tb_r (List.mem_of_getElem? (i := 1184) (by decide +kernel))
theorem tb1185 : (Cond.fieldLink "DiaryHouseModel" (9 : Nat) "DiaryHouseModel" "place" "[I") ∈ lw_tbl := tb_r (List.mem_of_getElem? (i := 1185) (by decide +kernel))
theorem tb1186 : (Cond.fieldLink "DiaryHouseModel" (13 : Nat) "DiaryHouseModel" "age" "[I") ∈ lw_tbl := tb_r (List.mem_of_getElem? (i := 1186) (by decide +kernel))
theorem tb1187 : (Cond.fieldLink "DiaryHouseModel" (16 : Nat) "DiaryHouseModel" "work" "[I") ∈ lw_tbl := tb_r (List.mem_of_getElem? (i := 1187) (by decide +kernel))
theorem tb1188 : (Cond.fieldLink "DiaryHouseModel" (19 : Nat) "DiaryHouseModel" "stopOf" "[I") ∈ lw_tbl := tb_r (List.mem_of_getElem? (i := 1188) (by decide +kernel))
theorem tb1189 : (Cond.fieldLink "DiaryHouseModel" (22 : Nat) "DiaryHouseModel" "stopDay" "[I") ∈ lw_tbl := tb_r (List.mem_of_getElem? (i := 1189) (by decide +kernel))
theorem tb1190 : (Cond.fieldLink "DiaryHouseModel" (25 : Nat) "DiaryHouseModel" "stopTold" "[I") ∈ lw_tbl := tb_r (List.mem_of_getElem? (i := 1190) (by decide +kernel))
theorem tb1197 : (Cond.fieldLink "DiaryHouseModel" (46 : Nat) "DiaryHouseModel" "lineTold" "[I") ∈ lw_tbl := tb_r (List.mem_of_getElem? (i := 1197) (by decide +kernel))
theorem tb1198 : (Cond.fieldLink "DiaryHouseModel" (149 : Nat) "DiaryHouseModel" "persons" "I") ∈ lw_tbl := tb_r (List.mem_of_getElem? (i := 1198) (by decide +kernel))
theorem tb1199 : (Cond.fieldLink "DiaryHouseModel" (152 : Nat) "DiaryHouseModel" "lines" "I") ∈ lw_tbl := tb_r (List.mem_of_getElem? (i := 1199) (by decide +kernel))
theorem tb1200 : (Cond.fieldLink "DiaryHouseModel" (162 : Nat) "DiaryHouseModel" "stops" "I") ∈ lw_tbl := tb_r (List.mem_of_getElem? (i := 1200) (by decide +kernel))
theorem tb1391 : (Cond.methodLink "DiaryHouseModel" (145 : Nat) ({ cls := "DiaryHouseModel", name := "isIn", desc := "(III)Z" } : MethodName)) ∈ lw_tbl := tb_r (List.mem_of_getElem? (i := 1391) (by decide +kernel))
theorem tb1392 : (Cond.static ({ cls := "DiaryHouseModel", name := "isIn", desc := "(III)Z" } : MethodName)) ∈ lw_tbl := tb_r (List.mem_of_getElem? (i := 1392) (by decide +kernel))
theorem tb1393 : (Cond.code ({ cls := "DiaryHouseModel", name := "isIn", desc := "(III)Z" } : MethodName) prog_14_method_3_code (3 : Nat) (Option.some FieldType.boolean)) ∈ lw_tbl := tb_r (List.mem_of_getElem? (i := 1393) (by decide +kernel))
theorem tb1417 : (Cond.methodLink "DiaryHouseModel" (155 : Nat) ({ cls := "DiaryHouseModel", name := "isLine", desc := "(I)Z" } : MethodName)) ∈ lw_tbl := tb_r (List.mem_of_getElem? (i := 1417) (by decide +kernel))
theorem tb1419 : (Cond.instanceMethod ({ cls := "DiaryHouseModel", name := "isLine", desc := "(I)Z" } : MethodName)) ∈ lw_tbl := tb_r (List.mem_of_getElem? (i := 1419) (by decide +kernel))
theorem tb1420 : (Cond.code ({ cls := "DiaryHouseModel", name := "isLine", desc := "(I)Z" } : MethodName) prog_14_method_9_code (2 : Nat) (Option.some FieldType.boolean)) ∈ lw_tbl := tb_r (List.mem_of_getElem? (i := 1420) (by decide +kernel))
theorem tb1432 : (Cond.methodLink "DiaryHouseModel" (159 : Nat) ({ cls := "DiaryHouseModel", name := "isKnown", desc := "(I)Z" } : MethodName)) ∈ lw_tbl := tb_r (List.mem_of_getElem? (i := 1432) (by decide +kernel))
theorem tb1434 : (Cond.instanceMethod ({ cls := "DiaryHouseModel", name := "isKnown", desc := "(I)Z" } : MethodName)) ∈ lw_tbl := tb_r (List.mem_of_getElem? (i := 1434) (by decide +kernel))
theorem tb1435 : (Cond.code ({ cls := "DiaryHouseModel", name := "isKnown", desc := "(I)Z" } : MethodName) prog_14_method_4_code (2 : Nat) (Option.some FieldType.boolean)) ∈ lw_tbl := tb_r (List.mem_of_getElem? (i := 1435) (by decide +kernel))
theorem sl_X12_isKnown : Cond.selects yX12_isKnown.cls yX12_isKnown yX12_isKnown ∈ lw_tbl := List.mem_of_getElem? (i := 58) (by decide +kernel)
theorem sl_X12_isLine : Cond.selects yX12_isLine.cls yX12_isLine yX12_isLine ∈ lw_tbl := List.mem_of_getElem? (i := 57) (by decide +kernel)
theorem lc_X12_isIn : LkC MX12_isIn 3 := ⟨tb1393, tb10, by decide, by decide +kernel, by decide⟩
theorem lc_X12_isKnown : LkC MX12_isKnown 1 := ⟨tb1435, tb10, by decide, by decide +kernel, by decide⟩
theorem lc_X12_isLine : LkC MX12_isLine 1 := ⟨tb1420, tb10, by decide, by decide +kernel, by decide⟩
theorem lf_X12_13 : LkF RX12 13 13 3 := ⟨_, rfl, by decide, Or.inl tb1186, Or.inl rfl⟩
theorem lf_X12_142 : LkF RX12 142 13 1 := ⟨_, rfl, by decide, Or.inl tb1184, Or.inl rfl⟩
theorem lf_X12_149 : LkF RX12 149 13 15 := ⟨_, rfl, by decide, Or.inl tb1198, Or.inl rfl⟩
theorem lf_X12_152 : LkF RX12 152 13 16 := ⟨_, rfl, by decide, Or.inl tb1199, Or.inl rfl⟩
theorem lf_X12_16 : LkF RX12 16 13 4 := ⟨_, rfl, by decide, Or.inl tb1187, Or.inl rfl⟩
theorem lf_X12_162 : LkF RX12 162 13 17 := ⟨_, rfl, by decide, Or.inl tb1200, Or.inl rfl⟩
theorem lf_X12_19 : LkF RX12 19 13 5 := ⟨_, rfl, by decide, Or.inl tb1188, Or.inl rfl⟩
theorem lf_X12_22 : LkF RX12 22 13 6 := ⟨_, rfl, by decide, Or.inl tb1189, Or.inl rfl⟩
theorem lf_X12_25 : LkF RX12 25 13 7 := ⟨_, rfl, by decide, Or.inl tb1190, Or.inl rfl⟩
theorem lf_X12_46 : LkF RX12 46 13 14 := ⟨_, rfl, by decide, Or.inl tb1197, Or.inl rfl⟩
theorem lf_X12_9 : LkF RX12 9 13 2 := ⟨_, rfl, by decide, Or.inl tb1185, Or.inl rfl⟩
theorem lp_X12_138 : LkP RX12 138 13 0 := ⟨_, rfl, by decide, tb1183, Or.inl rfl, rfl⟩
theorem lp_X12_142 : LkP RX12 142 13 1 := ⟨_, rfl, by decide, tb1184, Or.inl rfl, rfl⟩
theorem lp_X12_149 : LkP RX12 149 13 15 := ⟨_, rfl, by decide, tb1198, Or.inl rfl, rfl⟩
theorem ls_X12_145 : LkS RX12 145 MX12_isIn 3 := ⟨lc_X12_isIn, tb1392, tb1391⟩
theorem lv_X12_155 : LkV RX12 155 MX12_isLine 1 := ⟨lc_X12_isLine, tb1419, sl_X12_isLine, tb1417⟩
theorem lv_X12_159 : LkV RX12 159 MX12_isKnown 1 := ⟨lc_X12_isKnown, tb1434, sl_X12_isKnown, tb1432⟩
