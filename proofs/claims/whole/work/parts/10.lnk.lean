/-! method records, words by their places, links (printed by walk.py) -/
abbrev MX12_isIn : MR := (yX12_isIn, cX12_isIn, 3, (some .boolean))
abbrev MX12_isKnown : MR := (yX12_isKnown, cX12_isKnown, 2, (some .boolean))
abbrev MX12_person : MR := (yX12_person, cX12_person, 4, (some .int))
theorem tb10 : (Cond.initialized "DiaryHouseModel") ∈ lw_tbl := tb_r (List.mem_of_getElem? (i := 10) (by decide +kernel))
theorem tb1183 : (Cond.fieldLink "DiaryHouseModel" (138 : Nat) "DiaryHouseModel" "thrown" "I") ∈ lw_tbl := tb_r (List.mem_of_getElem? (i := 1183) (by decide +kernel))
theorem tb1184 : (Cond.fieldLink "DiaryHouseModel" (142 : Nat) "DiaryHouseModel" "now" "I") ∈ lw_tbl := tb_r (List.mem_of_getElem? (i := 1184) (by decide +kernel))
theorem tb1185 : (Cond.fieldLink "DiaryHouseModel" (9 : Nat) "DiaryHouseModel" "place" "[I") ∈ lw_tbl := tb_r (List.mem_of_getElem? (i := 1185) (by decide +kernel))
theorem tb1186 : (Cond.fieldLink "DiaryHouseModel" (13 : Nat) "DiaryHouseModel" "age" "[I") ∈ lw_tbl := tb_r (List.mem_of_getElem? (i := 1186) (by decide +kernel))
theorem tb1187 : (Cond.fieldLink "DiaryHouseModel" (16 : Nat) "DiaryHouseModel" "work" "[I") ∈ lw_tbl := tb_r (List.mem_of_getElem? (i := 1187) (by decide +kernel))
theorem tb1198 : (Cond.fieldLink "DiaryHouseModel" (149 : Nat) "DiaryHouseModel" "persons" "I") ∈ lw_tbl := tb_r (List.mem_of_getElem? (i := 1198) (by decide +kernel))
theorem tb1391 : (Cond.methodLink "DiaryHouseModel" (145 : Nat) ({ cls := "DiaryHouseModel", name := "isIn", desc := "(III)Z" } : MethodName)) ∈ lw_tbl := tb_r (List.mem_of_getElem? (i := 1391) (by decide +kernel))
theorem tb1392 : (Cond.static ({ cls := "DiaryHouseModel", name := "isIn", desc := "(III)Z" } : MethodName)) ∈ lw_tbl := tb_r (List.mem_of_getElem? (i := 1392) (by decide +kernel))
theorem tb1393 : (Cond.code ({ cls := "DiaryHouseModel", name := "isIn", desc := "(III)Z" } : MethodName) prog_14_method_3_code (3 : Nat) (Option.some FieldType.boolean)) ∈ lw_tbl := tb_r (List.mem_of_getElem? (i := 1393) (by decide +kernel))
theorem lc_X12_isIn : LkC MX12_isIn 3 := ⟨tb1393, tb10, by decide, by decide +kernel, by decide⟩
theorem lf_X12_13 : LkF RX12 13 13 3 := ⟨_, rfl, by decide, Or.inl tb1186, Or.inl rfl⟩
theorem lf_X12_142 : LkF RX12 142 13 1 := ⟨_, rfl, by decide, Or.inl tb1184, Or.inl rfl⟩
theorem lf_X12_149 : LkF RX12 149 13 15 := ⟨_, rfl, by decide, Or.inl tb1198, Or.inl rfl⟩
theorem lf_X12_16 : LkF RX12 16 13 4 := ⟨_, rfl, by decide, Or.inl tb1187, Or.inl rfl⟩
theorem lf_X12_9 : LkF RX12 9 13 2 := ⟨_, rfl, by decide, Or.inl tb1185, Or.inl rfl⟩
theorem lp_X12_138 : LkP RX12 138 13 0 := ⟨_, rfl, by decide, tb1183, Or.inl rfl, rfl⟩
theorem lp_X12_149 : LkP RX12 149 13 15 := ⟨_, rfl, by decide, tb1198, Or.inl rfl, rfl⟩
theorem ls_X12_145 : LkS RX12 145 MX12_isIn 3 := ⟨lc_X12_isIn, tb1392, tb1391⟩
