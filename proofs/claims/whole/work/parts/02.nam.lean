def RX0 : String := "DiaryHouse$Happening"
def TX0 : u_T := fun k => match k with
  | 0 => ("DiaryHouse$Happening", "place", "I", true)
  | 1 => ("DiaryHouse$Happening", "day", "I", true)
  | 2 => ("DiaryHouse$Happening", "sort", "I", true)
  | 3 => ("DiaryHouse$Happening", "is", "Z", true)
  | _ => ("DiaryHouse$Happening", "told", "I", true)
def tyX0 : Nat → FieldType := fun k => match k with
  | 0 => .int
  | 1 => .int
  | 2 => .int
  | 3 => .boolean
  | _ => .int
abbrev wsX00 : List Cond := u_ws RX0 TX0 5
theorem nmX0 : ∀ a, a < 5 → ∀ b, b < 5 → a ≠ b → (TX0 a).2.1 ≠ (TX0 b).2.1 := by decide +kernel
theorem tyX0_ok : ∀ k, k < 5 → parseFieldDescriptor (TX0 k).2.2.1 = some (tyX0 k) := by decide +kernel
abbrev cX0_init : ByteArray := prog_2_method_1_code
def yX0_init : MethodName := ⟨RX0, "<init>", "(IIIZI)V"⟩
abbrev cX0_isOf : ByteArray := prog_2_method_2_code
def yX0_isOf : MethodName := ⟨RX0, "isOf", "(III)Z"⟩
def RX1 : String := "DiaryHouse$Line"
def TX1 : u_T := fun k => match k with
  | 0 => ("DiaryHouse$Line", "writer", "LDiaryHouse$Person;", true)
  | 1 => ("DiaryHouse$Line", "day", "I", true)
  | 2 => ("DiaryHouse$Line", "sort", "I", true)
  | 3 => ("DiaryHouse$Line", "mood", "I", true)
  | 4 => ("DiaryHouse$Line", "saying", "I", true)
  | 5 => ("DiaryHouse$Line", "from", "I", true)
  | _ => ("DiaryHouse$Line", "told", "I", true)
def tyX1 : Nat → FieldType := fun k => match k with
  | 0 => .object "DiaryHouse$Person"
  | 1 => .int
  | 2 => .int
  | 3 => .int
  | 4 => .int
  | 5 => .int
  | _ => .int
abbrev wsX10 : List Cond := u_ws RX1 TX1 7
theorem nmX1 : ∀ a, a < 7 → ∀ b, b < 7 → a ≠ b → (TX1 a).2.1 ≠ (TX1 b).2.1 := by decide +kernel
theorem tyX1_ok : ∀ k, k < 7 → parseFieldDescriptor (TX1 k).2.2.1 = some (tyX1 k) := by decide +kernel
abbrev cX1_init : ByteArray := prog_3_method_1_code
def yX1_init : MethodName := ⟨RX1, "<init>", "(LDiaryHouse$Person;IIIIII)V"⟩
abbrev cX1_isFor : ByteArray := prog_3_method_2_code
def yX1_isFor : MethodName := ⟨RX1, "isFor", "(II)Z"⟩
abbrev cX1_part : ByteArray := prog_3_method_3_code
def yX1_part : MethodName := ⟨RX1, "part", "(I)I"⟩
def RX2 : String := "DiaryHouse$Mark"
def TX2 : u_T := fun k => match k with
  | 0 => ("DiaryHouse$Mark", "reader", "I", true)
  | 1 => ("DiaryHouse$Mark", "line", "I", true)
  | 2 => ("DiaryHouse$Mark", "value", "I", true)
  | _ => ("DiaryHouse$Mark", "told", "I", true)
def tyX2 : Nat → FieldType := fun k => match k with
  | 0 => .int
  | 1 => .int
  | 2 => .int
  | _ => .int
abbrev wsX20 : List Cond := u_ws RX2 TX2 4
theorem nmX2 : ∀ a, a < 4 → ∀ b, b < 4 → a ≠ b → (TX2 a).2.1 ≠ (TX2 b).2.1 := by decide +kernel
theorem tyX2_ok : ∀ k, k < 4 → parseFieldDescriptor (TX2 k).2.2.1 = some (tyX2 k) := by decide +kernel
abbrev cX2_init : ByteArray := prog_4_method_1_code
def yX2_init : MethodName := ⟨RX2, "<init>", "(IIII)V"⟩
def RX3 : String := "DiaryHouse$Numbers"
def TX3 : u_T := fun k => match k with
  | 0 => ("DiaryHouse$Numbers", "room", "[I", true)
  | _ => ("DiaryHouse$Numbers", "size", "I", false)
def tyX3 : Nat → FieldType := fun k => match k with
  | 0 => .array .int
  | _ => .int
abbrev wsX30 : List Cond := u_ws RX3 TX3 2
theorem nmX3 : ∀ a, a < 2 → ∀ b, b < 2 → a ≠ b → (TX3 a).2.1 ≠ (TX3 b).2.1 := by decide +kernel
theorem tyX3_ok : ∀ k, k < 2 → parseFieldDescriptor (TX3 k).2.2.1 = some (tyX3 k) := by decide +kernel
abbrev cX3_init : ByteArray := prog_5_method_1_code
def yX3_init : MethodName := ⟨RX3, "<init>", "()V"⟩
abbrev cX3_clear : ByteArray := prog_5_method_2_code
def yX3_clear : MethodName := ⟨RX3, "clear", "()V"⟩
abbrev cX3_push : ByteArray := prog_5_method_3_code
def yX3_push : MethodName := ⟨RX3, "push", "(I)V"⟩
abbrev cX3_pop : ByteArray := prog_5_method_4_code
def yX3_pop : MethodName := ⟨RX3, "pop", "()I"⟩
def RX4 : String := "DiaryHouse$Person"
def TX4 : u_T := fun k => match k with
  | 0 => ("DiaryHouse$Person", "number", "I", true)
  | 1 => ("DiaryHouse$Person", "place", "I", true)
  | 2 => ("DiaryHouse$Person", "age", "I", true)
  | 3 => ("DiaryHouse$Person", "work", "I", true)
  | _ => ("DiaryHouse$Person", "stratum", "I", true)
def tyX4 : Nat → FieldType := fun k => match k with
  | 0 => .int
  | 1 => .int
  | 2 => .int
  | 3 => .int
  | _ => .int
abbrev wsX40 : List Cond := u_ws RX4 TX4 5
theorem nmX4 : ∀ a, a < 5 → ∀ b, b < 5 → a ≠ b → (TX4 a).2.1 ≠ (TX4 b).2.1 := by decide +kernel
theorem tyX4_ok : ∀ k, k < 5 → parseFieldDescriptor (TX4 k).2.2.1 = some (tyX4 k) := by decide +kernel
abbrev cX4_init : ByteArray := prog_6_method_1_code
def yX4_init : MethodName := ⟨RX4, "<init>", "(IIII)V"⟩
abbrev cX4_livesIn : ByteArray := prog_6_method_2_code
def yX4_livesIn : MethodName := ⟨RX4, "livesIn", "(II)Z"⟩
abbrev cX4_isLike : ByteArray := prog_6_method_3_code
def yX4_isLike : MethodName := ⟨RX4, "isLike", "(LDiaryHouse$Person;I)Z"⟩
def RX5 : String := "DiaryHouse$Question"
def TX5 : u_T := fun k => match k with
  | 0 => ("DiaryHouse$Question", "price", "I", true)
  | _ => ("DiaryHouse$Question", "sorts", "I", true)
def tyX5 : Nat → FieldType := fun k => match k with
  | 0 => .int
  | _ => .int
abbrev wsX50 : List Cond := u_ws RX5 TX5 2
theorem nmX5 : ∀ a, a < 2 → ∀ b, b < 2 → a ≠ b → (TX5 a).2.1 ≠ (TX5 b).2.1 := by decide +kernel
theorem tyX5_ok : ∀ k, k < 2 → parseFieldDescriptor (TX5 k).2.2.1 = some (tyX5 k) := by decide +kernel
abbrev cX5_init : ByteArray := prog_7_method_1_code
def yX5_init : MethodName := ⟨RX5, "<init>", "(II)V"⟩
def RX6 : String := "DiaryHouse$Rule"
def TX6 : u_T := fun k => match k with
  | 0 => ("DiaryHouse$Rule", "from", "I", true)
  | 1 => ("DiaryHouse$Rule", "told", "I", true)
  | _ => ("DiaryHouse$Rule", "codes", "[I", true)
def tyX6 : Nat → FieldType := fun k => match k with
  | 0 => .int
  | 1 => .int
  | _ => .array .int
abbrev wsX60 : List Cond := u_ws RX6 TX6 3
theorem nmX6 : ∀ a, a < 3 → ∀ b, b < 3 → a ≠ b → (TX6 a).2.1 ≠ (TX6 b).2.1 := by decide +kernel
theorem tyX6_ok : ∀ k, k < 3 → parseFieldDescriptor (TX6 k).2.2.1 = some (tyX6 k) := by decide +kernel
abbrev cX6_init : ByteArray := prog_8_method_1_code
def yX6_init : MethodName := ⟨RX6, "<init>", "(II[I)V"⟩
abbrev cX6_worth : ByteArray := prog_8_method_2_code
def yX6_worth : MethodName := ⟨RX6, "worth", "(C[ILDiaryHouse$Numbers;)I"⟩
abbrev cX6_work : ByteArray := prog_8_method_3_code
def yX6_work : MethodName := ⟨RX6, "work", "(I[ILDiaryHouse$Numbers;)V"⟩
abbrev cX6_joined : ByteArray := prog_8_method_4_code
def yX6_joined : MethodName := ⟨RX6, "joined", "(CII)I"⟩
def RX7 : String := "DiaryHouse$Stop"
def TX7 : u_T := fun k => match k with
  | 0 => ("DiaryHouse$Stop", "person", "I", true)
  | 1 => ("DiaryHouse$Stop", "day", "I", true)
  | _ => ("DiaryHouse$Stop", "told", "I", true)
def tyX7 : Nat → FieldType := fun k => match k with
  | 0 => .int
  | 1 => .int
  | _ => .int
abbrev wsX70 : List Cond := u_ws RX7 TX7 3
theorem nmX7 : ∀ a, a < 3 → ∀ b, b < 3 → a ≠ b → (TX7 a).2.1 ≠ (TX7 b).2.1 := by decide +kernel
theorem tyX7_ok : ∀ k, k < 3 → parseFieldDescriptor (TX7 k).2.2.1 = some (tyX7 k) := by decide +kernel
abbrev cX7_init : ByteArray := prog_9_method_1_code
def yX7_init : MethodName := ⟨RX7, "<init>", "(III)V"⟩
def RX8 : String := "DiaryHouse$Table"
def TX8 : u_T := fun k => match k with
  | 0 => ("DiaryHouse$Table", "from", "[I", true)
  | 1 => ("DiaryHouse$Table", "to", "[I", true)
  | 2 => ("DiaryHouse$Table", "watchers", "I", false)
  | 3 => ("DiaryHouse$Table", "places", "[I", true)
  | 4 => ("DiaryHouse$Table", "hours", "[I", true)
  | 5 => ("DiaryHouse$Table", "wanted", "I", false)
  | 6 => ("DiaryHouse$Table", "tried", "[I", true)
  | 7 => ("DiaryHouse$Table", "best", "[I", true)
  | _ => ("DiaryHouse$Table", "seen", "I", false)
def tyX8 : Nat → FieldType := fun k => match k with
  | 0 => .array .int
  | 1 => .array .int
  | 2 => .int
  | 3 => .array .int
  | 4 => .array .int
  | 5 => .int
  | 6 => .array .int
  | 7 => .array .int
  | _ => .int
abbrev wsX80 : List Cond := u_ws RX8 TX8 9
theorem nmX8 : ∀ a, a < 9 → ∀ b, b < 9 → a ≠ b → (TX8 a).2.1 ≠ (TX8 b).2.1 := by decide +kernel
theorem tyX8_ok : ∀ k, k < 9 → parseFieldDescriptor (TX8 k).2.2.1 = some (tyX8 k) := by decide +kernel
abbrev cX8_init : ByteArray := prog_10_method_1_code
def yX8_init : MethodName := ⟨RX8, "<init>", "()V"⟩
abbrev cX8_watchers : ByteArray := prog_10_method_2_code
def yX8_watchers : MethodName := ⟨RX8, "watchers", "()I"⟩
abbrev cX8_wanted : ByteArray := prog_10_method_3_code
def yX8_wanted : MethodName := ⟨RX8, "wanted", "()I"⟩
abbrev cX8_seen : ByteArray := prog_10_method_4_code
def yX8_seen : MethodName := ⟨RX8, "seen", "()I"⟩
abbrev cX8_watcherOf : ByteArray := prog_10_method_5_code
def yX8_watcherOf : MethodName := ⟨RX8, "watcherOf", "(I)I"⟩
abbrev cX8_addWatcher : ByteArray := prog_10_method_6_code
def yX8_addWatcher : MethodName := ⟨RX8, "addWatcher", "(II)I"⟩
abbrev cX8_addWanted : ByteArray := prog_10_method_7_code
def yX8_addWanted : MethodName := ⟨RX8, "addWanted", "(II)I"⟩
abbrev cX8_planAnew : ByteArray := prog_10_method_8_code
def yX8_planAnew : MethodName := ⟨RX8, "planAnew", "()V"⟩
abbrev cX8_tryFrom : ByteArray := prog_10_method_9_code
def yX8_tryFrom : MethodName := ⟨RX8, "tryFrom", "(LDiaryHouse$Table;II)V"⟩
abbrev cX8_canSee : ByteArray := prog_10_method_10_code
def yX8_canSee : MethodName := ⟨RX8, "canSee", "(II)Z"⟩
abbrev cX8_canBothBeSeen : ByteArray := prog_10_method_11_code
def yX8_canBothBeSeen : MethodName := ⟨RX8, "canBothBeSeen", "(II)Z"⟩
def RX9 : String := "DiaryHouse$Tape"
def TX9 : u_T := fun k => match k with
  | 0 => ("DiaryHouse$Tape", "signs", "[C", true)
  | 1 => ("DiaryHouse$Tape", "size", "I", false)
  | 2 => ("DiaryHouse$Tape", "at", "I", false)
  | 3 => ("DiaryHouse$Tape", "codes", "[I", true)
  | _ => ("DiaryHouse$Tape", "codesSize", "I", false)
def tyX9 : Nat → FieldType := fun k => match k with
  | 0 => .array .char
  | 1 => .int
  | 2 => .int
  | 3 => .array .int
  | _ => .int
abbrev wsX90 : List Cond := u_ws RX9 TX9 5
theorem nmX9 : ∀ a, a < 5 → ∀ b, b < 5 → a ≠ b → (TX9 a).2.1 ≠ (TX9 b).2.1 := by decide +kernel
theorem tyX9_ok : ∀ k, k < 5 → parseFieldDescriptor (TX9 k).2.2.1 = some (tyX9 k) := by decide +kernel
abbrev cX9_init : ByteArray := prog_11_method_1_code
def yX9_init : MethodName := ⟨RX9, "<init>", "()V"⟩
abbrev cX9_length : ByteArray := prog_11_method_2_code
def yX9_length : MethodName := ⟨RX9, "length", "()I"⟩
abbrev cX9_append : ByteArray := prog_11_method_3_code
def yX9_append : MethodName := ⟨RX9, "append", "(I)V"⟩
abbrev cX9_cut : ByteArray := prog_11_method_4_code
def yX9_cut : MethodName := ⟨RX9, "cut", "(I)V"⟩
abbrev cX9_codesRead : ByteArray := prog_11_method_5_code
def yX9_codesRead : MethodName := ⟨RX9, "codesRead", "()[I"⟩
abbrev cX9_read : ByteArray := prog_11_method_6_code
def yX9_read : MethodName := ⟨RX9, "read", "()I"⟩
abbrev cX9_readClause : ByteArray := prog_11_method_7_code
def yX9_readClause : MethodName := ⟨RX9, "readClause", "()Z"⟩
abbrev cX9_readCondition : ByteArray := prog_11_method_8_code
def yX9_readCondition : MethodName := ⟨RX9, "readCondition", "(I)Z"⟩
abbrev cX9_readMoreParts : ByteArray := prog_11_method_9_code
def yX9_readMoreParts : MethodName := ⟨RX9, "readMoreParts", "(I)Z"⟩
abbrev cX9_readPart : ByteArray := prog_11_method_10_code
def yX9_readPart : MethodName := ⟨RX9, "readPart", "(I)Z"⟩
abbrev cX9_readMoreUnits : ByteArray := prog_11_method_11_code
def yX9_readMoreUnits : MethodName := ⟨RX9, "readMoreUnits", "(I)Z"⟩
abbrev cX9_readUnit : ByteArray := prog_11_method_12_code
def yX9_readUnit : MethodName := ⟨RX9, "readUnit", "(I)Z"⟩
abbrev cX9_readComparison : ByteArray := prog_11_method_13_code
def yX9_readComparison : MethodName := ⟨RX9, "readComparison", "(I)Z"⟩
abbrev cX9_readSum : ByteArray := prog_11_method_14_code
def yX9_readSum : MethodName := ⟨RX9, "readSum", "(I)Z"⟩
abbrev cX9_readTerm : ByteArray := prog_11_method_15_code
def yX9_readTerm : MethodName := ⟨RX9, "readTerm", "(I)Z"⟩
abbrev cX9_readAtom : ByteArray := prog_11_method_16_code
def yX9_readAtom : MethodName := ⟨RX9, "readAtom", "(I)Z"⟩
abbrev cX9_readNumber : ByteArray := prog_11_method_17_code
def yX9_readNumber : MethodName := ⟨RX9, "readNumber", "()Z"⟩
abbrev cX9_sees : ByteArray := prog_11_method_18_code
def yX9_sees : MethodName := ⟨RX9, "sees", "(Ljava/lang/String;)Z"⟩
abbrev cX9_take : ByteArray := prog_11_method_19_code
def yX9_take : MethodName := ⟨RX9, "take", "(Ljava/lang/String;)Z"⟩
abbrev cX9_takeSign : ByteArray := prog_11_method_20_code
def yX9_takeSign : MethodName := ⟨RX9, "takeSign", "()C"⟩
abbrev cX9_addCode : ByteArray := prog_11_method_21_code
def yX9_addCode : MethodName := ⟨RX9, "addCode", "(I)V"⟩
def RX10 : String := "DiaryHouse$Turn"
def TX10 : u_T := fun k => match k with
  | 0 => ("DiaryHouse$Turn", "days", "[I", true)
  | 1 => ("DiaryHouse$Turn", "moods", "[I", true)
  | _ => ("DiaryHouse$Turn", "size", "I", false)
def tyX10 : Nat → FieldType := fun k => match k with
  | 0 => .array .int
  | 1 => .array .int
  | _ => .int
abbrev wsX100 : List Cond := u_ws RX10 TX10 3
theorem nmX10 : ∀ a, a < 3 → ∀ b, b < 3 → a ≠ b → (TX10 a).2.1 ≠ (TX10 b).2.1 := by decide +kernel
theorem tyX10_ok : ∀ k, k < 3 → parseFieldDescriptor (TX10 k).2.2.1 = some (tyX10 k) := by decide +kernel
abbrev cX10_init : ByteArray := prog_12_method_1_code
def yX10_init : MethodName := ⟨RX10, "<init>", "()V"⟩
abbrev cX10_clear : ByteArray := prog_12_method_2_code
def yX10_clear : MethodName := ⟨RX10, "clear", "()V"⟩
abbrev cX10_add : ByteArray := prog_12_method_3_code
def yX10_add : MethodName := ⟨RX10, "add", "(II)V"⟩
abbrev cX10_split : ByteArray := prog_12_method_4_code
def yX10_split : MethodName := ⟨RX10, "split", "()I"⟩
abbrev cX10_dayAt : ByteArray := prog_12_method_5_code
def yX10_dayAt : MethodName := ⟨RX10, "dayAt", "(I)I"⟩
abbrev cX10_chanceAt : ByteArray := prog_12_method_6_code
def yX10_chanceAt : MethodName := ⟨RX10, "chanceAt", "(I)I"⟩
abbrev cX10_sumAhead : ByteArray := prog_12_method_7_code
def yX10_sumAhead : MethodName := ⟨RX10, "sumAhead", "(I)I"⟩
abbrev cX10_distance : ByteArray := prog_12_method_8_code
def yX10_distance : MethodName := ⟨RX10, "distance", "(III)J"⟩
def RX11 : String := "DiaryHouse"
def TX11 : u_T := fun k => match k with
  | 0 => ("DiaryHouse", "now", "I", false)
  | 1 => ("DiaryHouse", "persons", "Ljava/util/ArrayList;", true)
  | 2 => ("DiaryHouse", "lines", "Ljava/util/ArrayList;", true)
  | 3 => ("DiaryHouse", "stops", "Ljava/util/ArrayList;", true)
  | 4 => ("DiaryHouse", "rules", "Ljava/util/ArrayList;", true)
  | 5 => ("DiaryHouse", "happenings", "Ljava/util/ArrayList;", true)
  | 6 => ("DiaryHouse", "marks", "Ljava/util/ArrayList;", true)
  | 7 => ("DiaryHouse", "questions", "Ljava/util/ArrayList;", true)
  | 8 => ("DiaryHouse", "tape", "LDiaryHouse$Tape;", true)
  | 9 => ("DiaryHouse", "plan", "LDiaryHouse$Table;", true)
  | 10 => ("DiaryHouse", "turning", "LDiaryHouse$Turn;", true)
  | 11 => ("DiaryHouse", "people", "[[I", true)
  | 12 => ("DiaryHouse", "markRows", "[[I", true)
  | 13 => ("DiaryHouse", "letters", "[I", true)
  | 14 => ("DiaryHouse", "numbers", "LDiaryHouse$Numbers;", true)
  | 15 => ("DiaryHouse", "picks", "[I", true)
  | _ => ("DiaryHouse", "drawn", "[I", true)
def tyX11 : Nat → FieldType := fun k => match k with
  | 0 => .int
  | 1 => .object "java/util/ArrayList"
  | 2 => .object "java/util/ArrayList"
  | 3 => .object "java/util/ArrayList"
  | 4 => .object "java/util/ArrayList"
  | 5 => .object "java/util/ArrayList"
  | 6 => .object "java/util/ArrayList"
  | 7 => .object "java/util/ArrayList"
  | 8 => .object "DiaryHouse$Tape"
  | 9 => .object "DiaryHouse$Table"
  | 10 => .object "DiaryHouse$Turn"
  | 11 => .array (.array .int)
  | 12 => .array (.array .int)
  | 13 => .array .int
  | 14 => .object "DiaryHouse$Numbers"
  | 15 => .array .int
  | _ => .array .int
abbrev wsX110 : List Cond := u_ws RX11 TX11 17
theorem nmX11 : ∀ a, a < 17 → ∀ b, b < 17 → a ≠ b → (TX11 a).2.1 ≠ (TX11 b).2.1 := by decide +kernel
theorem tyX11_ok : ∀ k, k < 17 → parseFieldDescriptor (TX11 k).2.2.1 = some (tyX11 k) := by decide +kernel
abbrev cX11_init : ByteArray := prog_1_method_1_code
def yX11_init : MethodName := ⟨RX11, "<init>", "()V"⟩
abbrev cX11_days : ByteArray := prog_1_method_2_code
def yX11_days : MethodName := ⟨RX11, "days", "(I)I"⟩
abbrev cX11_person : ByteArray := prog_1_method_3_code
def yX11_person : MethodName := ⟨RX11, "person", "(III)I"⟩
abbrev cX11_line : ByteArray := prog_1_method_4_code
def yX11_line : MethodName := ⟨RX11, "line", "(IIIIII)I"⟩
abbrev cX11_isHearing : ByteArray := prog_1_method_5_code
def yX11_isHearing : MethodName := ⟨RX11, "isHearing", "(III)Z"⟩
abbrev cX11_told : ByteArray := prog_1_method_6_code
def yX11_told : MethodName := ⟨RX11, "told", "(II)I"⟩
abbrev cX11_stop : ByteArray := prog_1_method_7_code
def yX11_stop : MethodName := ⟨RX11, "stop", "(II)Z"⟩
abbrev cX11_stopped : ByteArray := prog_1_method_8_code
def yX11_stopped : MethodName := ⟨RX11, "stopped", "(II)I"⟩
abbrev cX11_stopDayOf : ByteArray := prog_1_method_9_code
def yX11_stopDayOf : MethodName := ⟨RX11, "stopDayOf", "(II)I"⟩
abbrev cX11_hasStoppedBy : ByteArray := prog_1_method_10_code
def yX11_hasStoppedBy : MethodName := ⟨RX11, "hasStoppedBy", "(III)Z"⟩
abbrev cX11_feed : ByteArray := prog_1_method_11_code
def yX11_feed : MethodName := ⟨RX11, "feed", "(IIIII)I"⟩
abbrev cX11_bytesIn : ByteArray := prog_1_method_12_code
def yX11_bytesIn : MethodName := ⟨RX11, "bytesIn", "(I)I"⟩
abbrev cX11_end : ByteArray := prog_1_method_13_code
def yX11_end : MethodName := ⟨RX11, "end", "(I)Z"⟩
abbrev cX11_fault : ByteArray := prog_1_method_14_code
def yX11_fault : MethodName := ⟨RX11, "fault", "()I"⟩
abbrev cX11_rule : ByteArray := prog_1_method_15_code
def yX11_rule : MethodName := ⟨RX11, "rule", "(I)I"⟩
abbrev cX11_force : ByteArray := prog_1_method_16_code
def yX11_force : MethodName := ⟨RX11, "force", "(II)I"⟩
abbrev cX11_ruleInForce : ByteArray := prog_1_method_17_code
def yX11_ruleInForce : MethodName := ⟨RX11, "ruleInForce", "(II)I"⟩
abbrev cX11_worthOf : ByteArray := prog_1_method_18_code
def yX11_worthOf : MethodName := ⟨RX11, "worthOf", "(CI)I"⟩
abbrev cX11_asked : ByteArray := prog_1_method_19_code
def yX11_asked : MethodName := ⟨RX11, "asked", "(IIII)I"⟩
abbrev cX11_setPersonLetters : ByteArray := prog_1_method_20_code
def yX11_setPersonLetters : MethodName := ⟨RX11, "setPersonLetters", "(LDiaryHouse$Person;)V"⟩
abbrev cX11_shown : ByteArray := prog_1_method_21_code
def yX11_shown : MethodName := ⟨RX11, "shown", "(IIII)I"⟩
abbrev cX11_mayBeShown : ByteArray := prog_1_method_22_code
def yX11_mayBeShown : MethodName := ⟨RX11, "mayBeShown", "(LDiaryHouse$Line;III)Z"⟩
abbrev cX11_digest : ByteArray := prog_1_method_23_code
def yX11_digest : MethodName := ⟨RX11, "digest", "(IIIII)I"⟩
abbrev cX11_left : ByteArray := prog_1_method_24_code
def yX11_left : MethodName := ⟨RX11, "left", "(IIII)I"⟩
abbrev cX11_isDigest : ByteArray := prog_1_method_25_code
def yX11_isDigest : MethodName := ⟨RX11, "isDigest", "(IIII)Z"⟩
abbrev cX11_linesFor : ByteArray := prog_1_method_26_code
def yX11_linesFor : MethodName := ⟨RX11, "linesFor", "(II)I"⟩
abbrev cX11_pickDigest : ByteArray := prog_1_method_27_code
def yX11_pickDigest : MethodName := ⟨RX11, "pickDigest", "(IIII)I"⟩
abbrev cX11_digestSize : ByteArray := prog_1_method_28_code
def yX11_digestSize : MethodName := ⟨RX11, "digestSize", "(III)I"⟩
abbrev cX11_insertPick : ByteArray := prog_1_method_29_code
def yX11_insertPick : MethodName := ⟨RX11, "insertPick", "(III)I"⟩
abbrev cX11_strengthOf : ByteArray := prog_1_method_30_code
def yX11_strengthOf : MethodName := ⟨RX11, "strengthOf", "(I)I"⟩
abbrev cX11_happen : ByteArray := prog_1_method_31_code
def yX11_happen : MethodName := ⟨RX11, "happen", "(IIIZ)Z"⟩
abbrev cX11_truth : ByteArray := prog_1_method_32_code
def yX11_truth : MethodName := ⟨RX11, "truth", "(II)I"⟩
abbrev cX11_way : ByteArray := prog_1_method_33_code
def yX11_way : MethodName := ⟨RX11, "way", "(IIII)I"⟩
abbrev cX11_wayPart : ByteArray := prog_1_method_34_code
def yX11_wayPart : MethodName := ⟨RX11, "wayPart", "(IIII)I"⟩
abbrev cX11_wordOf : ByteArray := prog_1_method_35_code
def yX11_wordOf : MethodName := ⟨RX11, "wordOf", "(III)LDiaryHouse$Line;"⟩
abbrev cX11_bearers : ByteArray := prog_1_method_36_code
def yX11_bearers : MethodName := ⟨RX11, "bearers", "(II)I"⟩
abbrev cX11_mark : ByteArray := prog_1_method_37_code
def yX11_mark : MethodName := ⟨RX11, "mark", "(III)Z"⟩
abbrev cX11_marked : ByteArray := prog_1_method_38_code
def yX11_marked : MethodName := ⟨RX11, "marked", "(III)I"⟩
abbrev cX11_layMarks : ByteArray := prog_1_method_39_code
def yX11_layMarks : MethodName := ⟨RX11, "layMarks", "(I)V"⟩
abbrev cX11_agree : ByteArray := prog_1_method_40_code
def yX11_agree : MethodName := ⟨RX11, "agree", "(IIII)I"⟩
abbrev cX11_habit : ByteArray := prog_1_method_41_code
def yX11_habit : MethodName := ⟨RX11, "habit", "(II)I"⟩
abbrev cX11_held : ByteArray := prog_1_method_42_code
def yX11_held : MethodName := ⟨RX11, "held", "(II)I"⟩
abbrev cX11_readersGiving : ByteArray := prog_1_method_43_code
def yX11_readersGiving : MethodName := ⟨RX11, "readersGiving", "(II)I"⟩
abbrev cX11_land : ByteArray := prog_1_method_44_code
def yX11_land : MethodName := ⟨RX11, "land", "(III)Z"⟩
abbrev cX11_allPeople : ByteArray := prog_1_method_45_code
def yX11_allPeople : MethodName := ⟨RX11, "allPeople", "()I"⟩
abbrev cX11_span : ByteArray := prog_1_method_46_code
def yX11_span : MethodName := ⟨RX11, "span", "(IIII)I"⟩
abbrev cX11_meanMood : ByteArray := prog_1_method_47_code
def yX11_meanMood : MethodName := ⟨RX11, "meanMood", "(IIIII)I"⟩
abbrev cX11_share : ByteArray := prog_1_method_48_code
def yX11_share : MethodName := ⟨RX11, "share", "(III)I"⟩
abbrev cX11_mood : ByteArray := prog_1_method_49_code
def yX11_mood : MethodName := ⟨RX11, "mood", "(III)I"⟩
abbrev cX11_turn : ByteArray := prog_1_method_50_code
def yX11_turn : MethodName := ⟨RX11, "turn", "(IIII)I"⟩
abbrev cX11_last : ByteArray := prog_1_method_51_code
def yX11_last : MethodName := ⟨RX11, "last", "(II)I"⟩
abbrev cX11_lastOf : ByteArray := prog_1_method_52_code
def yX11_lastOf : MethodName := ⟨RX11, "lastOf", "(II)I"⟩
abbrev cX11_lean : ByteArray := prog_1_method_53_code
def yX11_lean : MethodName := ⟨RX11, "lean", "(II)I"⟩
abbrev cX11_watcher : ByteArray := prog_1_method_54_code
def yX11_watcher : MethodName := ⟨RX11, "watcher", "(II)I"⟩
abbrev cX11_want : ByteArray := prog_1_method_55_code
def yX11_want : MethodName := ⟨RX11, "want", "(II)I"⟩
abbrev cX11_table : ByteArray := prog_1_method_56_code
def yX11_table : MethodName := ⟨RX11, "table", "(I)I"⟩
abbrev cX11_alike : ByteArray := prog_1_method_57_code
def yX11_alike : MethodName := ⟨RX11, "alike", "(II)I"⟩
abbrev cX11_alikeTo : ByteArray := prog_1_method_58_code
def yX11_alikeTo : MethodName := ⟨RX11, "alikeTo", "(LDiaryHouse$Person;I)I"⟩
abbrev cX11_hide : ByteArray := prog_1_method_59_code
def yX11_hide : MethodName := ⟨RX11, "hide", "(I)I"⟩
abbrev cX11_allHaveAlike : ByteArray := prog_1_method_60_code
def yX11_allHaveAlike : MethodName := ⟨RX11, "allHaveAlike", "(II)Z"⟩
abbrev cX11_question : ByteArray := prog_1_method_61_code
def yX11_question : MethodName := ⟨RX11, "question", "(II)I"⟩
abbrev cX11_buy : ByteArray := prog_1_method_62_code
def yX11_buy : MethodName := ⟨RX11, "buy", "(I)I"⟩
abbrev cX11_hasTheFirstUnlike : ByteArray := prog_1_method_63_code
def yX11_hasTheFirstUnlike : MethodName := ⟨RX11, "hasTheFirstUnlike", "(II)Z"⟩
abbrev cX11_priceOf : ByteArray := prog_1_method_64_code
def yX11_priceOf : MethodName := ⟨RX11, "priceOf", "(I)I"⟩
abbrev cX11_sortsOf : ByteArray := prog_1_method_65_code
def yX11_sortsOf : MethodName := ⟨RX11, "sortsOf", "(I)I"⟩
abbrev cX11_judge : ByteArray := prog_1_method_66_code
def yX11_judge : MethodName := ⟨RX11, "judge", "(II)I"⟩
abbrev cX11_lot : ByteArray := prog_1_method_67_code
def yX11_lot : MethodName := ⟨RX11, "lot", "(IJI)I"⟩
abbrev cX11_draw : ByteArray := prog_1_method_68_code
def yX11_draw : MethodName := ⟨RX11, "draw", "(IJ)V"⟩
abbrev cX11_beside : ByteArray := prog_1_method_69_code
def yX11_beside : MethodName := ⟨RX11, "beside", "(IJI)I"⟩
abbrev cX11_isDrawn : ByteArray := prog_1_method_70_code
def yX11_isDrawn : MethodName := ⟨RX11, "isDrawn", "(II)Z"⟩
abbrev cX11_count : ByteArray := prog_1_method_71_code
def yX11_count : MethodName := ⟨RX11, "count", "(I)I"⟩
abbrev cX11_personsGone : ByteArray := prog_1_method_72_code
def yX11_personsGone : MethodName := ⟨RX11, "personsGone", "()I"⟩
abbrev cX11_isWithin : ByteArray := prog_1_method_73_code
def yX11_isWithin : MethodName := ⟨RX11, "isWithin", "(III)Z"⟩
abbrev cX11_isDay : ByteArray := prog_1_method_74_code
def yX11_isDay : MethodName := ⟨RX11, "isDay", "(I)Z"⟩
abbrev cX11_isKnownDay : ByteArray := prog_1_method_75_code
def yX11_isKnownDay : MethodName := ⟨RX11, "isKnownDay", "(I)Z"⟩
abbrev cX11_isPerson : ByteArray := prog_1_method_76_code
def yX11_isPerson : MethodName := ⟨RX11, "isPerson", "(I)Z"⟩
abbrev cX11_isLine : ByteArray := prog_1_method_77_code
def yX11_isLine : MethodName := ⟨RX11, "isLine", "(I)Z"⟩
abbrev cX11_isLineKnown : ByteArray := prog_1_method_78_code
def yX11_isLineKnown : MethodName := ⟨RX11, "isLineKnown", "(II)Z"⟩
abbrev cX11_isPlace : ByteArray := prog_1_method_79_code
def yX11_isPlace : MethodName := ⟨RX11, "isPlace", "(I)Z"⟩
abbrev cX11_isSort : ByteArray := prog_1_method_80_code
def yX11_isSort : MethodName := ⟨RX11, "isSort", "(I)Z"⟩
abbrev cX11_isSaying : ByteArray := prog_1_method_81_code
def yX11_isSaying : MethodName := ⟨RX11, "isSaying", "(I)Z"⟩
abbrev cX11_isRank : ByteArray := prog_1_method_82_code
def yX11_isRank : MethodName := ⟨RX11, "isRank", "(I)Z"⟩
abbrev cX11_isReader : ByteArray := prog_1_method_83_code
def yX11_isReader : MethodName := ⟨RX11, "isReader", "(I)Z"⟩
abbrev cX11_isHour : ByteArray := prog_1_method_84_code
def yX11_isHour : MethodName := ⟨RX11, "isHour", "(I)Z"⟩
abbrev cX11_isCoin : ByteArray := prog_1_method_85_code
def yX11_isCoin : MethodName := ⟨RX11, "isCoin", "(I)Z"⟩
abbrev cX11_isLotSize : ByteArray := prog_1_method_86_code
def yX11_isLotSize : MethodName := ⟨RX11, "isLotSize", "(I)Z"⟩
def RX12 : String := "DiaryHouseModel"
def TX12 : u_T := fun k => match k with
  | 0 => ("DiaryHouseModel", "thrown", "I", false)
  | 1 => ("DiaryHouseModel", "now", "I", false)
  | 2 => ("DiaryHouseModel", "place", "[I", true)
  | 3 => ("DiaryHouseModel", "age", "[I", true)
  | 4 => ("DiaryHouseModel", "work", "[I", true)
  | 5 => ("DiaryHouseModel", "stopOf", "[I", true)
  | 6 => ("DiaryHouseModel", "stopDay", "[I", true)
  | 7 => ("DiaryHouseModel", "stopTold", "[I", true)
  | 8 => ("DiaryHouseModel", "lineOf", "[I", true)
  | 9 => ("DiaryHouseModel", "lineDay", "[I", true)
  | 10 => ("DiaryHouseModel", "lineSort", "[I", true)
  | 11 => ("DiaryHouseModel", "lineMood", "[I", true)
  | 12 => ("DiaryHouseModel", "lineSaying", "[I", true)
  | 13 => ("DiaryHouseModel", "lineFrom", "[I", true)
  | 14 => ("DiaryHouseModel", "lineTold", "[I", true)
  | 15 => ("DiaryHouseModel", "persons", "I", false)
  | 16 => ("DiaryHouseModel", "lines", "I", false)
  | 17 => ("DiaryHouseModel", "stops", "I", false)
  | 18 => ("DiaryHouseModel", "tape", "[B", true)
  | 19 => ("DiaryHouseModel", "ruleText", "[B", true)
  | 20 => ("DiaryHouseModel", "ruleLong", "[I", true)
  | 21 => ("DiaryHouseModel", "ruleFrom", "[I", true)
  | 22 => ("DiaryHouseModel", "ruleTold", "[I", true)
  | 23 => ("DiaryHouseModel", "letters", "[I", true)
  | 24 => ("DiaryHouseModel", "length", "I", false)
  | 25 => ("DiaryHouseModel", "rules", "I", false)
  | 26 => ("DiaryHouseModel", "text", "[B", false)
  | 27 => ("DiaryHouseModel", "begins", "I", false)
  | 28 => ("DiaryHouseModel", "ends", "I", false)
  | 29 => ("DiaryHouseModel", "at", "I", false)
  | 30 => ("DiaryHouseModel", "fault", "I", false)
  | 31 => ("DiaryHouseModel", "deep", "I", false)
  | 32 => ("DiaryHouseModel", "label", "I", false)
  | 33 => ("DiaryHouseModel", "found", "I", false)
  | 34 => ("DiaryHouseModel", "hasFound", "Z", false)
  | 35 => ("DiaryHouseModel", "chosen", "[I", true)
  | 36 => ("DiaryHouseModel", "chosenMany", "I", false)
  | 37 => ("DiaryHouseModel", "dayMany", "I", false)
  | 38 => ("DiaryHouseModel", "happenPlace", "[I", true)
  | 39 => ("DiaryHouseModel", "happenDay", "[I", true)
  | 40 => ("DiaryHouseModel", "happenSort", "[I", true)
  | 41 => ("DiaryHouseModel", "happenTold", "[I", true)
  | 42 => ("DiaryHouseModel", "happened", "[Z", true)
  | 43 => ("DiaryHouseModel", "seen", "[Z", true)
  | 44 => ("DiaryHouseModel", "happenings", "I", false)
  | 45 => ("DiaryHouseModel", "markReader", "[I", true)
  | 46 => ("DiaryHouseModel", "markLine", "[I", true)
  | 47 => ("DiaryHouseModel", "markIs", "[I", true)
  | 48 => ("DiaryHouseModel", "markTold", "[I", true)
  | 49 => ("DiaryHouseModel", "marks", "I", false)
  | 50 => ("DiaryHouseModel", "land", "[I", true)
  | 51 => ("DiaryHouseModel", "moods", "[I", true)
  | 52 => ("DiaryHouseModel", "moodMany", "I", false)
  | 53 => ("DiaryHouseModel", "watchFrom", "[I", true)
  | 54 => ("DiaryHouseModel", "watchTo", "[I", true)
  | 55 => ("DiaryHouseModel", "wantPlace", "[I", true)
  | 56 => ("DiaryHouseModel", "wantHour", "[I", true)
  | 57 => ("DiaryHouseModel", "tried", "[I", true)
  | 58 => ("DiaryHouseModel", "bestTable", "[I", true)
  | 59 => ("DiaryHouseModel", "watchers", "I", false)
  | 60 => ("DiaryHouseModel", "wanted", "I", false)
  | 61 => ("DiaryHouseModel", "bestSeen", "I", false)
  | 62 => ("DiaryHouseModel", "price", "[I", true)
  | 63 => ("DiaryHouseModel", "tells", "[I", true)
  | 64 => ("DiaryHouseModel", "drawn", "[I", true)
  | _ => ("DiaryHouseModel", "questions", "I", false)
def tyX12 : Nat → FieldType := fun k => match k with
  | 0 => .int
  | 1 => .int
  | 2 => .array .int
  | 3 => .array .int
  | 4 => .array .int
  | 5 => .array .int
  | 6 => .array .int
  | 7 => .array .int
  | 8 => .array .int
  | 9 => .array .int
  | 10 => .array .int
  | 11 => .array .int
  | 12 => .array .int
  | 13 => .array .int
  | 14 => .array .int
  | 15 => .int
  | 16 => .int
  | 17 => .int
  | 18 => .array .byte
  | 19 => .array .byte
  | 20 => .array .int
  | 21 => .array .int
  | 22 => .array .int
  | 23 => .array .int
  | 24 => .int
  | 25 => .int
  | 26 => .array .byte
  | 27 => .int
  | 28 => .int
  | 29 => .int
  | 30 => .int
  | 31 => .int
  | 32 => .int
  | 33 => .int
  | 34 => .boolean
  | 35 => .array .int
  | 36 => .int
  | 37 => .int
  | 38 => .array .int
  | 39 => .array .int
  | 40 => .array .int
  | 41 => .array .int
  | 42 => .array .boolean
  | 43 => .array .boolean
  | 44 => .int
  | 45 => .array .int
  | 46 => .array .int
  | 47 => .array .int
  | 48 => .array .int
  | 49 => .int
  | 50 => .array .int
  | 51 => .array .int
  | 52 => .int
  | 53 => .array .int
  | 54 => .array .int
  | 55 => .array .int
  | 56 => .array .int
  | 57 => .array .int
  | 58 => .array .int
  | 59 => .int
  | 60 => .int
  | 61 => .int
  | 62 => .array .int
  | 63 => .array .int
  | 64 => .array .int
  | _ => .int
abbrev wsX120 : List Cond := u_ws RX12 TX12 66
theorem nmX12 : ∀ a, a < 66 → ∀ b, b < 66 → a ≠ b → (TX12 a).2.1 ≠ (TX12 b).2.1 := by decide +kernel
theorem tyX12_ok : ∀ k, k < 66 → parseFieldDescriptor (TX12 k).2.2.1 = some (tyX12 k) := by decide +kernel
abbrev cX12_init : ByteArray := prog_14_method_1_code
def yX12_init : MethodName := ⟨RX12, "<init>", "()V"⟩
abbrev cX12_thrown : ByteArray := prog_14_method_2_code
def yX12_thrown : MethodName := ⟨RX12, "thrown", "()I"⟩
abbrev cX12_isIn : ByteArray := prog_14_method_3_code
def yX12_isIn : MethodName := ⟨RX12, "isIn", "(III)Z"⟩
abbrev cX12_isKnown : ByteArray := prog_14_method_4_code
def yX12_isKnown : MethodName := ⟨RX12, "isKnown", "(I)Z"⟩
abbrev cX12_isDay : ByteArray := prog_14_method_5_code
def yX12_isDay : MethodName := ⟨RX12, "isDay", "(I)Z"⟩
abbrev cX12_isSort : ByteArray := prog_14_method_6_code
def yX12_isSort : MethodName := ⟨RX12, "isSort", "(I)Z"⟩
abbrev cX12_days : ByteArray := prog_14_method_7_code
def yX12_days : MethodName := ⟨RX12, "days", "(I)I"⟩
abbrev cX12_isPerson : ByteArray := prog_14_method_8_code
def yX12_isPerson : MethodName := ⟨RX12, "isPerson", "(I)Z"⟩
abbrev cX12_isLine : ByteArray := prog_14_method_9_code
def yX12_isLine : MethodName := ⟨RX12, "isLine", "(I)Z"⟩
abbrev cX12_isLineBy : ByteArray := prog_14_method_10_code
def yX12_isLineBy : MethodName := ⟨RX12, "isLineBy", "(II)Z"⟩
abbrev cX12_person : ByteArray := prog_14_method_11_code
def yX12_person : MethodName := ⟨RX12, "person", "(III)I"⟩
abbrev cX12_stratum : ByteArray := prog_14_method_12_code
def yX12_stratum : MethodName := ⟨RX12, "stratum", "(I)I"⟩
abbrev cX12_stopsFrom : ByteArray := prog_14_method_13_code
def yX12_stopsFrom : MethodName := ⟨RX12, "stopsFrom", "(II)I"⟩
abbrev cX12_line : ByteArray := prog_14_method_14_code
def yX12_line : MethodName := ⟨RX12, "line", "(IIIIII)I"⟩
abbrev cX12_told : ByteArray := prog_14_method_15_code
def yX12_told : MethodName := ⟨RX12, "told", "(II)I"⟩
abbrev cX12_stop : ByteArray := prog_14_method_16_code
def yX12_stop : MethodName := ⟨RX12, "stop", "(II)Z"⟩
abbrev cX12_stopped : ByteArray := prog_14_method_17_code
def yX12_stopped : MethodName := ⟨RX12, "stopped", "(II)I"⟩
abbrev cX12_bytesIn : ByteArray := prog_14_method_18_code
def yX12_bytesIn : MethodName := ⟨RX12, "bytesIn", "(I)I"⟩
abbrev cX12_put : ByteArray := prog_14_method_19_code
def yX12_put : MethodName := ⟨RX12, "put", "(I)V"⟩
abbrev cX12_feed : ByteArray := prog_14_method_20_code
def yX12_feed : MethodName := ⟨RX12, "feed", "(IIIII)I"⟩
abbrev cX12_end : ByteArray := prog_14_method_21_code
def yX12_end : MethodName := ⟨RX12, "end", "(I)Z"⟩
abbrev cX12_look : ByteArray := prog_14_method_22_code
def yX12_look : MethodName := ⟨RX12, "look", "()I"⟩
abbrev cX12_fails : ByteArray := prog_14_method_23_code
def yX12_fails : MethodName := ⟨RX12, "fails", "()Z"⟩
abbrev cX12_goesIn : ByteArray := prog_14_method_24_code
def yX12_goesIn : MethodName := ⟨RX12, "goesIn", "()Z"⟩
abbrev cX12_takes : ByteArray := prog_14_method_25_code
def yX12_takes : MethodName := ⟨RX12, "takes", "(I)Z"⟩
abbrev cX12_isDigit : ByteArray := prog_14_method_26_code
def yX12_isDigit : MethodName := ⟨RX12, "isDigit", "()Z"⟩
abbrev cX12_bound : ByteArray := prog_14_method_27_code
def yX12_bound : MethodName := ⟨RX12, "bound", "(J)I"⟩
abbrev cX12_atom : ByteArray := prog_14_method_28_code
def yX12_atom : MethodName := ⟨RX12, "atom", "()I"⟩
abbrev cX12_term : ByteArray := prog_14_method_29_code
def yX12_term : MethodName := ⟨RX12, "term", "()I"⟩
abbrev cX12_sum : ByteArray := prog_14_method_30_code
def yX12_sum : MethodName := ⟨RX12, "sum", "()I"⟩
abbrev cX12_isSign : ByteArray := prog_14_method_31_code
def yX12_isSign : MethodName := ⟨RX12, "isSign", "(I)Z"⟩
abbrev cX12_compares : ByteArray := prog_14_method_32_code
def yX12_compares : MethodName := ⟨RX12, "compares", "(ZI)Z"⟩
abbrev cX12_unit : ByteArray := prog_14_method_33_code
def yX12_unit : MethodName := ⟨RX12, "unit", "()Z"⟩
abbrev cX12_part : ByteArray := prog_14_method_34_code
def yX12_part : MethodName := ⟨RX12, "part", "(ZI)Z"⟩
abbrev cX12_condition : ByteArray := prog_14_method_35_code
def yX12_condition : MethodName := ⟨RX12, "condition", "(ZI)Z"⟩
abbrev cX12_clause : ByteArray := prog_14_method_36_code
def yX12_clause : MethodName := ⟨RX12, "clause", "()V"⟩
abbrev cX12_goThrough : ByteArray := prog_14_method_37_code
def yX12_goThrough : MethodName := ⟨RX12, "goThrough", "([BIII)V"⟩
abbrev cX12_fault : ByteArray := prog_14_method_38_code
def yX12_fault : MethodName := ⟨RX12, "fault", "()I"⟩
abbrev cX12_rule : ByteArray := prog_14_method_39_code
def yX12_rule : MethodName := ⟨RX12, "rule", "(I)I"⟩
abbrev cX12_ruleOn : ByteArray := prog_14_method_40_code
def yX12_ruleOn : MethodName := ⟨RX12, "ruleOn", "(II)I"⟩
abbrev cX12_force : ByteArray := prog_14_method_41_code
def yX12_force : MethodName := ⟨RX12, "force", "(II)I"⟩
abbrev cX12_worth : ByteArray := prog_14_method_42_code
def yX12_worth : MethodName := ⟨RX12, "worth", "(III)I"⟩
abbrev cX12_noLetters : ByteArray := prog_14_method_43_code
def yX12_noLetters : MethodName := ⟨RX12, "noLetters", "()V"⟩
abbrev cX12_letPerson : ByteArray := prog_14_method_44_code
def yX12_letPerson : MethodName := ⟨RX12, "letPerson", "(I)V"⟩
abbrev cX12_asked : ByteArray := prog_14_method_45_code
def yX12_asked : MethodName := ⟨RX12, "asked", "(IIII)I"⟩
abbrev cX12_mayShow : ByteArray := prog_14_method_46_code
def yX12_mayShow : MethodName := ⟨RX12, "mayShow", "(IIII)Z"⟩
abbrev cX12_shown : ByteArray := prog_14_method_47_code
def yX12_shown : MethodName := ⟨RX12, "shown", "(IIII)I"⟩
abbrev cX12_digests : ByteArray := prog_14_method_48_code
def yX12_digests : MethodName := ⟨RX12, "digests", "(IIII)Z"⟩
abbrev cX12_digest : ByteArray := prog_14_method_49_code
def yX12_digest : MethodName := ⟨RX12, "digest", "(IIIII)I"⟩
abbrev cX12_left : ByteArray := prog_14_method_50_code
def yX12_left : MethodName := ⟨RX12, "left", "(IIII)I"⟩
abbrev cX12_happen : ByteArray := prog_14_method_51_code
def yX12_happen : MethodName := ⟨RX12, "happen", "(IIIZ)Z"⟩
abbrev cX12_truth : ByteArray := prog_14_method_52_code
def yX12_truth : MethodName := ⟨RX12, "truth", "(II)I"⟩
abbrev cX12_wordOf : ByteArray := prog_14_method_53_code
def yX12_wordOf : MethodName := ⟨RX12, "wordOf", "(III)I"⟩
abbrev cX12_way : ByteArray := prog_14_method_54_code
def yX12_way : MethodName := ⟨RX12, "way", "(IIII)I"⟩
abbrev cX12_bearers : ByteArray := prog_14_method_55_code
def yX12_bearers : MethodName := ⟨RX12, "bearers", "(II)I"⟩
abbrev cX12_isReader : ByteArray := prog_14_method_56_code
def yX12_isReader : MethodName := ⟨RX12, "isReader", "(I)Z"⟩
abbrev cX12_mark : ByteArray := prog_14_method_57_code
def yX12_mark : MethodName := ⟨RX12, "mark", "(III)Z"⟩
abbrev cX12_markOf : ByteArray := prog_14_method_58_code
def yX12_markOf : MethodName := ⟨RX12, "markOf", "(III)I"⟩
abbrev cX12_marked : ByteArray := prog_14_method_59_code
def yX12_marked : MethodName := ⟨RX12, "marked", "(III)I"⟩
abbrev cX12_agree : ByteArray := prog_14_method_60_code
def yX12_agree : MethodName := ⟨RX12, "agree", "(IIII)I"⟩
abbrev cX12_habit : ByteArray := prog_14_method_61_code
def yX12_habit : MethodName := ⟨RX12, "habit", "(II)I"⟩
abbrev cX12_held : ByteArray := prog_14_method_62_code
def yX12_held : MethodName := ⟨RX12, "held", "(II)I"⟩
abbrev cX12_land : ByteArray := prog_14_method_63_code
def yX12_land : MethodName := ⟨RX12, "land", "(III)Z"⟩
abbrev cX12_people : ByteArray := prog_14_method_64_code
def yX12_people : MethodName := ⟨RX12, "people", "()I"⟩
abbrev cX12_span : ByteArray := prog_14_method_65_code
def yX12_span : MethodName := ⟨RX12, "span", "(IIII)I"⟩
abbrev cX12_mood : ByteArray := prog_14_method_66_code
def yX12_mood : MethodName := ⟨RX12, "mood", "(III)I"⟩
abbrev cX12_apart : ByteArray := prog_14_method_67_code
def yX12_apart : MethodName := ⟨RX12, "apart", "(II)J"⟩
abbrev cX12_turn : ByteArray := prog_14_method_68_code
def yX12_turn : MethodName := ⟨RX12, "turn", "(IIII)I"⟩
abbrev cX12_lastOf : ByteArray := prog_14_method_69_code
def yX12_lastOf : MethodName := ⟨RX12, "lastOf", "(II)I"⟩
abbrev cX12_last : ByteArray := prog_14_method_70_code
def yX12_last : MethodName := ⟨RX12, "last", "(II)I"⟩
abbrev cX12_isStopped : ByteArray := prog_14_method_71_code
def yX12_isStopped : MethodName := ⟨RX12, "isStopped", "(II)Z"⟩
abbrev cX12_lean : ByteArray := prog_14_method_72_code
def yX12_lean : MethodName := ⟨RX12, "lean", "(II)I"⟩
abbrev cX12_watcher : ByteArray := prog_14_method_73_code
def yX12_watcher : MethodName := ⟨RX12, "watcher", "(II)I"⟩
abbrev cX12_want : ByteArray := prog_14_method_74_code
def yX12_want : MethodName := ⟨RX12, "want", "(II)I"⟩
abbrev cX12_maySee : ByteArray := prog_14_method_75_code
def yX12_maySee : MethodName := ⟨RX12, "maySee", "(II)Z"⟩
abbrev cX12_tryTable : ByteArray := prog_14_method_76_code
def yX12_tryTable : MethodName := ⟨RX12, "tryTable", "(II)V"⟩
abbrev cX12_table : ByteArray := prog_14_method_77_code
def yX12_table : MethodName := ⟨RX12, "table", "(I)I"⟩
abbrev cX12_alikeOf : ByteArray := prog_14_method_78_code
def yX12_alikeOf : MethodName := ⟨RX12, "alikeOf", "(II)I"⟩
abbrev cX12_alike : ByteArray := prog_14_method_79_code
def yX12_alike : MethodName := ⟨RX12, "alike", "(II)I"⟩
abbrev cX12_hide : ByteArray := prog_14_method_80_code
def yX12_hide : MethodName := ⟨RX12, "hide", "(I)I"⟩
abbrev cX12_question : ByteArray := prog_14_method_81_code
def yX12_question : MethodName := ⟨RX12, "question", "(II)I"⟩
abbrev cX12_priceOf : ByteArray := prog_14_method_82_code
def yX12_priceOf : MethodName := ⟨RX12, "priceOf", "(I)I"⟩
abbrev cX12_sortsOf : ByteArray := prog_14_method_83_code
def yX12_sortsOf : MethodName := ⟨RX12, "sortsOf", "(I)I"⟩
abbrev cX12_buy : ByteArray := prog_14_method_84_code
def yX12_buy : MethodName := ⟨RX12, "buy", "(I)I"⟩
abbrev cX12_judge : ByteArray := prog_14_method_85_code
def yX12_judge : MethodName := ⟨RX12, "judge", "(II)I"⟩
abbrev cX12_draws : ByteArray := prog_14_method_86_code
def yX12_draws : MethodName := ⟨RX12, "draws", "(IJ)Z"⟩
abbrev cX12_lot : ByteArray := prog_14_method_87_code
def yX12_lot : MethodName := ⟨RX12, "lot", "(IJI)I"⟩
abbrev cX12_beside : ByteArray := prog_14_method_88_code
def yX12_beside : MethodName := ⟨RX12, "beside", "(IJI)I"⟩
abbrev cX12_count : ByteArray := prog_14_method_89_code
def yX12_count : MethodName := ⟨RX12, "count", "(I)I"⟩
def RJx145de : String := "java/io/Serializable"
def TJx145de : u_T := fun k => match k with
  | _ => ("", "", "", false)
def tyJx145de : Nat → FieldType := fun k => match k with
  | _ => .int
abbrev wsJx145de0 : List Cond := u_ws RJx145de TJx145de 0
theorem nmJx145de : ∀ a, a < 0 → ∀ b, b < 0 → a ≠ b → (TJx145de a).2.1 ≠ (TJx145de b).2.1 := by decide +kernel
theorem tyJx145de_ok : ∀ k, k < 0 → parseFieldDescriptor (TJx145de k).2.2.1 = some (tyJx145de k) := by decide +kernel
def RJx9f9b0 : String := "java/lang/CharSequence"
def TJx9f9b0 : u_T := fun k => match k with
  | _ => ("", "", "", false)
def tyJx9f9b0 : Nat → FieldType := fun k => match k with
  | _ => .int
abbrev wsJx9f9b00 : List Cond := u_ws RJx9f9b0 TJx9f9b0 0
theorem nmJx9f9b0 : ∀ a, a < 0 → ∀ b, b < 0 → a ≠ b → (TJx9f9b0 a).2.1 ≠ (TJx9f9b0 b).2.1 := by decide +kernel
theorem tyJx9f9b0_ok : ∀ k, k < 0 → parseFieldDescriptor (TJx9f9b0 k).2.2.1 = some (tyJx9f9b0 k) := by decide +kernel
def RJ11 : String := "java/lang/Character"
def TJ11 : u_T := fun k => match k with
  | _ => ("", "", "", false)
def tyJ11 : Nat → FieldType := fun k => match k with
  | _ => .int
abbrev wsJ110 : List Cond := u_ws RJ11 TJ11 0
theorem nmJ11 : ∀ a, a < 0 → ∀ b, b < 0 → a ≠ b → (TJ11 a).2.1 ≠ (TJ11 b).2.1 := by decide +kernel
theorem tyJ11_ok : ∀ k, k < 0 → parseFieldDescriptor (TJ11 k).2.2.1 = some (tyJ11 k) := by decide +kernel
abbrev cJ11_isValidCodePoint_9a6ad : ByteArray := prog_17_method_11_code
def yJ11_isValidCodePoint_9a6ad : MethodName := ⟨RJ11, "isValidCodePoint", "(I)Z"⟩
abbrev cJ11_highSurrogate_5068e : ByteArray := prog_17_method_28_code
def yJ11_highSurrogate_5068e : MethodName := ⟨RJ11, "highSurrogate", "(I)C"⟩
abbrev cJ11_lowSurrogate_5068e : ByteArray := prog_17_method_29_code
def yJ11_lowSurrogate_5068e : MethodName := ⟨RJ11, "lowSurrogate", "(I)C"⟩
def RJx8e188 : String := "java/lang/Cloneable"
def TJx8e188 : u_T := fun k => match k with
  | _ => ("", "", "", false)
def tyJx8e188 : Nat → FieldType := fun k => match k with
  | _ => .int
abbrev wsJx8e1880 : List Cond := u_ws RJx8e188 TJx8e188 0
theorem nmJx8e188 : ∀ a, a < 0 → ∀ b, b < 0 → a ≠ b → (TJx8e188 a).2.1 ≠ (TJx8e188 b).2.1 := by decide +kernel
theorem tyJx8e188_ok : ∀ k, k < 0 → parseFieldDescriptor (TJx8e188 k).2.2.1 = some (tyJx8e188 k) := by decide +kernel
def RJxb160c : String := "java/lang/Comparable"
def TJxb160c : u_T := fun k => match k with
  | _ => ("", "", "", false)
def tyJxb160c : Nat → FieldType := fun k => match k with
  | _ => .int
abbrev wsJxb160c0 : List Cond := u_ws RJxb160c TJxb160c 0
theorem nmJxb160c : ∀ a, a < 0 → ∀ b, b < 0 → a ≠ b → (TJxb160c a).2.1 ≠ (TJxb160c b).2.1 := by decide +kernel
theorem tyJxb160c_ok : ∀ k, k < 0 → parseFieldDescriptor (TJxb160c k).2.2.1 = some (tyJxb160c k) := by decide +kernel
def RJ6 : String := "java/lang/Integer"
def TJ6 : u_T := fun k => match k with
  | _ => ("", "", "", false)
def tyJ6 : Nat → FieldType := fun k => match k with
  | _ => .int
abbrev wsJ60 : List Cond := u_ws RJ6 TJ6 0
theorem nmJ6 : ∀ a, a < 0 → ∀ b, b < 0 → a ≠ b → (TJ6 a).2.1 ≠ (TJ6 b).2.1 := by decide +kernel
theorem tyJ6_ok : ∀ k, k < 0 → parseFieldDescriptor (TJ6 k).2.2.1 = some (tyJ6 k) := by decide +kernel
abbrev cJ6_bitCount_0f7a4 : ByteArray := prog_21_method_49_code
def yJ6_bitCount_0f7a4 : MethodName := ⟨RJ6, "bitCount", "(I)I"⟩
def RJxab1ab : String := "java/lang/Iterable"
def TJxab1ab : u_T := fun k => match k with
  | _ => ("", "", "", false)
def tyJxab1ab : Nat → FieldType := fun k => match k with
  | _ => .int
abbrev wsJxab1ab0 : List Cond := u_ws RJxab1ab TJxab1ab 0
theorem nmJxab1ab : ∀ a, a < 0 → ∀ b, b < 0 → a ≠ b → (TJxab1ab a).2.1 ≠ (TJxab1ab b).2.1 := by decide +kernel
theorem tyJxab1ab_ok : ∀ k, k < 0 → parseFieldDescriptor (TJxab1ab k).2.2.1 = some (tyJxab1ab k) := by decide +kernel
def RJ9 : String := "java/lang/Math"
def TJ9 : u_T := fun k => match k with
  | _ => ("", "", "", false)
def tyJ9 : Nat → FieldType := fun k => match k with
  | _ => .int
abbrev wsJ90 : List Cond := u_ws RJ9 TJ9 0
theorem nmJ9 : ∀ a, a < 0 → ∀ b, b < 0 → a ≠ b → (TJ9 a).2.1 ≠ (TJ9 b).2.1 := by decide +kernel
theorem tyJ9_ok : ∀ k, k < 0 → parseFieldDescriptor (TJ9 k).2.2.1 = some (tyJ9 k) := by decide +kernel
abbrev cJ9_abs_0f7a4 : ByteArray := prog_23_method_59_code
def yJ9_abs_0f7a4 : MethodName := ⟨RJ9, "abs", "(I)I"⟩
abbrev cJ9_abs_067f4 : ByteArray := prog_23_method_61_code
def yJ9_abs_067f4 : MethodName := ⟨RJ9, "abs", "(J)J"⟩
abbrev cJ9_max_7cf53 : ByteArray := prog_23_method_65_code
def yJ9_max_7cf53 : MethodName := ⟨RJ9, "max", "(II)I"⟩
abbrev cJ9_max_f86c9 : ByteArray := prog_23_method_66_code
def yJ9_max_f86c9 : MethodName := ⟨RJ9, "max", "(JJ)J"⟩
abbrev cJ9_min_7cf53 : ByteArray := prog_23_method_69_code
def yJ9_min_7cf53 : MethodName := ⟨RJ9, "min", "(II)I"⟩
abbrev cJ9_min_f86c9 : ByteArray := prog_23_method_70_code
def yJ9_min_f86c9 : MethodName := ⟨RJ9, "min", "(JJ)J"⟩
def RJ0 : String := "java/lang/String"
def TJ0 : u_T := fun k => match k with
  | _ => ("", "", "", false)
def tyJ0 : Nat → FieldType := fun k => match k with
  | _ => .int
abbrev wsJ00 : List Cond := u_ws RJ0 TJ0 0
theorem nmJ0 : ∀ a, a < 0 → ∀ b, b < 0 → a ≠ b → (TJ0 a).2.1 ≠ (TJ0 b).2.1 := by decide +kernel
theorem tyJ0_ok : ∀ k, k < 0 → parseFieldDescriptor (TJ0 k).2.2.1 = some (tyJ0 k) := by decide +kernel
abbrev cJ0_length_8abf5 : ByteArray := prog_25_method_54_code
def yJ0_length_8abf5 : MethodName := ⟨RJ0, "length", "()I"⟩
abbrev cJ0_indexOf_0f7a4 : ByteArray := prog_25_method_79_code
def yJ0_indexOf_0f7a4 : MethodName := ⟨RJ0, "indexOf", "(I)I"⟩
abbrev cJ0_indexOf_7cf53 : ByteArray := prog_25_method_80_code
def yJ0_indexOf_7cf53 : MethodName := ⟨RJ0, "indexOf", "(II)I"⟩
abbrev cJ0_coder_7d493 : ByteArray := prog_25_method_152_code
def yJ0_coder_7d493 : MethodName := ⟨RJ0, "coder", "()B"⟩
abbrev cJ0_isLatin1_aae02 : ByteArray := prog_25_method_154_code
def yJ0_isLatin1_aae02 : MethodName := ⟨RJ0, "isLatin1", "()Z"⟩
abbrev cJ0_checkBoundsBeginEnd_23922 : ByteArray := prog_25_method_158_code
def yJ0_checkBoundsBeginEnd_23922 : MethodName := ⟨RJ0, "checkBoundsBeginEnd", "(III)V"⟩
def RJ1 : String := "java/lang/StringLatin1"
def TJ1 : u_T := fun k => match k with
  | _ => ("", "", "", false)
def tyJ1 : Nat → FieldType := fun k => match k with
  | _ => .int
abbrev wsJ10 : List Cond := u_ws RJ1 TJ1 0
theorem nmJ1 : ∀ a, a < 0 → ∀ b, b < 0 → a ≠ b → (TJ1 a).2.1 ≠ (TJ1 b).2.1 := by decide +kernel
theorem tyJ1_ok : ∀ k, k < 0 → parseFieldDescriptor (TJ1 k).2.2.1 = some (tyJ1 k) := by decide +kernel
abbrev cJ1_canEncode_9a6ad : ByteArray := prog_26_method_4_code
def yJ1_canEncode_9a6ad : MethodName := ⟨RJ1, "canEncode", "(I)Z"⟩
abbrev cJ1_indexOf_4cfef : ByteArray := prog_26_method_22_code
def yJ1_indexOf_4cfef : MethodName := ⟨RJ1, "indexOf", "([BIII)I"⟩
abbrev cJ1_indexOfChar_4cfef : ByteArray := prog_26_method_23_code
def yJ1_indexOfChar_4cfef : MethodName := ⟨RJ1, "indexOfChar", "([BIII)I"⟩
def RJ2 : String := "java/lang/StringUTF16"
def TJ2 : u_T := fun k => match k with
  | _ => ("", "", "", false)
def tyJ2 : Nat → FieldType := fun k => match k with
  | _ => .int
abbrev wsJ20 : List Cond := u_ws RJ2 TJ2 0
theorem nmJ2 : ∀ a, a < 0 → ∀ b, b < 0 → a ≠ b → (TJ2 a).2.1 ≠ (TJ2 b).2.1 := by decide +kernel
theorem tyJ2_ok : ∀ k, k < 0 → parseFieldDescriptor (TJ2 k).2.2.1 = some (tyJ2 k) := by decide +kernel
abbrev cJ2_getChar_3b067 : ByteArray := prog_27_method_5_code
def yJ2_getChar_3b067 : MethodName := ⟨RJ2, "getChar", "([BI)C"⟩
abbrev cJ2_length_9d52b : ByteArray := prog_27_method_6_code
def yJ2_length_9d52b : MethodName := ⟨RJ2, "length", "([B)I"⟩
abbrev cJ2_indexOf_4cfef : ByteArray := prog_27_method_40_code
def yJ2_indexOf_4cfef : MethodName := ⟨RJ2, "indexOf", "([BIII)I"⟩
abbrev cJ2_indexOfChar_4cfef : ByteArray := prog_27_method_47_code
def yJ2_indexOfChar_4cfef : MethodName := ⟨RJ2, "indexOfChar", "([BIII)I"⟩
abbrev cJ2_indexOfCharUnsafe_4cfef : ByteArray := prog_27_method_48_code
def yJ2_indexOfCharUnsafe_4cfef : MethodName := ⟨RJ2, "indexOfCharUnsafe", "([BIII)I"⟩
abbrev cJ2_indexOfSupplementary_4cfef : ByteArray := prog_27_method_49_code
def yJ2_indexOfSupplementary_4cfef : MethodName := ⟨RJ2, "indexOfSupplementary", "([BIII)I"⟩
abbrev cJ2_checkBoundsBeginEnd_d044e : ByteArray := prog_27_method_93_code
def yJ2_checkBoundsBeginEnd_d044e : MethodName := ⟨RJ2, "checkBoundsBeginEnd", "(II[B)V"⟩
def RJ10 : String := "java/lang/System"
def TJ10 : u_T := fun k => match k with
  | _ => ("", "", "", false)
def tyJ10 : Nat → FieldType := fun k => match k with
  | _ => .int
abbrev wsJ100 : List Cond := u_ws RJ10 TJ10 0
theorem nmJ10 : ∀ a, a < 0 → ∀ b, b < 0 → a ≠ b → (TJ10 a).2.1 ≠ (TJ10 b).2.1 := by decide +kernel
theorem tyJ10_ok : ∀ k, k < 0 → parseFieldDescriptor (TJ10 k).2.2.1 = some (tyJ10 k) := by decide +kernel
def RJxfd54e : String := "java/lang/constant/Constable"
def TJxfd54e : u_T := fun k => match k with
  | _ => ("", "", "", false)
def tyJxfd54e : Nat → FieldType := fun k => match k with
  | _ => .int
abbrev wsJxfd54e0 : List Cond := u_ws RJxfd54e TJxfd54e 0
theorem nmJxfd54e : ∀ a, a < 0 → ∀ b, b < 0 → a ≠ b → (TJxfd54e a).2.1 ≠ (TJxfd54e b).2.1 := by decide +kernel
theorem tyJxfd54e_ok : ∀ k, k < 0 → parseFieldDescriptor (TJxfd54e k).2.2.1 = some (tyJxfd54e k) := by decide +kernel
def RJx3cf43 : String := "java/lang/constant/ConstantDesc"
def TJx3cf43 : u_T := fun k => match k with
  | _ => ("", "", "", false)
def tyJx3cf43 : Nat → FieldType := fun k => match k with
  | _ => .int
abbrev wsJx3cf430 : List Cond := u_ws RJx3cf43 TJx3cf43 0
theorem nmJx3cf43 : ∀ a, a < 0 → ∀ b, b < 0 → a ≠ b → (TJx3cf43 a).2.1 ≠ (TJx3cf43 b).2.1 := by decide +kernel
theorem tyJx3cf43_ok : ∀ k, k < 0 → parseFieldDescriptor (TJx3cf43 k).2.2.1 = some (tyJx3cf43 k) := by decide +kernel
def RJxa1e45 : String := "java/util/AbstractCollection"
def TJxa1e45 : u_T := fun k => match k with
  | _ => ("", "", "", false)
def tyJxa1e45 : Nat → FieldType := fun k => match k with
  | _ => .int
abbrev wsJxa1e450 : List Cond := u_ws RJxa1e45 TJxa1e45 0
theorem nmJxa1e45 : ∀ a, a < 0 → ∀ b, b < 0 → a ≠ b → (TJxa1e45 a).2.1 ≠ (TJxa1e45 b).2.1 := by decide +kernel
theorem tyJxa1e45_ok : ∀ k, k < 0 → parseFieldDescriptor (TJxa1e45 k).2.2.1 = some (tyJxa1e45 k) := by decide +kernel
abbrev cJxa1e45_init_da8c8 : ByteArray := prog_32_method_1_code
def yJxa1e45_init_da8c8 : MethodName := ⟨RJxa1e45, "<init>", "()V"⟩
def RJxc12de : String := "java/util/AbstractList"
def TJxc12de : u_T := fun k => match k with
  | _ => ("", "", "", false)
def tyJxc12de : Nat → FieldType := fun k => match k with
  | _ => .int
abbrev wsJxc12de0 : List Cond := u_ws RJxc12de TJxc12de 0
theorem nmJxc12de : ∀ a, a < 0 → ∀ b, b < 0 → a ≠ b → (TJxc12de a).2.1 ≠ (TJxc12de b).2.1 := by decide +kernel
theorem tyJxc12de_ok : ∀ k, k < 0 → parseFieldDescriptor (TJxc12de k).2.2.1 = some (tyJxc12de k) := by decide +kernel
abbrev cJxc12de_init_da8c8 : ByteArray := prog_33_method_1_code
def yJxc12de_init_da8c8 : MethodName := ⟨RJxc12de, "<init>", "()V"⟩
def RJx4a65c : String := "java/util/ArrayList"
def TJx4a65c : u_T := fun k => match k with
  | 0 => ("java/util/AbstractList", "modCount", "I", false)
  | 1 => ("java/util/ArrayList", "elementData", "[Ljava/lang/Object;", false)
  | _ => ("java/util/ArrayList", "size", "I", false)
def tyJx4a65c : Nat → FieldType := fun k => match k with
  | 0 => .int
  | 1 => .array (.object "java/lang/Object")
  | _ => .int
abbrev wsJx4a65c0 : List Cond := u_ws RJx4a65c TJx4a65c 3
theorem nmJx4a65c : ∀ a, a < 3 → ∀ b, b < 3 → a ≠ b → (TJx4a65c a).2.1 ≠ (TJx4a65c b).2.1 := by decide +kernel
theorem tyJx4a65c_ok : ∀ k, k < 3 → parseFieldDescriptor (TJx4a65c k).2.2.1 = some (tyJx4a65c k) := by decide +kernel
abbrev cJx4a65c_init_da8c8 : ByteArray := prog_34_method_2_code
def yJx4a65c_init_da8c8 : MethodName := ⟨RJx4a65c, "<init>", "()V"⟩
abbrev cJx4a65c_grow_92f84 : ByteArray := prog_34_method_6_code
def yJx4a65c_grow_92f84 : MethodName := ⟨RJx4a65c, "grow", "(I)[Ljava/lang/Object;"⟩
abbrev cJx4a65c_grow_d5877 : ByteArray := prog_34_method_7_code
def yJx4a65c_grow_d5877 : MethodName := ⟨RJx4a65c, "grow", "()[Ljava/lang/Object;"⟩
abbrev cJx4a65c_size_8abf5 : ByteArray := prog_34_method_8_code
def yJx4a65c_size_8abf5 : MethodName := ⟨RJx4a65c, "size", "()I"⟩
abbrev cJx4a65c_elementData_915e3 : ByteArray := prog_34_method_18_code
def yJx4a65c_elementData_915e3 : MethodName := ⟨RJx4a65c, "elementData", "(I)Ljava/lang/Object;"⟩
abbrev cJx4a65c_get_915e3 : ByteArray := prog_34_method_20_code
def yJx4a65c_get_915e3 : MethodName := ⟨RJx4a65c, "get", "(I)Ljava/lang/Object;"⟩
abbrev cJx4a65c_add_72be8 : ByteArray := prog_34_method_24_code
def yJx4a65c_add_72be8 : MethodName := ⟨RJx4a65c, "add", "(Ljava/lang/Object;[Ljava/lang/Object;I)V"⟩
abbrev cJx4a65c_add_9ea2d : ByteArray := prog_34_method_25_code
def yJx4a65c_add_9ea2d : MethodName := ⟨RJx4a65c, "add", "(Ljava/lang/Object;)Z"⟩
def RJ7 : String := "java/util/Arrays"
def TJ7 : u_T := fun k => match k with
  | _ => ("", "", "", false)
def tyJ7 : Nat → FieldType := fun k => match k with
  | _ => .int
abbrev wsJ70 : List Cond := u_ws RJ7 TJ7 0
theorem nmJ7 : ∀ a, a < 0 → ∀ b, b < 0 → a ≠ b → (TJ7 a).2.1 ≠ (TJ7 b).2.1 := by decide +kernel
theorem tyJ7_ok : ∀ k, k < 0 → parseFieldDescriptor (TJ7 k).2.2.1 = some (tyJ7 k) := by decide +kernel
abbrev cJ7_fill_53178 : ByteArray := prog_35_method_103_code
def yJ7_fill_53178 : MethodName := ⟨RJ7, "fill", "([II)V"⟩
abbrev cJ7_copyOf_1904c : ByteArray := prog_35_method_119_code
def yJ7_copyOf_1904c : MethodName := ⟨RJ7, "copyOf", "([Ljava/lang/Object;I)[Ljava/lang/Object;"⟩
abbrev cJ7_copyOf_6403c : ByteArray := prog_35_method_120_code
def yJ7_copyOf_6403c : MethodName := ⟨RJ7, "copyOf", "([Ljava/lang/Object;ILjava/lang/Class;)[Ljava/lang/Object;"⟩
abbrev cJ7_copyOf_59c91 : ByteArray := prog_35_method_123_code
def yJ7_copyOf_59c91 : MethodName := ⟨RJ7, "copyOf", "([II)[I"⟩
def RJx5ef63 : String := "java/util/Collection"
def TJx5ef63 : u_T := fun k => match k with
  | _ => ("", "", "", false)
def tyJx5ef63 : Nat → FieldType := fun k => match k with
  | _ => .int
abbrev wsJx5ef630 : List Cond := u_ws RJx5ef63 TJx5ef63 0
theorem nmJx5ef63 : ∀ a, a < 0 → ∀ b, b < 0 → a ≠ b → (TJx5ef63 a).2.1 ≠ (TJx5ef63 b).2.1 := by decide +kernel
theorem tyJx5ef63_ok : ∀ k, k < 0 → parseFieldDescriptor (TJx5ef63 k).2.2.1 = some (tyJx5ef63 k) := by decide +kernel
def RJxbd725 : String := "java/util/List"
def TJxbd725 : u_T := fun k => match k with
  | _ => ("", "", "", false)
def tyJxbd725 : Nat → FieldType := fun k => match k with
  | _ => .int
abbrev wsJxbd7250 : List Cond := u_ws RJxbd725 TJxbd725 0
theorem nmJxbd725 : ∀ a, a < 0 → ∀ b, b < 0 → a ≠ b → (TJxbd725 a).2.1 ≠ (TJxbd725 b).2.1 := by decide +kernel
theorem tyJxbd725_ok : ∀ k, k < 0 → parseFieldDescriptor (TJxbd725 k).2.2.1 = some (tyJxbd725 k) := by decide +kernel
def RJ15 : String := "java/util/Objects"
def TJ15 : u_T := fun k => match k with
  | _ => ("", "", "", false)
def tyJ15 : Nat → FieldType := fun k => match k with
  | _ => .int
abbrev wsJ150 : List Cond := u_ws RJ15 TJ15 0
theorem nmJ15 : ∀ a, a < 0 → ∀ b, b < 0 → a ≠ b → (TJ15 a).2.1 ≠ (TJ15 b).2.1 := by decide +kernel
theorem tyJ15_ok : ∀ k, k < 0 → parseFieldDescriptor (TJ15 k).2.2.1 = some (tyJ15 k) := by decide +kernel
abbrev cJ15_checkIndex_7cf53 : ByteArray := prog_39_method_17_code
def yJ15_checkIndex_7cf53 : MethodName := ⟨RJ15, "checkIndex", "(II)I"⟩
def RJxf0a74 : String := "java/util/RandomAccess"
def TJxf0a74 : u_T := fun k => match k with
  | _ => ("", "", "", false)
def tyJxf0a74 : Nat → FieldType := fun k => match k with
  | _ => .int
abbrev wsJxf0a740 : List Cond := u_ws RJxf0a74 TJxf0a74 0
theorem nmJxf0a74 : ∀ a, a < 0 → ∀ b, b < 0 → a ≠ b → (TJxf0a74 a).2.1 ≠ (TJxf0a74 b).2.1 := by decide +kernel
theorem tyJxf0a74_ok : ∀ k, k < 0 → parseFieldDescriptor (TJxf0a74 k).2.2.1 = some (tyJxf0a74 k) := by decide +kernel
def RJxa66e6 : String := "java/util/SequencedCollection"
def TJxa66e6 : u_T := fun k => match k with
  | _ => ("", "", "", false)
def tyJxa66e6 : Nat → FieldType := fun k => match k with
  | _ => .int
abbrev wsJxa66e60 : List Cond := u_ws RJxa66e6 TJxa66e6 0
theorem nmJxa66e6 : ∀ a, a < 0 → ∀ b, b < 0 → a ≠ b → (TJxa66e6 a).2.1 ≠ (TJxa66e6 b).2.1 := by decide +kernel
theorem tyJxa66e6_ok : ∀ k, k < 0 → parseFieldDescriptor (TJxa66e6 k).2.2.1 = some (tyJxa66e6 k) := by decide +kernel
def RJ8 : String := "jdk/internal/util/ArraysSupport"
def TJ8 : u_T := fun k => match k with
  | _ => ("", "", "", false)
def tyJ8 : Nat → FieldType := fun k => match k with
  | _ => .int
abbrev wsJ80 : List Cond := u_ws RJ8 TJ8 0
theorem nmJ8 : ∀ a, a < 0 → ∀ b, b < 0 → a ≠ b → (TJ8 a).2.1 ≠ (TJ8 b).2.1 := by decide +kernel
theorem tyJ8_ok : ∀ k, k < 0 → parseFieldDescriptor (TJ8 k).2.2.1 = some (tyJ8 k) := by decide +kernel
abbrev cJ8_newLength_cabcc : ByteArray := prog_42_method_27_code
def yJ8_newLength_cabcc : MethodName := ⟨RJ8, "newLength", "(III)I"⟩
abbrev cJ8_hugeLength_7cf53 : ByteArray := prog_42_method_28_code
def yJ8_hugeLength_7cf53 : MethodName := ⟨RJ8, "hugeLength", "(II)I"⟩
def RJ3 : String := "jdk/internal/util/Preconditions"
def TJ3 : u_T := fun k => match k with
  | _ => ("", "", "", false)
def tyJ3 : Nat → FieldType := fun k => match k with
  | _ => .int
abbrev wsJ30 : List Cond := u_ws RJ3 TJ3 0
theorem nmJ3 : ∀ a, a < 0 → ∀ b, b < 0 → a ≠ b → (TJ3 a).2.1 ≠ (TJ3 b).2.1 := by decide +kernel
theorem tyJ3_ok : ∀ k, k < 0 → parseFieldDescriptor (TJ3 k).2.2.1 = some (tyJ3 k) := by decide +kernel
abbrev cJ3_checkIndex_8e157 : ByteArray := prog_43_method_11_code
def yJ3_checkIndex_8e157 : MethodName := ⟨RJ3, "checkIndex", "(IILjava/util/function/BiFunction;)I"⟩
abbrev cJ3_checkFromToIndex_8c36e : ByteArray := prog_43_method_12_code
def yJ3_checkFromToIndex_8c36e : MethodName := ⟨RJ3, "checkFromToIndex", "(IIILjava/util/function/BiFunction;)I"⟩
def RL : String := "DiaryHouseLaw"
abbrev cL_told : ByteArray := method_3_code
def yL_told : MethodName := ⟨RL, "told", "(LDiaryHouse;II[J)I"⟩
abbrev cL_law : ByteArray := code
def yL_law : MethodName := ⟨RL, "law", "([I)Z"⟩
abbrev vwCl : List vw_C := [(RJx4a65c, TJx4a65c, 3), (RX0, TX0, 5), (RX1, TX1, 7), (RX2, TX2, 4), (RX3, TX3, 2), (RX4, TX4, 5), (RX5, TX5, 2), (RX6, TX6, 3), (RX7, TX7, 3), (RX8, TX8, 9), (RX9, TX9, 5), (RX10, TX10, 3), (RX11, TX11, 17), (RX12, TX12, 66)]
