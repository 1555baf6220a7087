def RX0 : String := "ChinRow$Fraction"
def TX0 : u_T := fun k => match k with
  | 0 => ("ChinRow$Fraction", "above", "J", false)
  | _ => ("ChinRow$Fraction", "below", "J", false)
def tyX0 : Nat → FieldType := fun k => match k with
  | 0 => .long
  | _ => .long
abbrev wsX00 : List Cond := u_ws RX0 TX0 2
theorem nmX0 : ∀ a, a < 2 → ∀ b, b < 2 → a ≠ b → (TX0 a).2.1 ≠ (TX0 b).2.1 := by decide +kernel
theorem tyX0_ok : ∀ k, k < 2 → parseFieldDescriptor (TX0 k).2.2.1 = some (tyX0 k) := by decide +kernel
abbrev cX0_init : ByteArray := prog_2_method_1_code
def yX0_init : MethodName := ⟨RX0, "<init>", "()V"⟩
abbrev cX0_set : ByteArray := prog_2_method_2_code
def yX0_set : MethodName := ⟨RX0, "set", "(JJ)V"⟩
abbrev cX0_multiply : ByteArray := prog_2_method_3_code
def yX0_multiply : MethodName := ⟨RX0, "multiply", "(II)V"⟩
abbrev cX0_addPass : ByteArray := prog_2_method_4_code
def yX0_addPass : MethodName := ⟨RX0, "addPass", "(IIZ)V"⟩
abbrev cX0_compareWith : ByteArray := prog_2_method_5_code
def yX0_compareWith : MethodName := ⟨RX0, "compareWith", "(JJ)I"⟩
abbrev cX0_reduce : ByteArray := prog_2_method_6_code
def yX0_reduce : MethodName := ⟨RX0, "reduce", "()V"⟩
abbrev cX0_part : ByteArray := prog_2_method_7_code
def yX0_part : MethodName := ⟨RX0, "part", "(I)J"⟩
def RX1 : String := "ChinRow$LawReader"
def TX1 : u_T := fun k => match k with
  | 0 => ("ChinRow$LawReader", "waiting", "[I", true)
  | 1 => ("ChinRow$LawReader", "height", "I", false)
  | 2 => ("ChinRow$LawReader", "nested", "I", false)
  | 3 => ("ChinRow$LawReader", "partDue", "Z", false)
  | _ => ("ChinRow$LawReader", "laws", "LChinRow$Laws;", false)
def tyX1 : Nat → FieldType := fun k => match k with
  | 0 => .array .int
  | 1 => .int
  | 2 => .int
  | 3 => .boolean
  | _ => .object "ChinRow$Laws"
abbrev wsX10 : List Cond := u_ws RX1 TX1 5
theorem nmX1 : ∀ a, a < 5 → ∀ b, b < 5 → a ≠ b → (TX1 a).2.1 ≠ (TX1 b).2.1 := by decide +kernel
theorem tyX1_ok : ∀ k, k < 5 → parseFieldDescriptor (TX1 k).2.2.1 = some (tyX1 k) := by decide +kernel
abbrev cX1_init : ByteArray := prog_3_method_1_code
def yX1_init : MethodName := ⟨RX1, "<init>", "()V"⟩
abbrev cX1_readLaw : ByteArray := prog_3_method_2_code
def yX1_readLaw : MethodName := ⟨RX1, "readLaw", "(LChinRow$Lexer;LChinRow$Laws;I)I"⟩
abbrev cX1_readPart : ByteArray := prog_3_method_3_code
def yX1_readPart : MethodName := ⟨RX1, "readPart", "(LChinRow$Lexer;I)I"⟩
abbrev cX1_mayBeFact : ByteArray := prog_3_method_4_code
def yX1_mayBeFact : MethodName := ⟨RX1, "mayBeFact", "(II)Z"⟩
abbrev cX1_readOperator : ByteArray := prog_3_method_5_code
def yX1_readOperator : MethodName := ⟨RX1, "readOperator", "(I)I"⟩
abbrev cX1_endPart : ByteArray := prog_3_method_6_code
def yX1_endPart : MethodName := ⟨RX1, "endPart", "()V"⟩
abbrev cX1_joinDownTo : ByteArray := prog_3_method_7_code
def yX1_joinDownTo : MethodName := ⟨RX1, "joinDownTo", "(I)V"⟩
abbrev cX1_top : ByteArray := prog_3_method_8_code
def yX1_top : MethodName := ⟨RX1, "top", "()I"⟩
abbrev cX1_push : ByteArray := prog_3_method_9_code
def yX1_push : MethodName := ⟨RX1, "push", "(I)V"⟩
abbrev cX1_rankOf : ByteArray := prog_3_method_10_code
def yX1_rankOf : MethodName := ⟨RX1, "rankOf", "(I)I"⟩
def RX2 : String := "ChinRow$Laws"
def TX2 : u_T := fun k => match k with
  | 0 => ("ChinRow$Laws", "codes", "[I", true)
  | 1 => ("ChinRow$Laws", "length", "I", false)
  | 2 => ("ChinRow$Laws", "begins", "[I", true)
  | 3 => ("ChinRow$Laws", "ends", "[I", true)
  | 4 => ("ChinRow$Laws", "values", "[I", true)
  | 5 => ("ChinRow$Laws", "step", "I", false)
  | 6 => ("ChinRow$Laws", "neck", "I", false)
  | 7 => ("ChinRow$Laws", "size", "I", false)
  | 8 => ("ChinRow$Laws", "slip", "I", false)
  | _ => ("ChinRow$Laws", "pace", "I", false)
def tyX2 : Nat → FieldType := fun k => match k with
  | 0 => .array .int
  | 1 => .int
  | 2 => .array .int
  | 3 => .array .int
  | 4 => .array .int
  | 5 => .int
  | 6 => .int
  | 7 => .int
  | 8 => .int
  | _ => .int
abbrev wsX20 : List Cond := u_ws RX2 TX2 10
theorem nmX2 : ∀ a, a < 10 → ∀ b, b < 10 → a ≠ b → (TX2 a).2.1 ≠ (TX2 b).2.1 := by decide +kernel
theorem tyX2_ok : ∀ k, k < 10 → parseFieldDescriptor (TX2 k).2.2.1 = some (tyX2 k) := by decide +kernel
abbrev cX2_init : ByteArray := prog_4_method_1_code
def yX2_init : MethodName := ⟨RX2, "<init>", "()V"⟩
abbrev cX2_clear : ByteArray := prog_4_method_2_code
def yX2_clear : MethodName := ⟨RX2, "clear", "()V"⟩
abbrev cX2_begin : ByteArray := prog_4_method_3_code
def yX2_begin : MethodName := ⟨RX2, "begin", "(I)V"⟩
abbrev cX2_end : ByteArray := prog_4_method_4_code
def yX2_end : MethodName := ⟨RX2, "end", "(I)V"⟩
abbrev cX2_add : ByteArray := prog_4_method_5_code
def yX2_add : MethodName := ⟨RX2, "add", "(I)V"⟩
abbrev cX2_look : ByteArray := prog_4_method_6_code
def yX2_look : MethodName := ⟨RX2, "look", "(II)V"⟩
abbrev cX2_lookAtFruit : ByteArray := prog_4_method_7_code
def yX2_lookAtFruit : MethodName := ⟨RX2, "lookAtFruit", "(III)V"⟩
abbrev cX2_value : ByteArray := prog_4_method_8_code
def yX2_value : MethodName := ⟨RX2, "value", "(I)I"⟩
abbrev cX2_follow : ByteArray := prog_4_method_9_code
def yX2_follow : MethodName := ⟨RX2, "follow", "(II)I"⟩
abbrev cX2_isFact : ByteArray := prog_4_method_10_code
def yX2_isFact : MethodName := ⟨RX2, "isFact", "(I)Z"⟩
abbrev cX2_fact : ByteArray := prog_4_method_11_code
def yX2_fact : MethodName := ⟨RX2, "fact", "(I)I"⟩
abbrev cX2_joined : ByteArray := prog_4_method_12_code
def yX2_joined : MethodName := ⟨RX2, "joined", "(III)I"⟩
def RX3 : String := "ChinRow$Lexer"
def TX3 : u_T := fun k => match k with
  | 0 => ("ChinRow$Lexer", "tape", "LChinRow$Tape;", false)
  | 1 => ("ChinRow$Lexer", "next", "I", false)
  | 2 => ("ChinRow$Lexer", "token", "I", false)
  | 3 => ("ChinRow$Lexer", "place", "I", false)
  | 4 => ("ChinRow$Lexer", "number", "I", false)
  | _ => ("ChinRow$Lexer", "name", "J", false)
def tyX3 : Nat → FieldType := fun k => match k with
  | 0 => .object "ChinRow$Tape"
  | 1 => .int
  | 2 => .int
  | 3 => .int
  | 4 => .int
  | _ => .long
abbrev wsX30 : List Cond := u_ws RX3 TX3 6
theorem nmX3 : ∀ a, a < 6 → ∀ b, b < 6 → a ≠ b → (TX3 a).2.1 ≠ (TX3 b).2.1 := by decide +kernel
theorem tyX3_ok : ∀ k, k < 6 → parseFieldDescriptor (TX3 k).2.2.1 = some (tyX3 k) := by decide +kernel
abbrev cX3_init : ByteArray := prog_5_method_1_code
def yX3_init : MethodName := ⟨RX3, "<init>", "()V"⟩
abbrev cX3_start : ByteArray := prog_5_method_2_code
def yX3_start : MethodName := ⟨RX3, "start", "(LChinRow$Tape;)V"⟩
abbrev cX3_advance : ByteArray := prog_5_method_3_code
def yX3_advance : MethodName := ⟨RX3, "advance", "()V"⟩
abbrev cX3_takeWord : ByteArray := prog_5_method_4_code
def yX3_takeWord : MethodName := ⟨RX3, "takeWord", "()V"⟩
abbrev cX3_takeNumber : ByteArray := prog_5_method_5_code
def yX3_takeNumber : MethodName := ⟨RX3, "takeNumber", "()V"⟩
abbrev cX3_signAt : ByteArray := prog_5_method_6_code
def yX3_signAt : MethodName := ⟨RX3, "signAt", "(I)I"⟩
abbrev cX3_isLetter : ByteArray := prog_5_method_7_code
def yX3_isLetter : MethodName := ⟨RX3, "isLetter", "(I)Z"⟩
abbrev cX3_isDigit : ByteArray := prog_5_method_8_code
def yX3_isDigit : MethodName := ⟨RX3, "isDigit", "(I)Z"⟩
abbrev cX3_isMark : ByteArray := prog_5_method_9_code
def yX3_isMark : MethodName := ⟨RX3, "isMark", "(I)Z"⟩
def RX4 : String := "ChinRow$Orders"
def TX4 : u_T := fun k => match k with
  | 0 => ("ChinRow$Orders", "ways", "[I", true)
  | 1 => ("ChinRow$Orders", "aboves", "[J", true)
  | 2 => ("ChinRow$Orders", "belows", "[J", true)
  | 3 => ("ChinRow$Orders", "rows", "[I", true)
  | 4 => ("ChinRow$Orders", "chances", "[I", true)
  | 5 => ("ChinRow$Orders", "costs", "[I", true)
  | 6 => ("ChinRow$Orders", "longer", "LChinRow$Fraction;", true)
  | 7 => ("ChinRow$Orders", "known", "Z", false)
  | 8 => ("ChinRow$Orders", "total", "I", false)
  | 9 => ("ChinRow$Orders", "hasLeast", "Z", false)
  | 10 => ("ChinRow$Orders", "least", "LChinRow$Fraction;", true)
  | _ => ("ChinRow$Orders", "leastRow", "I", false)
def tyX4 : Nat → FieldType := fun k => match k with
  | 0 => .array .int
  | 1 => .array .long
  | 2 => .array .long
  | 3 => .array .int
  | 4 => .array .int
  | 5 => .array .int
  | 6 => .object "ChinRow$Fraction"
  | 7 => .boolean
  | 8 => .int
  | 9 => .boolean
  | 10 => .object "ChinRow$Fraction"
  | _ => .int
abbrev wsX40 : List Cond := u_ws RX4 TX4 12
theorem nmX4 : ∀ a, a < 12 → ∀ b, b < 12 → a ≠ b → (TX4 a).2.1 ≠ (TX4 b).2.1 := by decide +kernel
theorem tyX4_ok : ∀ k, k < 12 → parseFieldDescriptor (TX4 k).2.2.1 = some (tyX4 k) := by decide +kernel
abbrev cX4_init : ByteArray := prog_6_method_1_code
def yX4_init : MethodName := ⟨RX4, "<init>", "()V"⟩
abbrev cX4_find : ByteArray := prog_6_method_2_code
def yX4_find : MethodName := ⟨RX4, "find", "(LChinRow$Party;LChinRow$Stand;[II)V"⟩
abbrev cX4_whoAt : ByteArray := prog_6_method_3_code
def yX4_whoAt : MethodName := ⟨RX4, "whoAt", "(II)I"⟩
abbrev cX4_readPasses : ByteArray := prog_6_method_4_code
def yX4_readPasses : MethodName := ⟨RX4, "readPasses", "(LChinRow$Party;LChinRow$Stand;[II)V"⟩
abbrev cX4_begin : ByteArray := prog_6_method_5_code
def yX4_begin : MethodName := ⟨RX4, "begin", "([II)I"⟩
abbrev cX4_lengthen : ByteArray := prog_6_method_6_code
def yX4_lengthen : MethodName := ⟨RX4, "lengthen", "(LChinRow$Party;II)V"⟩
abbrev cX4_offer : ByteArray := prog_6_method_7_code
def yX4_offer : MethodName := ⟨RX4, "offer", "(IIIZ)V"⟩
abbrev cX4_end : ByteArray := prog_6_method_8_code
def yX4_end : MethodName := ⟨RX4, "end", "(I)V"⟩
def RX5 : String := "ChinRow$Party"
def TX5 : u_T := fun k => match k with
  | 0 => ("ChinRow$Party", "people", "I", false)
  | 1 => ("ChinRow$Party", "kinds", "[I", true)
  | 2 => ("ChinRow$Party", "women", "[Z", true)
  | 3 => ("ChinRow$Party", "talls", "[I", true)
  | 4 => ("ChinRow$Party", "necks", "[I", true)
  | 5 => ("ChinRow$Party", "pairBits", "[I", true)
  | 6 => ("ChinRow$Party", "quarrelBits", "[I", true)
  | 7 => ("ChinRow$Party", "pairs", "I", false)
  | 8 => ("ChinRow$Party", "quarrels", "I", false)
  | 9 => ("ChinRow$Party", "fruits", "I", false)
  | 10 => ("ChinRow$Party", "sizes", "[I", true)
  | 11 => ("ChinRow$Party", "slips", "[I", true)
  | 12 => ("ChinRow$Party", "laws", "LChinRow$Laws;", true)
  | 13 => ("ChinRow$Party", "front", "Z", false)
  | 14 => ("ChinRow$Party", "turns", "Z", false)
  | _ => ("ChinRow$Party", "pick", "I", false)
def tyX5 : Nat → FieldType := fun k => match k with
  | 0 => .int
  | 1 => .array .int
  | 2 => .array .boolean
  | 3 => .array .int
  | 4 => .array .int
  | 5 => .array .int
  | 6 => .array .int
  | 7 => .int
  | 8 => .int
  | 9 => .int
  | 10 => .array .int
  | 11 => .array .int
  | 12 => .object "ChinRow$Laws"
  | 13 => .boolean
  | 14 => .boolean
  | _ => .int
abbrev wsX50 : List Cond := u_ws RX5 TX5 16
theorem nmX5 : ∀ a, a < 16 → ∀ b, b < 16 → a ≠ b → (TX5 a).2.1 ≠ (TX5 b).2.1 := by decide +kernel
theorem tyX5_ok : ∀ k, k < 16 → parseFieldDescriptor (TX5 k).2.2.1 = some (tyX5 k) := by decide +kernel
abbrev cX5_init : ByteArray := prog_7_method_1_code
def yX5_init : MethodName := ⟨RX5, "<init>", "()V"⟩
abbrev cX5_clear : ByteArray := prog_7_method_2_code
def yX5_clear : MethodName := ⟨RX5, "clear", "()V"⟩
abbrev cX5_addPerson : ByteArray := prog_7_method_3_code
def yX5_addPerson : MethodName := ⟨RX5, "addPerson", "(IZII)V"⟩
abbrev cX5_addFruit : ByteArray := prog_7_method_4_code
def yX5_addFruit : MethodName := ⟨RX5, "addFruit", "(II)V"⟩
abbrev cX5_areTold : ByteArray := prog_7_method_5_code
def yX5_areTold : MethodName := ⟨RX5, "areTold", "(II)Z"⟩
abbrev cX5_addTwo : ByteArray := prog_7_method_6_code
def yX5_addTwo : MethodName := ⟨RX5, "addTwo", "(IIZ)V"⟩
abbrev cX5_isEither : ByteArray := prog_7_method_7_code
def yX5_isEither : MethodName := ⟨RX5, "isEither", "(III)Z"⟩
abbrev cX5_stepOf : ByteArray := prog_7_method_8_code
def yX5_stepOf : MethodName := ⟨RX5, "stepOf", "(II)I"⟩
abbrev cX5_lookAtFruit : ByteArray := prog_7_method_9_code
def yX5_lookAtFruit : MethodName := ⟨RX5, "lookAtFruit", "(II)V"⟩
abbrev cX5_chanceOf : ByteArray := prog_7_method_10_code
def yX5_chanceOf : MethodName := ⟨RX5, "chanceOf", "(IIII)I"⟩
abbrev cX5_secondsOf : ByteArray := prog_7_method_11_code
def yX5_secondsOf : MethodName := ⟨RX5, "secondsOf", "(IIII)I"⟩
abbrev cX5_costOf : ByteArray := prog_7_method_12_code
def yX5_costOf : MethodName := ⟨RX5, "costOf", "(II)I"⟩
abbrev cX5_mayStandBehind : ByteArray := prog_7_method_13_code
def yX5_mayStandBehind : MethodName := ⟨RX5, "mayStandBehind", "(III)Z"⟩
abbrev cX5_mayTeam : ByteArray := prog_7_method_14_code
def yX5_mayTeam : MethodName := ⟨RX5, "mayTeam", "(I)Z"⟩
abbrev cX5_difference : ByteArray := prog_7_method_15_code
def yX5_difference : MethodName := ⟨RX5, "difference", "(I)I"⟩
abbrev cX5_laughing : ByteArray := prog_7_method_16_code
def yX5_laughing : MethodName := ⟨RX5, "laughing", "([III)I"⟩
abbrev cX5_catches : ByteArray := prog_7_method_17_code
def yX5_catches : MethodName := ⟨RX5, "catches", "(II)Z"⟩
def RX6 : String := "ChinRow$Past"
def TX6 : u_T := fun k => match k with
  | 0 => ("ChinRow$Past", "stands", "[LChinRow$Stand;", true)
  | 1 => ("ChinRow$Past", "next", "I", false)
  | _ => ("ChinRow$Past", "size", "I", false)
def tyX6 : Nat → FieldType := fun k => match k with
  | 0 => .array (.object "ChinRow$Stand")
  | 1 => .int
  | _ => .int
abbrev wsX60 : List Cond := u_ws RX6 TX6 3
theorem nmX6 : ∀ a, a < 3 → ∀ b, b < 3 → a ≠ b → (TX6 a).2.1 ≠ (TX6 b).2.1 := by decide +kernel
theorem tyX6_ok : ∀ k, k < 3 → parseFieldDescriptor (TX6 k).2.2.1 = some (tyX6 k) := by decide +kernel
abbrev cX6_init : ByteArray := prog_8_method_1_code
def yX6_init : MethodName := ⟨RX6, "<init>", "()V"⟩
abbrev cX6_forget : ByteArray := prog_8_method_2_code
def yX6_forget : MethodName := ⟨RX6, "forget", "()V"⟩
abbrev cX6_keep : ByteArray := prog_8_method_3_code
def yX6_keep : MethodName := ⟨RX6, "keep", "(LChinRow$Stand;)V"⟩
abbrev cX6_giveBack : ByteArray := prog_8_method_4_code
def yX6_giveBack : MethodName := ⟨RX6, "giveBack", "(LChinRow$Stand;)Z"⟩
def RX7 : String := "ChinRow$Reader"
def TX7 : u_T := fun k => match k with
  | 0 => ("ChinRow$Reader", "lexer", "LChinRow$Lexer;", true)
  | 1 => ("ChinRow$Reader", "lawReader", "LChinRow$LawReader;", true)
  | 2 => ("ChinRow$Reader", "peopleNames", "[J", true)
  | 3 => ("ChinRow$Reader", "fruitNames", "[J", true)
  | 4 => ("ChinRow$Reader", "party", "LChinRow$Party;", false)
  | 5 => ("ChinRow$Reader", "toldBits", "I", false)
  | _ => ("ChinRow$Reader", "fault", "I", false)
def tyX7 : Nat → FieldType := fun k => match k with
  | 0 => .object "ChinRow$Lexer"
  | 1 => .object "ChinRow$LawReader"
  | 2 => .array .long
  | 3 => .array .long
  | 4 => .object "ChinRow$Party"
  | 5 => .int
  | _ => .int
abbrev wsX70 : List Cond := u_ws RX7 TX7 7
theorem nmX7 : ∀ a, a < 7 → ∀ b, b < 7 → a ≠ b → (TX7 a).2.1 ≠ (TX7 b).2.1 := by decide +kernel
theorem tyX7_ok : ∀ k, k < 7 → parseFieldDescriptor (TX7 k).2.2.1 = some (tyX7 k) := by decide +kernel
abbrev cX7_init : ByteArray := prog_9_method_1_code
def yX7_init : MethodName := ⟨RX7, "<init>", "()V"⟩
abbrev cX7_readParty : ByteArray := prog_9_method_2_code
def yX7_readParty : MethodName := ⟨RX7, "readParty", "(LChinRow$Tape;LChinRow$Party;)I"⟩
abbrev cX7_readPerson : ByteArray := prog_9_method_3_code
def yX7_readPerson : MethodName := ⟨RX7, "readPerson", "(Z)V"⟩
abbrev cX7_readFruit : ByteArray := prog_9_method_4_code
def yX7_readFruit : MethodName := ⟨RX7, "readFruit", "()V"⟩
abbrev cX7_readTwo : ByteArray := prog_9_method_5_code
def yX7_readTwo : MethodName := ⟨RX7, "readTwo", "(Z)V"⟩
abbrev cX7_readOnce : ByteArray := prog_9_method_6_code
def yX7_readOnce : MethodName := ⟨RX7, "readOnce", "(I)V"⟩
abbrev cX7_fail : ByteArray := prog_9_method_7_code
def yX7_fail : MethodName := ⟨RX7, "fail", "(I)V"⟩
abbrev cX7_take : ByteArray := prog_9_method_8_code
def yX7_take : MethodName := ⟨RX7, "take", "(I)V"⟩
abbrev cX7_takeNumber : ByteArray := prog_9_method_9_code
def yX7_takeNumber : MethodName := ⟨RX7, "takeNumber", "(I)I"⟩
abbrev cX7_takeKind : ByteArray := prog_9_method_10_code
def yX7_takeKind : MethodName := ⟨RX7, "takeKind", "()I"⟩
abbrev cX7_takeNewName : ByteArray := prog_9_method_11_code
def yX7_takeNewName : MethodName := ⟨RX7, "takeNewName", "()J"⟩
abbrev cX7_findPerson : ByteArray := prog_9_method_12_code
def yX7_findPerson : MethodName := ⟨RX7, "findPerson", "()I"⟩
abbrev cX7_isName : ByteArray := prog_9_method_13_code
def yX7_isName : MethodName := ⟨RX7, "isName", "()Z"⟩
abbrev cX7_find : ByteArray := prog_9_method_14_code
def yX7_find : MethodName := ⟨RX7, "find", "([JIJ)I"⟩
def RX8 : String := "ChinRow$Stand"
def TX8 : u_T := fun k => match k with
  | 0 => ("ChinRow$Stand", "order", "[I", true)
  | 1 => ("ChinRow$Stand", "outBits", "I", false)
  | 2 => ("ChinRow$Stand", "fruit", "I", false)
  | _ => ("ChinRow$Stand", "pace", "I", false)
def tyX8 : Nat → FieldType := fun k => match k with
  | 0 => .array .int
  | 1 => .int
  | 2 => .int
  | _ => .int
abbrev wsX80 : List Cond := u_ws RX8 TX8 4
theorem nmX8 : ∀ a, a < 4 → ∀ b, b < 4 → a ≠ b → (TX8 a).2.1 ≠ (TX8 b).2.1 := by decide +kernel
theorem tyX8_ok : ∀ k, k < 4 → parseFieldDescriptor (TX8 k).2.2.1 = some (tyX8 k) := by decide +kernel
abbrev cX8_init : ByteArray := prog_10_method_1_code
def yX8_init : MethodName := ⟨RX8, "<init>", "()V"⟩
abbrev cX8_begin : ByteArray := prog_10_method_2_code
def yX8_begin : MethodName := ⟨RX8, "begin", "(I)V"⟩
abbrev cX8_take : ByteArray := prog_10_method_3_code
def yX8_take : MethodName := ⟨RX8, "take", "(LChinRow$Stand;)V"⟩
abbrev cX8_isOut : ByteArray := prog_10_method_4_code
def yX8_isOut : MethodName := ⟨RX8, "isOut", "(I)Z"⟩
abbrev cX8_swap : ByteArray := prog_10_method_5_code
def yX8_swap : MethodName := ⟨RX8, "swap", "(II)V"⟩
def RX9 : String := "ChinRow$Tape"
def TX9 : u_T := fun k => match k with
  | 0 => ("ChinRow$Tape", "signs", "[C", true)
  | _ => ("ChinRow$Tape", "length", "I", false)
def tyX9 : Nat → FieldType := fun k => match k with
  | 0 => .array .char
  | _ => .int
abbrev wsX90 : List Cond := u_ws RX9 TX9 2
theorem nmX9 : ∀ a, a < 2 → ∀ b, b < 2 → a ≠ b → (TX9 a).2.1 ≠ (TX9 b).2.1 := by decide +kernel
theorem tyX9_ok : ∀ k, k < 2 → parseFieldDescriptor (TX9 k).2.2.1 = some (tyX9 k) := by decide +kernel
abbrev cX9_init : ByteArray := prog_11_method_1_code
def yX9_init : MethodName := ⟨RX9, "<init>", "()V"⟩
abbrev cX9_addBytes : ByteArray := prog_11_method_2_code
def yX9_addBytes : MethodName := ⟨RX9, "addBytes", "(J)V"⟩
abbrev cX9_addSign : ByteArray := prog_11_method_3_code
def yX9_addSign : MethodName := ⟨RX9, "addSign", "(I)V"⟩
def RX10 : String := "ChinRow"
def TX10 : u_T := fun k => match k with
  | 0 => ("ChinRow", "tape", "LChinRow$Tape;", true)
  | 1 => ("ChinRow", "reader", "LChinRow$Reader;", true)
  | 2 => ("ChinRow", "party", "LChinRow$Party;", false)
  | 3 => ("ChinRow", "draft", "LChinRow$Party;", false)
  | 4 => ("ChinRow", "stand", "LChinRow$Stand;", true)
  | 5 => ("ChinRow", "past", "LChinRow$Past;", true)
  | 6 => ("ChinRow", "marks", "[LChinRow$Stand;", true)
  | 7 => ("ChinRow", "markedBits", "I", false)
  | 8 => ("ChinRow", "line", "[I", true)
  | 9 => ("ChinRow", "lineLength", "I", false)
  | 10 => ("ChinRow", "orders", "LChinRow$Orders;", true)
  | 11 => ("ChinRow", "share", "LChinRow$Fraction;", true)
  | 12 => ("ChinRow", "least", "LChinRow$Fraction;", true)
  | 13 => ("ChinRow", "passChances", "[I", true)
  | 14 => ("ChinRow", "passSeconds", "[I", true)
  | 15 => ("ChinRow", "rowsHere", "[I", true)
  | 16 => ("ChinRow", "rowsSpoilt", "[I", true)
  | 17 => ("ChinRow", "wins", "[I", true)
  | _ => ("ChinRow", "shorter", "[I", true)
def tyX10 : Nat → FieldType := fun k => match k with
  | 0 => .object "ChinRow$Tape"
  | 1 => .object "ChinRow$Reader"
  | 2 => .object "ChinRow$Party"
  | 3 => .object "ChinRow$Party"
  | 4 => .object "ChinRow$Stand"
  | 5 => .object "ChinRow$Past"
  | 6 => .array (.object "ChinRow$Stand")
  | 7 => .int
  | 8 => .array .int
  | 9 => .int
  | 10 => .object "ChinRow$Orders"
  | 11 => .object "ChinRow$Fraction"
  | 12 => .object "ChinRow$Fraction"
  | 13 => .array .int
  | 14 => .array .int
  | 15 => .array .int
  | 16 => .array .int
  | 17 => .array .int
  | _ => .array .int
abbrev wsX100 : List Cond := u_ws RX10 TX10 19
theorem nmX10 : ∀ a, a < 19 → ∀ b, b < 19 → a ≠ b → (TX10 a).2.1 ≠ (TX10 b).2.1 := by decide +kernel
theorem tyX10_ok : ∀ k, k < 19 → parseFieldDescriptor (TX10 k).2.2.1 = some (tyX10 k) := by decide +kernel
abbrev cX10_init : ByteArray := prog_1_method_1_code
def yX10_init : MethodName := ⟨RX10, "<init>", "()V"⟩
abbrev cX10_feed : ByteArray := prog_1_method_2_code
def yX10_feed : MethodName := ⟨RX10, "feed", "(JJJ)I"⟩
abbrev cX10_party : ByteArray := prog_1_method_3_code
def yX10_party : MethodName := ⟨RX10, "party", "()I"⟩
abbrev cX10_person : ByteArray := prog_1_method_4_code
def yX10_person : MethodName := ⟨RX10, "person", "(II)I"⟩
abbrev cX10_row : ByteArray := prog_1_method_5_code
def yX10_row : MethodName := ⟨RX10, "row", "(I)I"⟩
abbrev cX10_change : ByteArray := prog_1_method_6_code
def yX10_change : MethodName := ⟨RX10, "change", "(II)Z"⟩
abbrev cX10_out : ByteArray := prog_1_method_7_code
def yX10_out : MethodName := ⟨RX10, "out", "(IZ)Z"⟩
abbrev cX10_fruit : ByteArray := prog_1_method_8_code
def yX10_fruit : MethodName := ⟨RX10, "fruit", "(I)Z"⟩
abbrev cX10_pace : ByteArray := prog_1_method_9_code
def yX10_pace : MethodName := ⟨RX10, "pace", "(I)Z"⟩
abbrev cX10_undo : ByteArray := prog_1_method_10_code
def yX10_undo : MethodName := ⟨RX10, "undo", "()Z"⟩
abbrev cX10_chance : ByteArray := prog_1_method_11_code
def yX10_chance : MethodName := ⟨RX10, "chance", "(III)I"⟩
abbrev cX10_seconds : ByteArray := prog_1_method_12_code
def yX10_seconds : MethodName := ⟨RX10, "seconds", "(III)I"⟩
abbrev cX10_mean : ByteArray := prog_1_method_13_code
def yX10_mean : MethodName := ⟨RX10, "mean", "(I)J"⟩
abbrev cX10_falls : ByteArray := prog_1_method_14_code
def yX10_falls : MethodName := ⟨RX10, "falls", "(II)J"⟩
abbrev cX10_least : ByteArray := prog_1_method_15_code
def yX10_least : MethodName := ⟨RX10, "least", "(I)J"⟩
abbrev cX10_orders : ByteArray := prog_1_method_16_code
def yX10_orders : MethodName := ⟨RX10, "orders", "()I"⟩
abbrev cX10_best : ByteArray := prog_1_method_17_code
def yX10_best : MethodName := ⟨RX10, "best", "()I"⟩
abbrev cX10_bought : ByteArray := prog_1_method_18_code
def yX10_bought : MethodName := ⟨RX10, "bought", "(I)I"⟩
abbrev cX10_hurry : ByteArray := prog_1_method_19_code
def yX10_hurry : MethodName := ⟨RX10, "hurry", "(IIIZ)I"⟩
abbrev cX10_laughs : ByteArray := prog_1_method_20_code
def yX10_laughs : MethodName := ⟨RX10, "laughs", "(I)I"⟩
abbrev cX10_outer : ByteArray := prog_1_method_21_code
def yX10_outer : MethodName := ⟨RX10, "outer", "(I)I"⟩
abbrev cX10_even : ByteArray := prog_1_method_22_code
def yX10_even : MethodName := ⟨RX10, "even", "(I)I"⟩
abbrev cX10_let : ByteArray := prog_1_method_23_code
def yX10_let : MethodName := ⟨RX10, "let", "(IIIII)J"⟩
abbrev cX10_evening : ByteArray := prog_1_method_24_code
def yX10_evening : MethodName := ⟨RX10, "evening", "(II)I"⟩
abbrev cX10_mark : ByteArray := prog_1_method_25_code
def yX10_mark : MethodName := ⟨RX10, "mark", "(IZ)Z"⟩
abbrev cX10_count : ByteArray := prog_1_method_26_code
def yX10_count : MethodName := ⟨RX10, "count", "(I)I"⟩
abbrev cX10_settle : ByteArray := prog_1_method_27_code
def yX10_settle : MethodName := ⟨RX10, "settle", "()V"⟩
abbrev cX10_isPerson : ByteArray := prog_1_method_28_code
def yX10_isPerson : MethodName := ⟨RX10, "isPerson", "(I)Z"⟩
abbrev cX10_isPass : ByteArray := prog_1_method_29_code
def yX10_isPass : MethodName := ⟨RX10, "isPass", "(II)Z"⟩
abbrev cX10_isPace : ByteArray := prog_1_method_30_code
def yX10_isPace : MethodName := ⟨RX10, "isPace", "(I)Z"⟩
abbrev cX10_placeOf : ByteArray := prog_1_method_31_code
def yX10_placeOf : MethodName := ⟨RX10, "placeOf", "(I)I"⟩
abbrev cX10_passes : ByteArray := prog_1_method_32_code
def yX10_passes : MethodName := ⟨RX10, "passes", "()I"⟩
abbrev cX10_chanceAt : ByteArray := prog_1_method_33_code
def yX10_chanceAt : MethodName := ⟨RX10, "chanceAt", "(II)I"⟩
abbrev cX10_readPassChances : ByteArray := prog_1_method_34_code
def yX10_readPassChances : MethodName := ⟨RX10, "readPassChances", "(I)V"⟩
abbrev cX10_readPassSeconds : ByteArray := prog_1_method_35_code
def yX10_readPassSeconds : MethodName := ⟨RX10, "readPassSeconds", "(I)V"⟩
abbrev cX10_meanWith : ByteArray := prog_1_method_36_code
def yX10_meanWith : MethodName := ⟨RX10, "meanWith", "(I)Z"⟩
abbrev cX10_tryAll : ByteArray := prog_1_method_37_code
def yX10_tryAll : MethodName := ⟨RX10, "tryAll", "(I)I"⟩
abbrev cX10_readPaceChances : ByteArray := prog_1_method_38_code
def yX10_readPaceChances : MethodName := ⟨RX10, "readPaceChances", "(I)V"⟩
abbrev cX10_hurryAt : ByteArray := prog_1_method_39_code
def yX10_hurryAt : MethodName := ⟨RX10, "hurryAt", "(III)I"⟩
abbrev cX10_laughingWithout : ByteArray := prog_1_method_40_code
def yX10_laughingWithout : MethodName := ⟨RX10, "laughingWithout", "(II)I"⟩
abbrev cX10_evenSet : ByteArray := prog_1_method_41_code
def yX10_evenSet : MethodName := ⟨RX10, "evenSet", "()I"⟩
abbrev cX10_power : ByteArray := prog_1_method_42_code
def yX10_power : MethodName := ⟨RX10, "power", "(II)J"⟩
abbrev cX10_within : ByteArray := prog_1_method_43_code
def yX10_within : MethodName := ⟨RX10, "within", "(III)I"⟩
def RX11 : String := "ChinRowModel"
def TX11 : u_T := fun k => match k with
  | 0 => ("ChinRowModel", "thrown", "I", false)
  | 1 => ("ChinRowModel", "tape", "[I", true)
  | 2 => ("ChinRowModel", "taped", "I", false)
  | 3 => ("ChinRowModel", "size", "I", false)
  | 4 => ("ChinRowModel", "sort", "[I", true)
  | 5 => ("ChinRowModel", "place", "[I", true)
  | 6 => ("ChinRowModel", "value", "[J", true)
  | 7 => ("ChinRowModel", "at", "I", false)
  | 8 => ("ChinRowModel", "fault", "I", false)
  | 9 => ("ChinRowModel", "words", "[J", true)
  | 10 => ("ChinRowModel", "parties", "[I", true)
  | 11 => ("ChinRowModel", "op", "[I", true)
  | 12 => ("ChinRowModel", "arg", "[I", true)
  | 13 => ("ChinRowModel", "codes", "I", false)
  | 14 => ("ChinRowModel", "names", "[J", true)
  | 15 => ("ChinRowModel", "nameOf", "[I", true)
  | 16 => ("ChinRowModel", "namesMany", "I", false)
  | 17 => ("ChinRowModel", "hasPick", "Z", false)
  | 18 => ("ChinRowModel", "hasFall", "Z", false)
  | 19 => ("ChinRowModel", "reading", "I", false)
  | 20 => ("ChinRowModel", "factWords", "[I", true)
  | 21 => ("ChinRowModel", "facts", "[I", true)
  | 22 => ("ChinRowModel", "pile", "[I", true)
  | 23 => ("ChinRowModel", "state", "[I", true)
  | 24 => ("ChinRowModel", "undos", "I", false)
  | 25 => ("ChinRowModel", "isMarked", "[Z", true)
  | 26 => ("ChinRowModel", "line", "[I", true)
  | 27 => ("ChinRowModel", "lineMany", "I", false)
  | 28 => ("ChinRowModel", "fruitNow", "I", false)
  | 29 => ("ChinRowModel", "above", "J", false)
  | 30 => ("ChinRowModel", "below", "J", false)
  | 31 => ("ChinRowModel", "order", "[I", true)
  | 32 => ("ChinRowModel", "bestOrder", "[I", true)
  | 33 => ("ChinRowModel", "orderMany", "I", false)
  | 34 => ("ChinRowModel", "hasLeast", "Z", false)
  | 35 => ("ChinRowModel", "leastAbove", "J", false)
  | 36 => ("ChinRowModel", "leastBelow", "J", false)
  | 37 => ("ChinRowModel", "there", "[I", true)
  | 38 => ("ChinRowModel", "next", "[I", true)
  | 39 => ("ChinRowModel", "wins", "[I", true)
  | 40 => ("ChinRowModel", "paces", "[I", true)
  | _ => ("ChinRowModel", "g", "J", false)
def tyX11 : Nat → FieldType := fun k => match k with
  | 0 => .int
  | 1 => .array .int
  | 2 => .int
  | 3 => .int
  | 4 => .array .int
  | 5 => .array .int
  | 6 => .array .long
  | 7 => .int
  | 8 => .int
  | 9 => .array .long
  | 10 => .array .int
  | 11 => .array .int
  | 12 => .array .int
  | 13 => .int
  | 14 => .array .long
  | 15 => .array .int
  | 16 => .int
  | 17 => .boolean
  | 18 => .boolean
  | 19 => .int
  | 20 => .array .int
  | 21 => .array .int
  | 22 => .array .int
  | 23 => .array .int
  | 24 => .int
  | 25 => .array .boolean
  | 26 => .array .int
  | 27 => .int
  | 28 => .int
  | 29 => .long
  | 30 => .long
  | 31 => .array .int
  | 32 => .array .int
  | 33 => .int
  | 34 => .boolean
  | 35 => .long
  | 36 => .long
  | 37 => .array .int
  | 38 => .array .int
  | 39 => .array .int
  | 40 => .array .int
  | _ => .long
abbrev wsX110 : List Cond := u_ws RX11 TX11 42
theorem nmX11 : ∀ a, a < 42 → ∀ b, b < 42 → a ≠ b → (TX11 a).2.1 ≠ (TX11 b).2.1 := by decide +kernel
theorem tyX11_ok : ∀ k, k < 42 → parseFieldDescriptor (TX11 k).2.2.1 = some (tyX11 k) := by decide +kernel
abbrev cX11_feed : ByteArray := prog_13_method_2_code
def yX11_feed : MethodName := ⟨RX11, "feed", "(JJJ)I"⟩
abbrev cX11_lay : ByteArray := prog_13_method_3_code
def yX11_lay : MethodName := ⟨RX11, "lay", "(J)V"⟩
abbrev cX11_init : ByteArray := prog_13_method_4_code
def yX11_init : MethodName := ⟨RX11, "<init>", "()V"⟩
abbrev cX11_isLetter : ByteArray := prog_13_method_5_code
def yX11_isLetter : MethodName := ⟨RX11, "isLetter", "(I)Z"⟩
abbrev cX11_isDigit : ByteArray := prog_13_method_6_code
def yX11_isDigit : MethodName := ⟨RX11, "isDigit", "(I)Z"⟩
abbrev cX11_rank : ByteArray := prog_13_method_7_code
def yX11_rank : MethodName := ⟨RX11, "rank", "(I)I"⟩
abbrev cX11_isSignOf : ByteArray := prog_13_method_8_code
def yX11_isSignOf : MethodName := ⟨RX11, "isSignOf", "(I)Z"⟩
abbrev cX11_cutAll : ByteArray := prog_13_method_9_code
def yX11_cutAll : MethodName := ⟨RX11, "cutAll", "()V"⟩
abbrev cX11_wrong : ByteArray := prog_13_method_10_code
def yX11_wrong : MethodName := ⟨RX11, "wrong", "(I)V"⟩
abbrev cX11_isSign : ByteArray := prog_13_method_11_code
def yX11_isSign : MethodName := ⟨RX11, "isSign", "(I)Z"⟩
abbrev cX11_isWord : ByteArray := prog_13_method_12_code
def yX11_isWord : MethodName := ⟨RX11, "isWord", "(I)Z"⟩
abbrev cX11_takeSign : ByteArray := prog_13_method_13_code
def yX11_takeSign : MethodName := ⟨RX11, "takeSign", "(I)V"⟩
abbrev cX11_hasSign : ByteArray := prog_13_method_14_code
def yX11_hasSign : MethodName := ⟨RX11, "hasSign", "(I)Z"⟩
abbrev cX11_hasWord : ByteArray := prog_13_method_15_code
def yX11_hasWord : MethodName := ⟨RX11, "hasWord", "(I)Z"⟩
abbrev cX11_takeWord : ByteArray := prog_13_method_16_code
def yX11_takeWord : MethodName := ⟨RX11, "takeWord", "(I)V"⟩
abbrev cX11_within : ByteArray := prog_13_method_17_code
def yX11_within : MethodName := ⟨RX11, "within", "(III)Z"⟩
abbrev cX11_standsAsAlways : ByteArray := prog_13_method_18_code
def yX11_standsAsAlways : MethodName := ⟨RX11, "standsAsAlways", "(I)V"⟩
abbrev cX11_takeNumber : ByteArray := prog_13_method_19_code
def yX11_takeNumber : MethodName := ⟨RX11, "takeNumber", "(II)I"⟩
abbrev cX11_takeAfter : ByteArray := prog_13_method_20_code
def yX11_takeAfter : MethodName := ⟨RX11, "takeAfter", "(III)I"⟩
abbrev cX11_isName : ByteArray := prog_13_method_21_code
def yX11_isName : MethodName := ⟨RX11, "isName", "()Z"⟩
abbrev cX11_find : ByteArray := prog_13_method_22_code
def yX11_find : MethodName := ⟨RX11, "find", "()I"⟩
abbrev cX11_party : ByteArray := prog_13_method_23_code
def yX11_party : MethodName := ⟨RX11, "party", "()I"⟩
abbrev cX11_begins : ByteArray := prog_13_method_24_code
def yX11_begins : MethodName := ⟨RX11, "begins", "()V"⟩
abbrev cX11_readLine : ByteArray := prog_13_method_25_code
def yX11_readLine : MethodName := ⟨RX11, "readLine", "()V"⟩
abbrev cX11_readName : ByteArray := prog_13_method_26_code
def yX11_readName : MethodName := ⟨RX11, "readName", "(I)V"⟩
abbrev cX11_readPerson : ByteArray := prog_13_method_27_code
def yX11_readPerson : MethodName := ⟨RX11, "readPerson", "()V"⟩
abbrev cX11_readFruit : ByteArray := prog_13_method_28_code
def yX11_readFruit : MethodName := ⟨RX11, "readFruit", "()V"⟩
abbrev cX11_personHere : ByteArray := prog_13_method_29_code
def yX11_personHere : MethodName := ⟨RX11, "personHere", "()I"⟩
abbrev cX11_readTwo : ByteArray := prog_13_method_30_code
def yX11_readTwo : MethodName := ⟨RX11, "readTwo", "()V"⟩
abbrev cX11_readFall : ByteArray := prog_13_method_31_code
def yX11_readFall : MethodName := ⟨RX11, "readFall", "()V"⟩
abbrev cX11_readPick : ByteArray := prog_13_method_32_code
def yX11_readPick : MethodName := ⟨RX11, "readPick", "()V"⟩
abbrev cX11_readLaw : ByteArray := prog_13_method_33_code
def yX11_readLaw : MethodName := ⟨RX11, "readLaw", "()V"⟩
abbrev cX11_emit : ByteArray := prog_13_method_34_code
def yX11_emit : MethodName := ⟨RX11, "emit", "(II)V"⟩
abbrev cX11_all : ByteArray := prog_13_method_35_code
def yX11_all : MethodName := ⟨RX11, "all", "(I)V"⟩
abbrev cX11_test : ByteArray := prog_13_method_36_code
def yX11_test : MethodName := ⟨RX11, "test", "(I)V"⟩
abbrev cX11_sums : ByteArray := prog_13_method_37_code
def yX11_sums : MethodName := ⟨RX11, "sums", "(I)V"⟩
abbrev cX11_products : ByteArray := prog_13_method_38_code
def yX11_products : MethodName := ⟨RX11, "products", "(I)V"⟩
abbrev cX11_takePart : ByteArray := prog_13_method_39_code
def yX11_takePart : MethodName := ⟨RX11, "takePart", "(I)V"⟩
abbrev cX11_worthAt : ByteArray := prog_13_method_40_code
def yX11_worthAt : MethodName := ⟨RX11, "worthAt", "(I)I"⟩
abbrev cX11_both : ByteArray := prog_13_method_41_code
def yX11_both : MethodName := ⟨RX11, "both", "(III)I"⟩
abbrev cX11_copies : ByteArray := prog_13_method_42_code
def yX11_copies : MethodName := ⟨RX11, "copies", "(II)V"⟩
abbrev cX11_keeps : ByteArray := prog_13_method_43_code
def yX11_keeps : MethodName := ⟨RX11, "keeps", "()V"⟩
abbrev cX11_people : ByteArray := prog_13_method_44_code
def yX11_people : MethodName := ⟨RX11, "people", "()I"⟩
abbrev cX11_isPerson : ByteArray := prog_13_method_45_code
def yX11_isPerson : MethodName := ⟨RX11, "isPerson", "(I)Z"⟩
abbrev cX11_isOut : ByteArray := prog_13_method_46_code
def yX11_isOut : MethodName := ⟨RX11, "isOut", "(I)Z"⟩
abbrev cX11_personOf : ByteArray := prog_13_method_47_code
def yX11_personOf : MethodName := ⟨RX11, "personOf", "(II)I"⟩
abbrev cX11_kindOf : ByteArray := prog_13_method_48_code
def yX11_kindOf : MethodName := ⟨RX11, "kindOf", "(I)I"⟩
abbrev cX11_twoOf : ByteArray := prog_13_method_49_code
def yX11_twoOf : MethodName := ⟨RX11, "twoOf", "(II)I"⟩
abbrev cX11_findLine : ByteArray := prog_13_method_50_code
def yX11_findLine : MethodName := ⟨RX11, "findLine", "()V"⟩
abbrev cX11_placeOf : ByteArray := prog_13_method_51_code
def yX11_placeOf : MethodName := ⟨RX11, "placeOf", "(I)I"⟩
abbrev cX11_person : ByteArray := prog_13_method_52_code
def yX11_person : MethodName := ⟨RX11, "person", "(II)I"⟩
abbrev cX11_row : ByteArray := prog_13_method_53_code
def yX11_row : MethodName := ⟨RX11, "row", "(I)I"⟩
abbrev cX11_change : ByteArray := prog_13_method_54_code
def yX11_change : MethodName := ⟨RX11, "change", "(II)Z"⟩
abbrev cX11_out : ByteArray := prog_13_method_55_code
def yX11_out : MethodName := ⟨RX11, "out", "(IZ)Z"⟩
abbrev cX11_fruit : ByteArray := prog_13_method_56_code
def yX11_fruit : MethodName := ⟨RX11, "fruit", "(I)Z"⟩
abbrev cX11_pace : ByteArray := prog_13_method_57_code
def yX11_pace : MethodName := ⟨RX11, "pace", "(I)Z"⟩
abbrev cX11_undo : ByteArray := prog_13_method_58_code
def yX11_undo : MethodName := ⟨RX11, "undo", "()Z"⟩
abbrev cX11_clip : ByteArray := prog_13_method_59_code
def yX11_clip : MethodName := ⟨RX11, "clip", "(III)I"⟩
abbrev cX11_stepOf : ByteArray := prog_13_method_60_code
def yX11_stepOf : MethodName := ⟨RX11, "stepOf", "(II)I"⟩
abbrev cX11_laysFacts : ByteArray := prog_13_method_61_code
def yX11_laysFacts : MethodName := ⟨RX11, "laysFacts", "(III)V"⟩
abbrev cX11_isOne : ByteArray := prog_13_method_62_code
def yX11_isOne : MethodName := ⟨RX11, "isOne", "(III)Z"⟩
abbrev cX11_chanceOf : ByteArray := prog_13_method_63_code
def yX11_chanceOf : MethodName := ⟨RX11, "chanceOf", "(III)I"⟩
abbrev cX11_secondsOf : ByteArray := prog_13_method_64_code
def yX11_secondsOf : MethodName := ⟨RX11, "secondsOf", "(III)I"⟩
abbrev cX11_chance : ByteArray := prog_13_method_65_code
def yX11_chance : MethodName := ⟨RX11, "chance", "(III)I"⟩
abbrev cX11_seconds : ByteArray := prog_13_method_66_code
def yX11_seconds : MethodName := ⟨RX11, "seconds", "(III)I"⟩
abbrev cX11_reduces : ByteArray := prog_13_method_67_code
def yX11_reduces : MethodName := ⟨RX11, "reduces", "()V"⟩
abbrev cX11_hasMean : ByteArray := prog_13_method_68_code
def yX11_hasMean : MethodName := ⟨RX11, "hasMean", "([II)Z"⟩
abbrev cX11_mean : ByteArray := prog_13_method_69_code
def yX11_mean : MethodName := ⟨RX11, "mean", "(I)J"⟩
abbrev cX11_falls : ByteArray := prog_13_method_70_code
def yX11_falls : MethodName := ⟨RX11, "falls", "(II)J"⟩
abbrev cX11_mayStand : ByteArray := prog_13_method_71_code
def yX11_mayStand : MethodName := ⟨RX11, "mayStand", "(II)Z"⟩
abbrev cX11_arePairs : ByteArray := prog_13_method_72_code
def yX11_arePairs : MethodName := ⟨RX11, "arePairs", "()Z"⟩
abbrev cX11_triesOrder : ByteArray := prog_13_method_73_code
def yX11_triesOrder : MethodName := ⟨RX11, "triesOrder", "(II)V"⟩
abbrev cX11_findOrders : ByteArray := prog_13_method_74_code
def yX11_findOrders : MethodName := ⟨RX11, "findOrders", "()V"⟩
abbrev cX11_least : ByteArray := prog_13_method_75_code
def yX11_least : MethodName := ⟨RX11, "least", "(I)J"⟩
abbrev cX11_orders : ByteArray := prog_13_method_76_code
def yX11_orders : MethodName := ⟨RX11, "orders", "()I"⟩
abbrev cX11_best : ByteArray := prog_13_method_77_code
def yX11_best : MethodName := ⟨RX11, "best", "()I"⟩
abbrev cX11_bought : ByteArray := prog_13_method_78_code
def yX11_bought : MethodName := ⟨RX11, "bought", "(I)I"⟩
abbrev cX11_findWins : ByteArray := prog_13_method_79_code
def yX11_findWins : MethodName := ⟨RX11, "findWins", "(I)V"⟩
abbrev cX11_hurry : ByteArray := prog_13_method_80_code
def yX11_hurry : MethodName := ⟨RX11, "hurry", "(IIIZ)I"⟩
abbrev cX11_laughsAt : ByteArray := prog_13_method_81_code
def yX11_laughsAt : MethodName := ⟨RX11, "laughsAt", "(II)Z"⟩
abbrev cX11_laughsFrom : ByteArray := prog_13_method_82_code
def yX11_laughsFrom : MethodName := ⟨RX11, "laughsFrom", "(II)I"⟩
abbrev cX11_laughs : ByteArray := prog_13_method_83_code
def yX11_laughs : MethodName := ⟨RX11, "laughs", "(I)I"⟩
abbrev cX11_bits : ByteArray := prog_13_method_84_code
def yX11_bits : MethodName := ⟨RX11, "bits", "(I)I"⟩
abbrev cX11_outer : ByteArray := prog_13_method_85_code
def yX11_outer : MethodName := ⟨RX11, "outer", "(I)I"⟩
abbrev cX11_isTeam : ByteArray := prog_13_method_86_code
def yX11_isTeam : MethodName := ⟨RX11, "isTeam", "(I)Z"⟩
abbrev cX11_even : ByteArray := prog_13_method_87_code
def yX11_even : MethodName := ⟨RX11, "even", "(I)I"⟩
abbrev cX11_power : ByteArray := prog_13_method_88_code
def yX11_power : MethodName := ⟨RX11, "power", "(II)J"⟩
abbrev cX11_let : ByteArray := prog_13_method_89_code
def yX11_let : MethodName := ⟨RX11, "let", "(IIIII)J"⟩
abbrev cX11_draw : ByteArray := prog_13_method_90_code
def yX11_draw : MethodName := ⟨RX11, "draw", "(I)I"⟩
abbrev cX11_evening : ByteArray := prog_13_method_91_code
def yX11_evening : MethodName := ⟨RX11, "evening", "(II)I"⟩
abbrev cX11_mark : ByteArray := prog_13_method_92_code
def yX11_mark : MethodName := ⟨RX11, "mark", "(IZ)Z"⟩
abbrev cX11_twos : ByteArray := prog_13_method_93_code
def yX11_twos : MethodName := ⟨RX11, "twos", "(I)I"⟩
abbrev cX11_count : ByteArray := prog_13_method_94_code
def yX11_count : MethodName := ⟨RX11, "count", "(I)I"⟩
def RJ6 : String := "java/lang/Integer"
abbrev cJ6_bitCount_0f7a4 : ByteArray := prog_14_method_49_code
def yJ6_bitCount_0f7a4 : MethodName := ⟨RJ6, "bitCount", "(I)I"⟩
def RJ13 : String := "java/lang/Long"
abbrev cJ13_compare_74951 : ByteArray := prog_15_method_42_code
def yJ13_compare_74951 : MethodName := ⟨RJ13, "compare", "(JJ)I"⟩
def RJ9 : String := "java/lang/Math"
abbrev cJ9_abs_0f7a4 : ByteArray := prog_16_method_59_code
def yJ9_abs_0f7a4 : MethodName := ⟨RJ9, "abs", "(I)I"⟩
abbrev cJ9_max_7cf53 : ByteArray := prog_16_method_65_code
def yJ9_max_7cf53 : MethodName := ⟨RJ9, "max", "(II)I"⟩
abbrev cJ9_min_7cf53 : ByteArray := prog_16_method_69_code
def yJ9_min_7cf53 : MethodName := ⟨RJ9, "min", "(II)I"⟩
def RJ10 : String := "java/lang/System"
def RJ7 : String := "java/util/Arrays"
abbrev cJ7_fill_d0a16 : ByteArray := prog_18_method_101_code
def yJ7_fill_d0a16 : MethodName := ⟨RJ7, "fill", "([JJ)V"⟩
abbrev cJ7_fill_53178 : ByteArray := prog_18_method_103_code
def yJ7_fill_53178 : MethodName := ⟨RJ7, "fill", "([II)V"⟩
def RL : String := "ChinRowLaw"
abbrev cL_law : ByteArray := code
def yL_law : MethodName := ⟨RL, "law", "([I)Z"⟩
abbrev vwCl : List vw_C := [(RX0, TX0, 2), (RX1, TX1, 5), (RX2, TX2, 10), (RX3, TX3, 6), (RX4, TX4, 12), (RX5, TX5, 16), (RX6, TX6, 3), (RX7, TX7, 7), (RX8, TX8, 4), (RX9, TX9, 2), (RX10, TX10, 19), (RX11, TX11, 42)]

/-! the table of methods: name, code, locals, answer, slots of longs, owner, kind -/
def yT : List MethodName := [yX0_init, yX0_set, yX0_multiply, yX0_addPass, yX0_compareWith, yX0_reduce, yX0_part, yX1_init,
  yX1_readLaw, yX1_readPart, yX1_mayBeFact, yX1_readOperator, yX1_endPart, yX1_joinDownTo, yX1_top, yX1_push,
  yX1_rankOf, yX2_init, yX2_clear, yX2_begin, yX2_end, yX2_add, yX2_look, yX2_lookAtFruit,
  yX2_value, yX2_follow, yX2_isFact, yX2_fact, yX2_joined, yX3_init, yX3_start, yX3_advance,
  yX3_takeWord, yX3_takeNumber, yX3_signAt, yX3_isLetter, yX3_isDigit, yX3_isMark, yX4_init, yX4_find,
  yX4_whoAt, yX4_readPasses, yX4_begin, yX4_lengthen, yX4_offer, yX4_end, yX5_init, yX5_clear,
  yX5_addPerson, yX5_addFruit, yX5_areTold, yX5_addTwo, yX5_isEither, yX5_stepOf, yX5_lookAtFruit, yX5_chanceOf,
  yX5_secondsOf, yX5_costOf, yX5_mayStandBehind, yX5_mayTeam, yX5_difference, yX5_laughing, yX5_catches, yX6_init,
  yX6_forget, yX6_keep, yX6_giveBack, yX7_init, yX7_readParty, yX7_readPerson, yX7_readFruit, yX7_readTwo,
  yX7_readOnce, yX7_fail, yX7_take, yX7_takeNumber, yX7_takeKind, yX7_takeNewName, yX7_findPerson, yX7_isName,
  yX7_find, yX8_init, yX8_begin, yX8_take, yX8_isOut, yX8_swap, yX9_init, yX9_addBytes,
  yX9_addSign, yX10_init, yX10_feed, yX10_party, yX10_person, yX10_row, yX10_change, yX10_out,
  yX10_fruit, yX10_pace, yX10_undo, yX10_chance, yX10_seconds, yX10_mean, yX10_falls, yX10_least,
  yX10_orders, yX10_best, yX10_bought, yX10_hurry, yX10_laughs, yX10_outer, yX10_even, yX10_let,
  yX10_evening, yX10_mark, yX10_count, yX10_settle, yX10_isPerson, yX10_isPass, yX10_isPace, yX10_placeOf,
  yX10_passes, yX10_chanceAt, yX10_readPassChances, yX10_readPassSeconds, yX10_meanWith, yX10_tryAll, yX10_readPaceChances, yX10_hurryAt,
  yX10_laughingWithout, yX10_evenSet, yX10_power, yX10_within, yX11_feed, yX11_lay, yX11_init, yX11_isLetter,
  yX11_isDigit, yX11_rank, yX11_isSignOf, yX11_cutAll, yX11_wrong, yX11_isSign, yX11_isWord, yX11_takeSign,
  yX11_hasSign, yX11_hasWord, yX11_takeWord, yX11_within, yX11_standsAsAlways, yX11_takeNumber, yX11_takeAfter, yX11_isName,
  yX11_find, yX11_party, yX11_begins, yX11_readLine, yX11_readName, yX11_readPerson, yX11_readFruit, yX11_personHere,
  yX11_readTwo, yX11_readFall, yX11_readPick, yX11_readLaw, yX11_emit, yX11_all, yX11_test, yX11_sums,
  yX11_products, yX11_takePart, yX11_worthAt, yX11_both, yX11_copies, yX11_keeps, yX11_people, yX11_isPerson,
  yX11_isOut, yX11_personOf, yX11_kindOf, yX11_twoOf, yX11_findLine, yX11_placeOf, yX11_person, yX11_row,
  yX11_change, yX11_out, yX11_fruit, yX11_pace, yX11_undo, yX11_clip, yX11_stepOf, yX11_laysFacts,
  yX11_isOne, yX11_chanceOf, yX11_secondsOf, yX11_chance, yX11_seconds, yX11_reduces, yX11_hasMean, yX11_mean,
  yX11_falls, yX11_mayStand, yX11_arePairs, yX11_triesOrder, yX11_findOrders, yX11_least, yX11_orders, yX11_best,
  yX11_bought, yX11_findWins, yX11_hurry, yX11_laughsAt, yX11_laughsFrom, yX11_laughs, yX11_bits, yX11_outer,
  yX11_isTeam, yX11_even, yX11_power, yX11_let, yX11_draw, yX11_evening, yX11_mark, yX11_twos,
  yX11_count, yJ6_bitCount_0f7a4, yJ13_compare_74951, yJ9_abs_0f7a4, yJ9_max_7cf53, yJ9_min_7cf53, yJ7_fill_d0a16, yJ7_fill_53178,
  x]
def yN (y : Nat) : MethodName := yT.getD y x
def bT : List ByteArray := [prog_2_method_1_code, prog_2_method_2_code, prog_2_method_3_code, prog_2_method_4_code, prog_2_method_5_code, prog_2_method_6_code,
  prog_2_method_7_code, prog_3_method_1_code, prog_3_method_2_code, prog_3_method_3_code, prog_3_method_4_code, prog_3_method_5_code,
  prog_3_method_6_code, prog_3_method_7_code, prog_3_method_8_code, prog_3_method_9_code, prog_3_method_10_code, prog_4_method_1_code,
  prog_4_method_2_code, prog_4_method_3_code, prog_4_method_4_code, prog_4_method_5_code, prog_4_method_6_code, prog_4_method_7_code,
  prog_4_method_8_code, prog_4_method_9_code, prog_4_method_10_code, prog_4_method_11_code, prog_4_method_12_code, prog_5_method_1_code,
  prog_5_method_2_code, prog_5_method_3_code, prog_5_method_4_code, prog_5_method_5_code, prog_5_method_6_code, prog_5_method_7_code,
  prog_5_method_8_code, prog_5_method_9_code, prog_6_method_1_code, prog_6_method_2_code, prog_6_method_3_code, prog_6_method_4_code,
  prog_6_method_5_code, prog_6_method_6_code, prog_6_method_7_code, prog_6_method_8_code, prog_7_method_1_code, prog_7_method_2_code,
  prog_7_method_3_code, prog_7_method_4_code, prog_7_method_5_code, prog_7_method_6_code, prog_7_method_7_code, prog_7_method_8_code,
  prog_7_method_9_code, prog_7_method_10_code, prog_7_method_11_code, prog_7_method_12_code, prog_7_method_13_code, prog_7_method_14_code,
  prog_7_method_15_code, prog_7_method_16_code, prog_7_method_17_code, prog_8_method_1_code, prog_8_method_2_code, prog_8_method_3_code,
  prog_8_method_4_code, prog_9_method_1_code, prog_9_method_2_code, prog_9_method_3_code, prog_9_method_4_code, prog_9_method_5_code,
  prog_9_method_6_code, prog_9_method_7_code, prog_9_method_8_code, prog_9_method_9_code, prog_9_method_10_code, prog_9_method_11_code,
  prog_9_method_12_code, prog_9_method_13_code, prog_9_method_14_code, prog_10_method_1_code, prog_10_method_2_code, prog_10_method_3_code,
  prog_10_method_4_code, prog_10_method_5_code, prog_11_method_1_code, prog_11_method_2_code, prog_11_method_3_code, prog_1_method_1_code,
  prog_1_method_2_code, prog_1_method_3_code, prog_1_method_4_code, prog_1_method_5_code, prog_1_method_6_code, prog_1_method_7_code,
  prog_1_method_8_code, prog_1_method_9_code, prog_1_method_10_code, prog_1_method_11_code, prog_1_method_12_code, prog_1_method_13_code,
  prog_1_method_14_code, prog_1_method_15_code, prog_1_method_16_code, prog_1_method_17_code, prog_1_method_18_code, prog_1_method_19_code,
  prog_1_method_20_code, prog_1_method_21_code, prog_1_method_22_code, prog_1_method_23_code, prog_1_method_24_code, prog_1_method_25_code,
  prog_1_method_26_code, prog_1_method_27_code, prog_1_method_28_code, prog_1_method_29_code, prog_1_method_30_code, prog_1_method_31_code,
  prog_1_method_32_code, prog_1_method_33_code, prog_1_method_34_code, prog_1_method_35_code, prog_1_method_36_code, prog_1_method_37_code,
  prog_1_method_38_code, prog_1_method_39_code, prog_1_method_40_code, prog_1_method_41_code, prog_1_method_42_code, prog_1_method_43_code,
  prog_13_method_2_code, prog_13_method_3_code, prog_13_method_4_code, prog_13_method_5_code, prog_13_method_6_code, prog_13_method_7_code,
  prog_13_method_8_code, prog_13_method_9_code, prog_13_method_10_code, prog_13_method_11_code, prog_13_method_12_code, prog_13_method_13_code,
  prog_13_method_14_code, prog_13_method_15_code, prog_13_method_16_code, prog_13_method_17_code, prog_13_method_18_code, prog_13_method_19_code,
  prog_13_method_20_code, prog_13_method_21_code, prog_13_method_22_code, prog_13_method_23_code, prog_13_method_24_code, prog_13_method_25_code,
  prog_13_method_26_code, prog_13_method_27_code, prog_13_method_28_code, prog_13_method_29_code, prog_13_method_30_code, prog_13_method_31_code,
  prog_13_method_32_code, prog_13_method_33_code, prog_13_method_34_code, prog_13_method_35_code, prog_13_method_36_code, prog_13_method_37_code,
  prog_13_method_38_code, prog_13_method_39_code, prog_13_method_40_code, prog_13_method_41_code, prog_13_method_42_code, prog_13_method_43_code,
  prog_13_method_44_code, prog_13_method_45_code, prog_13_method_46_code, prog_13_method_47_code, prog_13_method_48_code, prog_13_method_49_code,
  prog_13_method_50_code, prog_13_method_51_code, prog_13_method_52_code, prog_13_method_53_code, prog_13_method_54_code, prog_13_method_55_code,
  prog_13_method_56_code, prog_13_method_57_code, prog_13_method_58_code, prog_13_method_59_code, prog_13_method_60_code, prog_13_method_61_code,
  prog_13_method_62_code, prog_13_method_63_code, prog_13_method_64_code, prog_13_method_65_code, prog_13_method_66_code, prog_13_method_67_code,
  prog_13_method_68_code, prog_13_method_69_code, prog_13_method_70_code, prog_13_method_71_code, prog_13_method_72_code, prog_13_method_73_code,
  prog_13_method_74_code, prog_13_method_75_code, prog_13_method_76_code, prog_13_method_77_code, prog_13_method_78_code, prog_13_method_79_code,
  prog_13_method_80_code, prog_13_method_81_code, prog_13_method_82_code, prog_13_method_83_code, prog_13_method_84_code, prog_13_method_85_code,
  prog_13_method_86_code, prog_13_method_87_code, prog_13_method_88_code, prog_13_method_89_code, prog_13_method_90_code, prog_13_method_91_code,
  prog_13_method_92_code, prog_13_method_93_code, prog_13_method_94_code, prog_14_method_49_code, prog_15_method_42_code, prog_16_method_59_code,
  prog_16_method_65_code, prog_16_method_69_code, prog_18_method_101_code, prog_18_method_103_code, code]
def bN (y : Nat) : ByteArray := bT.getD y code
def xT : List Nat := [1, 5, 3, 4, 5, 8, 2, 1, 6, 5, 2, 4, 2, 3, 1, 2, 1, 1, 1, 2, 2, 2, 3, 4, 6, 3, 1, 2, 3, 1,
  2, 3, 2, 2, 2, 1, 1, 1, 1, 7, 3, 10, 6, 9, 7, 5, 1, 1, 5, 3, 3, 5, 4, 3, 4, 6, 6, 3, 7, 4,
  4, 6, 3, 2, 1, 2, 2, 1, 5, 7, 5, 4, 2, 2, 2, 3, 2, 3, 2, 1, 5, 1, 3, 2, 2, 4, 1, 4, 3, 2,
  7, 3, 3, 2, 3, 3, 2, 2, 1, 4, 4, 2, 6, 2, 1, 3, 5, 8, 3, 7, 3, 11, 10, 3, 2, 2, 2, 3, 1, 3,
  1, 3, 3, 3, 5, 5, 3, 12, 5, 5, 5, 3, 7, 5, 1, 1, 1, 1, 1, 7, 2, 2, 2, 2, 3, 3, 2, 3, 3, 3,
  4, 3, 2, 2, 2, 1, 2, 5, 2, 2, 4, 1, 1, 2, 3, 3, 3, 3, 2, 5, 5, 3, 4, 2, 1, 2, 2, 3, 2, 3,
  2, 4, 3, 2, 5, 3, 2, 2, 1, 3, 4, 4, 4, 5, 5, 4, 4, 7, 12, 2, 6, 3, 4, 4, 1, 2, 1, 3, 7, 13,
  5, 3, 8, 2, 3, 6, 6, 7, 5, 6, 2, 7, 3, 5, 2, 1, 4, 1, 2, 2, 5, 4, 4]
def xN (y : Nat) : Nat := xT.getD y 0
def tT : List Nat := [0, 0, 0, 0, 2, 0, 3, 0, 2, 2, 1, 2, 0, 0, 2, 0, 2, 0, 0, 0, 0, 0, 0, 0, 2, 2, 1, 2, 2, 0,
  0, 0, 0, 0, 2, 1, 1, 1, 0, 0, 2, 0, 2, 0, 0, 0, 0, 0, 0, 0, 1, 0, 1, 2, 0, 2, 2, 2, 1, 1,
  2, 2, 1, 0, 0, 0, 1, 0, 2, 0, 0, 0, 0, 0, 0, 2, 2, 3, 2, 1, 2, 0, 0, 0, 1, 0, 0, 0, 0, 0,
  2, 2, 2, 2, 1, 1, 1, 1, 1, 2, 2, 3, 3, 3, 2, 2, 2, 2, 2, 2, 2, 3, 2, 1, 2, 0, 1, 1, 1, 2,
  2, 2, 0, 0, 1, 2, 0, 2, 2, 2, 3, 2, 2, 0, 0, 1, 1, 2, 1, 0, 0, 1, 1, 0, 1, 1, 0, 1, 0, 2,
  2, 1, 2, 2, 0, 0, 0, 0, 0, 2, 0, 0, 0, 0, 0, 0, 0, 0, 0, 0, 2, 2, 0, 0, 2, 1, 1, 2, 2, 2,
  0, 2, 2, 2, 1, 1, 1, 1, 1, 2, 2, 0, 1, 2, 2, 2, 2, 0, 1, 3, 3, 1, 1, 0, 0, 3, 2, 2, 2, 0,
  2, 1, 2, 2, 2, 2, 1, 2, 3, 3, 2, 2, 1, 2, 2, 2, 2, 2, 2, 2, 0, 0, 1]
def tN (y : Nat) : Option FieldType := match tT.getD y 0 with
  | 0 => none
  | 1 => some .boolean
  | 2 => some .int
  | _ => some .long
def gT : List (List Nat) := [[], [1, 3], [], [], [1, 3], [1, 3, 6], [], [], [], [], [], [],
  [], [], [], [], [], [], [], [], [], [], [], [],
  [], [], [], [], [], [], [], [], [], [], [], [],
  [], [], [], [], [], [], [], [], [], [], [], [],
  [], [], [], [], [], [], [], [], [], [], [], [],
  [], [], [], [], [], [], [], [], [], [2], [1], [],
  [], [], [], [], [], [1], [], [], [2], [], [], [],
  [], [], [], [1], [], [], [1, 3, 5], [], [], [], [], [],
  [], [], [], [], [], [], [], [], [], [], [], [],
  [], [], [], [7, 9], [4], [], [], [], [], [], [], [],
  [], [], [], [], [], [], [], [], [], [], [2], [],
  [1, 3, 5], [1], [], [], [], [], [], [5], [], [], [], [],
  [], [], [], [], [], [], [], [], [], [], [], [],
  [], [], [], [], [], [], [], [], [], [], [], [],
  [], [], [], [], [], [], [], [], [], [], [], [],
  [], [], [], [], [], [], [], [], [], [], [], [],
  [], [], [], [], [], [1, 3, 5], [3, 8, 10], [], [], [], [], [],
  [], [], [], [], [], [6, 8, 10], [], [], [], [], [], [],
  [], [], [2], [], [], [], [], [], [], [], [0, 2], [],
  [], [], [1], [], []]
def gN (y : Nat) : List Nat := gT.getD y []
def oT : List Nat := [0, 0, 0, 0, 0, 0, 0, 1, 1, 1, 1, 1, 1, 1, 1, 1, 1, 2, 2, 2, 2, 2, 2, 2, 2, 2, 2, 2, 2, 3,
  3, 3, 3, 3, 3, 3, 3, 3, 4, 4, 4, 4, 4, 4, 4, 4, 5, 5, 5, 5, 5, 5, 5, 5, 5, 5, 5, 5, 5, 5,
  5, 5, 5, 6, 6, 6, 6, 7, 7, 7, 7, 7, 7, 7, 7, 7, 7, 7, 7, 7, 7, 8, 8, 8, 8, 8, 9, 9, 9, 10,
  10, 10, 10, 10, 10, 10, 10, 10, 10, 10, 10, 10, 10, 10, 10, 10, 10, 10, 10, 10, 10, 10, 10, 10, 10, 10, 10, 10, 10, 10,
  10, 10, 10, 10, 10, 10, 10, 10, 10, 10, 10, 10, 11, 11, 11, 11, 11, 11, 11, 11, 11, 11, 11, 11, 11, 11, 11, 11, 11, 11,
  11, 11, 11, 11, 11, 11, 11, 11, 11, 11, 11, 11, 11, 11, 11, 11, 11, 11, 11, 11, 11, 11, 11, 11, 11, 11, 11, 11, 11, 11,
  11, 11, 11, 11, 11, 11, 11, 11, 11, 11, 11, 11, 11, 11, 11, 11, 11, 11, 11, 11, 11, 11, 11, 11, 11, 11, 11, 11, 11, 11,
  11, 11, 11, 11, 11, 11, 11, 11, 11, 11, 11, 11, 11, 11, 11, 14, 12, 13, 13, 13, 15, 15, 16]
def oN (y : Nat) : Nat := oT.getD y 0
def oS : List String := ["ChinRow$Fraction", "ChinRow$LawReader", "ChinRow$Laws", "ChinRow$Lexer", "ChinRow$Orders", "ChinRow$Party", "ChinRow$Past", "ChinRow$Reader", "ChinRow$Stand", "ChinRow$Tape", "ChinRow", "ChinRowModel", "java/lang/Long", "java/lang/Math", "java/lang/Integer", "java/util/Arrays", "ChinRowLaw"]
def oC (k : Nat) : String := oS.getD k ""
/-- 0 by its object, 1 static, 2 a maker -/
def kT : List Nat := [2, 0, 0, 0, 0, 0, 0, 2, 0, 0, 1, 0, 0, 0, 0, 0, 1, 2, 0, 0, 0, 0, 0, 0, 0, 0, 1, 0, 1, 2, 0, 0, 0, 0, 0, 1, 1, 1, 2, 0,
  0, 0, 0, 0, 0, 0, 2, 0, 0, 0, 0, 0, 0, 0, 0, 0, 0, 0, 0, 0, 0, 0, 0, 2, 0, 0, 0, 2, 0, 0, 0, 0, 0, 0, 0, 0, 0, 0, 0, 0,
  1, 2, 0, 0, 0, 0, 2, 0, 0, 2, 0, 0, 0, 0, 0, 0, 0, 0, 0, 0, 0, 0, 0, 0, 0, 0, 0, 0, 0, 0, 0, 0, 0, 0, 0, 0, 0, 0, 1, 0,
  0, 0, 0, 0, 0, 0, 0, 0, 0, 0, 1, 1, 0, 0, 2, 1, 1, 1, 1, 0, 0, 0, 0, 0, 0, 0, 0, 1, 0, 0, 0, 0, 0, 0, 0, 0, 0, 0, 0, 0,
  0, 0, 0, 0, 0, 0, 0, 0, 0, 0, 0, 1, 0, 0, 0, 0, 0, 0, 0, 0, 0, 0, 0, 0, 0, 0, 0, 0, 0, 1, 0, 0, 0, 0, 0, 0, 0, 0, 0, 0,
  0, 0, 0, 0, 0, 0, 0, 0, 0, 0, 0, 0, 0, 0, 1, 0, 0, 0, 1, 0, 0, 0, 0, 0, 0, 1, 1, 1, 1, 1, 1, 1, 1]
def kN (y : Nat) : Nat := kT.getD y 0
def aT : List Nat := [0, 2, 2, 3, 2, 0, 1, 0, 3, 2, 2, 1, 0, 1, 0, 1, 1, 0, 0, 1, 1, 1, 2, 3, 1, 2, 1, 1, 3, 0, 1, 0, 0, 0, 1, 1, 1, 1, 0, 4,
  2, 4, 2, 3, 4, 1, 0, 0, 4, 2, 2, 3, 3, 2, 2, 4, 4, 2, 3, 1, 1, 3, 2, 0, 0, 1, 1, 0, 2, 1, 0, 1, 1, 1, 1, 1, 0, 0, 0, 0,
  3, 0, 1, 1, 1, 2, 0, 1, 1, 0, 3, 0, 2, 1, 2, 2, 1, 1, 0, 3, 3, 1, 2, 1, 0, 0, 1, 4, 1, 1, 1, 5, 2, 2, 1, 0, 1, 2, 1, 1,
  0, 2, 1, 1, 1, 1, 1, 3, 2, 0, 2, 3, 3, 1, 0, 1, 1, 1, 1, 0, 1, 1, 1, 1, 1, 1, 1, 3, 1, 2, 3, 0, 0, 0, 0, 0, 1, 0, 0, 0,
  0, 0, 0, 0, 2, 1, 1, 1, 1, 1, 1, 3, 2, 0, 0, 1, 1, 2, 1, 2, 0, 1, 2, 1, 2, 2, 1, 1, 0, 3, 2, 3, 3, 3, 3, 3, 3, 0, 2, 1,
  2, 2, 0, 2, 0, 1, 0, 0, 1, 1, 4, 2, 2, 1, 1, 1, 1, 1, 2, 5, 1, 2, 2, 1, 1, 1, 2, 1, 2, 2, 2, 2, 1]
def aN (y : Nat) : Nat := aT.getD y 0
def pcT : List Nat := [395, 841, 875, 853, 916, 857, 861, 188, 640, 667, 670, 685, 681, 648, 652, 677, 655, 240, 540, 644, 663, 659, 790, 798, 802, 806, 673, 811, 814, 157,
  545, 549, 560, 569, 553, 556, 565, 572, 389, 883, 928, 888, 895, 903, 911, 923, 234, 533, 608, 616, 628, 632, 779, 783, 794, 775, 829, 849, 907, 1003,
  1007, 973, 977, 369, 694, 726, 763, 151, 529, 576, 612, 620, 636, 580, 600, 604, 596, 585, 624, 589, 592, 344, 690, 730, 702, 740, 134, 516, 521, 126,
  512, 525, 706, 718, 722, 744, 748, 752, 759, 767, 825, 833, 867, 879, 932, 936, 941, 956, 969, 981, 995, 1011, 1018, 1031, 1036, 698, 710, 771, 755, 714,
  845, 871, 946, 1022, 837, 951, 960, 964, 985, 999, 1014, 817, 1040, 1045, 1049, 1224, 1231, 1228, 1236, 1221, 1252, 1328, 1244, 1340, 1336, 1276, 1272, 1355, 1082, 1280,
  1268, 1260, 1264, 1217, 1086, 1240, 1256, 1248, 1284, 1292, 1288, 1296, 1300, 1304, 1332, 1308, 1312, 1316, 1320, 1324, 1431, 1434, 1387, 1383, 1352, 1348, 1371, 1359, 1419, 1482,
  1367, 1363, 1344, 1375, 1379, 1391, 1395, 1399, 1403, 1437, 1423, 1427, 1415, 1411, 1445, 1407, 1441, 1457, 1453, 1449, 1462, 1486, 1478, 1474, 1470, 1466, 1490, 1494, 1498, 1507,
  1503, 1521, 1517, 1513, 1528, 1525, 1536, 1532, 1543, 1540, 1551, 1547, 1559, 1567, 1563, 988, 919, 786, 821, 736, 899, 536, 0]
def piT : List Nat := [394, 839, 873, 851, 914, 855, 859, 187, 638, 666, 669, 684, 680, 647, 651, 676, 654, 239, 538, 642, 661, 657, 788, 796, 800, 805, 672, 810, 813, 156,
  543, 547, 559, 568, 552, 555, 564, 571, 388, 881, 926, 887, 894, 902, 910, 922, 233, 531, 606, 614, 626, 630, 778, 782, 793, 773, 827, 847, 905, 1001,
  1005, 971, 976, 368, 692, 724, 761, 150, 527, 575, 611, 619, 635, 579, 599, 603, 595, 584, 623, 588, 591, 343, 688, 728, 700, 738, 133, 514, 520, 125,
  510, 523, 704, 716, 720, 742, 746, 750, 757, 765, 823, 831, 865, 877, 930, 934, 939, 954, 967, 979, 993, 1009, 1016, 1029, 1034, 697, 709, 770, 754, 713,
  844, 870, 945, 1021, 836, 950, 959, 963, 984, 998, 1013, 816, 1038, 1043, 1048, 1223, 1230, 1227, 1235, 1220, 1251, 1327, 1243, 1339, 1335, 1275, 1271, 1354, 1081, 1279,
  1267, 1259, 1263, 1215, 1085, 1239, 1255, 1247, 1283, 1291, 1287, 1295, 1299, 1303, 1331, 1307, 1311, 1315, 1319, 1323, 1430, 1433, 1386, 1382, 1351, 1347, 1370, 1358, 1418, 1481,
  1366, 1362, 1342, 1373, 1377, 1389, 1393, 1397, 1401, 1436, 1422, 1426, 1414, 1410, 1444, 1405, 1439, 1456, 1452, 1447, 1460, 1485, 1477, 1473, 1469, 1464, 1488, 1492, 1496, 1506,
  1501, 1520, 1516, 1511, 1527, 1523, 1535, 1530, 1542, 1538, 1550, 1545, 1557, 1566, 1561, 987, 918, 785, 820, 735, 898, 535, 0]
def psT : List Nat := [0, 840, 874, 852, 915, 856, 860, 0, 639, 17, 0, 20, 19, 15, 16, 18, 0, 0, 539, 643, 662, 658, 789, 797, 801, 28, 0, 29, 0, 0,
  544, 548, 2, 3, 1, 0, 0, 0, 0, 882, 927, 33, 34, 35, 36, 37, 0, 532, 607, 615, 627, 631, 25, 26, 27, 774, 828, 848, 906, 1002,
  1006, 972, 42, 0, 693, 725, 762, 0, 528, 4, 11, 12, 14, 5, 9, 10, 8, 6, 13, 7, 0, 0, 689, 729, 701, 739, 0, 515, 0, 0,
  511, 524, 705, 717, 721, 743, 747, 751, 758, 766, 824, 832, 866, 878, 931, 935, 940, 955, 968, 980, 994, 1010, 1017, 1030, 1035, 21, 22, 24, 0, 23,
  31, 32, 38, 45, 30, 39, 40, 41, 43, 44, 0, 0, 1039, 46, 0, 0, 0, 0, 0, 49, 53, 72, 51, 75, 74, 59, 58, 0, 47, 60,
  57, 55, 56, 1216, 48, 50, 54, 52, 61, 63, 62, 64, 65, 66, 73, 67, 68, 69, 70, 71, 89, 0, 83, 82, 77, 76, 81, 78, 86, 96,
  80, 79, 1343, 1374, 1378, 1390, 1394, 1398, 1402, 0, 87, 88, 85, 84, 90, 1406, 1440, 92, 91, 1448, 1461, 97, 95, 94, 93, 1465, 1489, 1493, 1497, 98,
  1502, 100, 99, 1512, 0, 1524, 101, 1531, 0, 1539, 102, 1546, 1558, 103, 1562, 0, 0, 0, 0, 0, 0, 0, 0]
def pnT : List Nat := [115, 115, 115, 115, 115, 115, 115, 109, 109, 109, 109, 109, 109, 109, 109, 109, 109, 111, 111, 111, 111, 111, 111, 111, 111, 111, 111, 111, 111, 108,
  108, 108, 108, 108, 108, 108, 108, 108, 114, 114, 114, 114, 114, 114, 114, 114, 110, 110, 110, 110, 110, 110, 110, 110, 110, 110, 110, 110, 110, 110,
  110, 110, 110, 113, 113, 113, 113, 107, 107, 107, 107, 107, 107, 107, 107, 107, 107, 107, 107, 107, 107, 112, 112, 112, 112, 112, 106, 106, 106, 105,
  105, 105, 105, 105, 105, 105, 105, 105, 105, 105, 105, 105, 105, 105, 105, 105, 105, 105, 105, 105, 105, 105, 105, 105, 105, 105, 105, 105, 105, 105,
  105, 105, 105, 105, 105, 105, 105, 105, 105, 105, 105, 105, 116, 116, 116, 116, 116, 116, 116, 116, 116, 116, 116, 116, 116, 116, 116, 116, 116, 116,
  116, 116, 116, 116, 116, 116, 116, 116, 116, 116, 116, 116, 116, 116, 116, 116, 116, 116, 116, 116, 116, 116, 116, 116, 116, 116, 116, 116, 116, 116,
  116, 116, 116, 116, 116, 116, 116, 116, 116, 116, 116, 116, 116, 116, 116, 116, 116, 116, 116, 116, 116, 116, 116, 116, 116, 116, 116, 116, 116, 116,
  116, 116, 116, 116, 116, 116, 116, 116, 116, 116, 116, 116, 116, 116, 116, 121, 120, 119, 119, 119, 117, 117, 0]
/-! the constant pool: fields (owner, index, class, slot, place in the tables), methods (owner, index, method, place, nest), classes, numbers -/
def fL : List (Nat × Nat × Nat × Nat × Nat) := [(9, 9, 9, 0, 136), (3, 64, 9, 0, 137), (9, 15, 9, 1, 138), (10, 101, 9, 1, 139), (3, 59, 9, 1, 140), (3, 9, 3, 0, 159), (3, 15, 3, 1, 160), (3, 19, 3, 2, 161),
  (7, 52, 3, 2, 162), (1, 36, 3, 2, 163), (3, 22, 3, 3, 164), (7, 133, 3, 3, 165), (3, 25, 3, 4, 166), (1, 65, 3, 4, 167), (7, 136, 3, 4, 168), (3, 28, 3, 5, 169),
  (7, 139, 3, 5, 170), (1, 9, 1, 0, 190), (1, 15, 1, 1, 191), (1, 19, 1, 2, 192), (1, 22, 1, 3, 193), (1, 26, 1, 4, 194), (7, 12, 7, 0, 207), (7, 21, 7, 1, 208),
  (7, 25, 7, 2, 209), (7, 29, 7, 3, 210), (7, 32, 7, 4, 211), (7, 36, 7, 5, 212), (7, 40, 7, 6, 213), (2, 9, 2, 0, 242), (2, 15, 2, 1, 243), (2, 19, 2, 2, 244),
  (2, 22, 2, 3, 245), (2, 25, 2, 4, 246), (2, 28, 2, 5, 247), (2, 31, 2, 6, 248), (2, 34, 2, 7, 249), (2, 37, 2, 8, 250), (2, 40, 2, 9, 251), (5, 9, 5, 0, 274),
  (7, 75, 5, 0, 275), (10, 298, 5, 0, 276), (5, 15, 5, 1, 277), (10, 125, 5, 1, 278), (5, 19, 5, 2, 279), (10, 128, 5, 2, 280), (5, 23, 5, 3, 281), (10, 132, 5, 3, 282),
  (5, 26, 5, 4, 283), (10, 135, 5, 4, 284), (5, 29, 5, 5, 285), (5, 32, 5, 6, 286), (5, 35, 5, 7, 287), (10, 301, 5, 7, 288), (5, 38, 5, 8, 289), (10, 304, 5, 8, 290),
  (5, 41, 5, 9, 291), (10, 108, 5, 9, 292), (7, 97, 5, 9, 293), (5, 44, 5, 10, 294), (5, 47, 5, 11, 295), (5, 53, 5, 12, 296), (7, 125, 5, 12, 297), (5, 57, 5, 13, 298),
  (7, 115, 5, 13, 299), (4, 109, 5, 13, 300), (10, 292, 5, 13, 301), (5, 61, 5, 14, 302), (7, 122, 5, 14, 303), (5, 64, 5, 15, 304), (7, 119, 5, 15, 305), (10, 289, 5, 15, 306),
  (8, 9, 8, 0, 346), (10, 310, 8, 0, 347), (8, 15, 8, 1, 348), (10, 153, 8, 1, 349), (8, 19, 8, 2, 350), (4, 75, 8, 2, 351), (10, 156, 8, 2, 352), (8, 22, 8, 3, 353),
  (4, 80, 8, 3, 354), (10, 162, 8, 3, 355), (6, 11, 6, 0, 374), (6, 17, 6, 1, 375), (6, 21, 6, 2, 376), (10, 307, 6, 2, 377), (0, 9, 0, 0, 397), (4, 124, 0, 0, 398),
  (10, 222, 0, 0, 399), (0, 15, 0, 1, 400), (4, 128, 0, 1, 401), (10, 226, 0, 1, 402), (4, 11, 4, 0, 408), (4, 15, 4, 1, 409), (4, 19, 4, 2, 410), (4, 22, 4, 3, 411),
  (4, 25, 4, 4, 412), (4, 28, 4, 5, 413), (4, 34, 4, 6, 414), (4, 38, 4, 7, 415), (10, 313, 4, 7, 416), (4, 42, 4, 8, 417), (10, 219, 4, 8, 418), (4, 46, 4, 9, 419),
  (10, 211, 4, 9, 420), (4, 49, 4, 10, 421), (10, 215, 4, 10, 422), (4, 52, 4, 11, 423), (10, 10, 10, 0, 451), (10, 19, 10, 1, 452), (10, 26, 10, 2, 453), (10, 30, 10, 3, 454),
  (10, 36, 10, 4, 455), (10, 43, 10, 5, 456), (10, 47, 10, 6, 457), (10, 51, 10, 7, 458), (10, 55, 10, 8, 459), (10, 59, 10, 9, 460), (10, 65, 10, 10, 461), (10, 72, 10, 11, 462),
  (10, 76, 10, 12, 463), (10, 79, 10, 13, 464), (10, 82, 10, 14, 465), (10, 85, 10, 15, 466), (10, 88, 10, 16, 467), (10, 91, 10, 17, 468), (10, 94, 10, 18, 469), (11, 1, 11, 0, 1087),
  (11, 14, 11, 1, 1088), (11, 11, 11, 2, 1089), (11, 156, 11, 3, 1090), (11, 24, 11, 4, 1091), (11, 27, 11, 5, 1092), (11, 30, 11, 6, 1093), (11, 175, 11, 7, 1094), (11, 178, 11, 8, 1095),
  (11, 90, 11, 9, 1096), (11, 93, 11, 10, 1097), (11, 96, 11, 11, 1098), (11, 99, 11, 12, 1099), (11, 206, 11, 13, 1100), (11, 102, 11, 14, 1101), (11, 105, 11, 15, 1102), (11, 200, 11, 16, 1103),
  (11, 209, 11, 17, 1104), (11, 213, 11, 18, 1105), (11, 261, 11, 19, 1106), (11, 108, 11, 20, 1107), (11, 111, 11, 21, 1108), (11, 114, 11, 22, 1109), (11, 117, 11, 23, 1110), (11, 222, 11, 24, 1111),
  (11, 120, 11, 25, 1112), (11, 124, 11, 26, 1113), (11, 298, 11, 27, 1114), (11, 320, 11, 28, 1115), (11, 348, 11, 29, 1116), (11, 352, 11, 30, 1117), (11, 127, 11, 31, 1118), (11, 130, 11, 32, 1119),
  (11, 370, 11, 33, 1120), (11, 373, 11, 34, 1121), (11, 379, 11, 35, 1122), (11, 376, 11, 36, 1123), (11, 133, 11, 37, 1124), (11, 136, 11, 38, 1125), (11, 139, 11, 39, 1126), (11, 142, 11, 40, 1127),
  (11, 415, 11, 41, 1128)]
def mL : List (Nat × Nat × Nat × Nat × Nat) := [(16, 9, 89, 124, 0), (10, 9, 86, 132, 1), (10, 18, 67, 149, 1), (7, 11, 29, 155, 1), (7, 20, 7, 186, 1), (10, 25, 46, 232, 1), (5, 52, 17, 238, 1), (10, 35, 81, 342, 1),
  (10, 42, 63, 367, 0), (6, 24, 81, 373, 1), (10, 64, 38, 387, 1), (4, 33, 0, 393, 1), (10, 71, 0, 450, 1), (16, 15, 90, 509, 0), (10, 97, 87, 513, 0), (9, 21, 88, 518, 0),
  (16, 20, 91, 522, 0), (10, 104, 68, 526, 0), (7, 43, 47, 530, 0), (5, 67, 231, 534, 0), (5, 73, 18, 537, 0), (2, 43, 231, 541, 0), (7, 48, 30, 542, 0), (3, 32, 31, 546, 0),
  (3, 35, 34, 550, 0), (3, 39, 35, 554, 0), (3, 43, 32, 557, 0), (3, 46, 36, 563, 0), (3, 49, 33, 566, 0), (3, 52, 37, 570, 0), (7, 55, 69, 573, 0), (7, 69, 73, 577, 0),
  (7, 78, 31, 581, 0), (7, 81, 77, 582, 0), (7, 143, 79, 586, 0), (7, 147, 80, 590, 0), (7, 85, 76, 593, 0), (7, 72, 74, 597, 0), (7, 89, 75, 601, 0), (7, 93, 48, 605, 0),
  (7, 59, 70, 609, 0), (7, 100, 49, 613, 0), (7, 62, 71, 617, 0), (7, 104, 78, 621, 0), (7, 107, 50, 625, 0), (7, 111, 51, 629, 0), (7, 65, 72, 633, 0), (7, 129, 8, 637, 0),
  (1, 30, 19, 641, 0), (1, 41, 13, 645, 0), (1, 81, 14, 649, 0), (1, 78, 16, 653, 0), (1, 68, 21, 656, 0), (1, 44, 20, 660, 0), (1, 47, 9, 664, 0), (1, 58, 10, 668, 0),
  (1, 74, 26, 671, 0), (1, 62, 15, 674, 0), (1, 71, 12, 678, 0), (1, 51, 11, 682, 0), (1, 55, 31, 686, 0), (10, 111, 82, 687, 0), (10, 115, 64, 691, 0), (10, 118, 115, 695, 0),
  (10, 150, 84, 699, 0), (16, 25, 92, 703, 0), (10, 121, 116, 707, 0), (10, 138, 119, 711, 0), (16, 30, 93, 715, 0), (16, 35, 94, 719, 0), (10, 142, 65, 723, 0), (6, 25, 83, 727, 0),
  (10, 146, 85, 737, 0), (16, 40, 95, 741, 0), (16, 45, 96, 745, 0), (16, 50, 97, 749, 0), (10, 159, 118, 753, 0), (16, 54, 98, 756, 0), (10, 165, 66, 760, 0), (16, 59, 99, 764, 0),
  (10, 169, 117, 768, 0), (10, 173, 55, 772, 0), (5, 86, 52, 776, 0), (5, 90, 53, 780, 0), (5, 94, 22, 787, 0), (5, 98, 54, 791, 0), (5, 82, 23, 795, 0), (5, 100, 24, 799, 0),
  (2, 49, 25, 803, 0), (2, 53, 26, 807, 0), (2, 57, 27, 808, 0), (2, 61, 28, 812, 0), (5, 103, 131, 815, 1), (16, 64, 100, 822, 0), (10, 177, 56, 826, 0), (16, 68, 101, 830, 0),
  (10, 180, 124, 834, 0), (10, 193, 1, 838, 0), (10, 189, 120, 842, 0), (10, 316, 57, 846, 0), (10, 319, 3, 850, 0), (10, 204, 5, 854, 0), (10, 183, 6, 858, 0), (16, 73, 102, 864, 0),
  (10, 197, 121, 868, 0), (10, 201, 2, 872, 0), (16, 78, 103, 876, 0), (10, 207, 39, 880, 0), (4, 55, 1, 884, 0), (4, 59, 41, 885, 0), (4, 83, 55, 889, 0), (4, 89, 56, 890, 0),
  (4, 92, 57, 891, 0), (4, 63, 42, 892, 0), (4, 96, 231, 896, 0), (4, 102, 230, 897, 0), (4, 67, 43, 900, 0), (4, 105, 58, 904, 0), (4, 112, 44, 908, 0), (4, 116, 3, 912, 0),
  (4, 120, 4, 913, 0), (0, 18, 226, 917, 0), (4, 71, 45, 920, 0), (4, 131, 5, 924, 0), (10, 216, 40, 925, 0), (16, 82, 104, 929, 0), (16, 86, 105, 933, 0), (10, 229, 4, 937, 0),
  (16, 90, 106, 938, 0), (10, 234, 122, 943, 0), (10, 237, 231, 947, 0), (10, 243, 125, 948, 0), (16, 94, 107, 953, 0), (10, 252, 126, 957, 0), (10, 255, 127, 961, 0), (16, 99, 108, 966, 0),
  (10, 259, 61, 970, 0), (5, 107, 62, 974, 0), (16, 103, 109, 978, 0), (10, 263, 128, 982, 0), (10, 324, 225, 986, 0), (16, 107, 110, 992, 0), (10, 266, 129, 996, 0), (10, 329, 59, 1000, 0),
  (10, 269, 60, 1004, 0), (16, 111, 111, 1008, 0), (10, 272, 130, 1012, 0), (16, 116, 112, 1015, 0), (10, 276, 123, 1019, 0), (16, 120, 113, 1028, 0), (10, 295, 83, 1032, 0), (16, 124, 114, 1033, 0),
  (16, 19, 132, 1037, 0), (11, 7, 133, 1041, 0), (16, 12, 134, 1047, 0), (11, 145, 148, 1079, 0), (11, 149, 154, 1083, 0), (16, 24, 153, 1214, 0), (11, 203, 139, 1218, 0), (11, 152, 135, 1222, 0),
  (11, 161, 137, 1226, 0), (11, 165, 136, 1229, 0), (11, 172, 138, 1234, 0), (11, 216, 155, 1237, 0), (11, 187, 142, 1241, 0), (11, 225, 157, 1245, 0), (11, 184, 140, 1249, 0), (11, 251, 156, 1253, 0),
  (11, 243, 151, 1257, 0), (11, 247, 152, 1261, 0), (11, 254, 150, 1265, 0), (11, 193, 146, 1269, 0), (11, 190, 145, 1273, 0), (11, 196, 149, 1277, 0), (11, 228, 158, 1281, 0), (11, 231, 160, 1285, 0),
  (11, 258, 159, 1289, 0), (11, 234, 161, 1293, 0), (11, 237, 162, 1297, 0), (11, 240, 163, 1301, 0), (11, 264, 165, 1305, 0), (11, 271, 166, 1309, 0), (11, 274, 167, 1313, 0), (11, 280, 168, 1317, 0),
  (11, 283, 169, 1321, 0), (11, 181, 141, 1325, 0), (11, 267, 164, 1329, 0), (11, 277, 144, 1333, 0), (11, 219, 143, 1337, 0), (16, 29, 182, 1341, 0), (11, 307, 175, 1345, 0), (11, 292, 174, 1349, 0),
  (11, 310, 147, 1353, 0), (11, 295, 177, 1356, 0), (11, 314, 181, 1360, 0), (11, 304, 180, 1364, 0), (11, 301, 176, 1368, 0), (16, 34, 183, 1372, 0), (16, 39, 184, 1376, 0), (11, 317, 173, 1380, 0),
  (11, 289, 172, 1384, 0), (16, 44, 185, 1388, 0), (16, 49, 186, 1392, 0), (16, 53, 187, 1396, 0), (16, 58, 188, 1400, 0), (16, 63, 195, 1404, 0), (11, 342, 193, 1408, 0), (11, 326, 192, 1412, 0),
  (11, 323, 178, 1416, 0), (11, 329, 190, 1420, 0), (11, 332, 191, 1424, 0), (11, 336, 170, 1428, 0), (11, 286, 171, 1432, 0), (11, 339, 189, 1435, 0), (16, 67, 196, 1438, 0), (11, 345, 194, 1442, 0),
  (16, 72, 199, 1446, 0), (11, 358, 198, 1450, 0), (11, 355, 197, 1454, 0), (16, 77, 200, 1459, 0), (16, 81, 205, 1463, 0), (11, 389, 204, 1467, 0), (11, 386, 203, 1471, 0), (11, 367, 202, 1475, 0),
  (11, 364, 179, 1479, 0), (11, 382, 201, 1483, 0), (16, 85, 206, 1487, 0), (16, 89, 207, 1491, 0), (16, 93, 208, 1495, 0), (16, 98, 210, 1500, 0), (11, 396, 209, 1504, 0), (16, 102, 213, 1510, 0),
  (11, 402, 212, 1514, 0), (11, 399, 211, 1518, 0), (16, 106, 215, 1522, 0), (11, 405, 214, 1526, 0), (16, 110, 217, 1529, 0), (11, 408, 216, 1533, 0), (16, 115, 219, 1537, 0), (11, 411, 218, 1541, 0),
  (16, 119, 221, 1544, 0), (11, 426, 220, 1548, 0), (16, 123, 222, 1556, 0), (16, 127, 224, 1560, 0), (11, 429, 223, 1564, 0)]
def hL : List (Nat × Nat × Nat × Nat) := [(10, 1, 901, 127), (9, 3, 901, 135), (7, 3, 901, 152), (3, 3, 901, 158), (1, 3, 901, 189), (5, 3, 901, 235), (2, 3, 901, 241), (8, 3, 901, 345),
  (6, 3, 901, 370), (4, 3, 901, 390), (0, 3, 901, 396), (8, 25, 900, 731), (6, 29, 903, 734), (5, 76, 904, 784), (10, 332, 903, 818), (10, 337, 902, 819),
  (10, 246, 900, 952), (11, 18, 901, 1050)]
def cL : List (Nat × Nat × Nat × Nat) := [(16, 7, 10, 122), (10, 7, 9, 130), (10, 16, 7, 147), (7, 9, 3, 153), (7, 18, 1, 184), (10, 23, 5, 230), (5, 50, 2, 236), (10, 33, 8, 340),
  (10, 40, 6, 365), (6, 9, 8, 371), (10, 62, 4, 385), (4, 31, 0, 391), (10, 69, 0, 449), (16, 10, 11, 1046)]
def nL : List (Nat × Nat × Int32 × Nat) := [(10, 233, 1000000, 942), (10, 323, 500000, 965), (14, 265, 1431655765, 989), (14, 266, 858993459, 990), (14, 267, 252645135, 991), (11, 392, 1000000, 1499), (11, 393, 500000, 1508)]
def lL : List (Nat × Nat × Int64 × Nat) := [(9, 19, 255, 517), (0, 24, (-1), 862), (10, 187, (-1), 863), (10, 279, 1103515245, 1023), (10, 281, 12345, 1024), (10, 283, 2147483648, 1025), (10, 285, 65536, 1026), (10, 287, 10, 1027),
  (11, 34, 17848, 1051), (11, 36, 43883346, 1052), (11, 38, 1014885, 1053), (11, 40, 716109, 1054), (11, 42, 12185822, 1055), (11, 44, 975695, 1056), (11, 46, 979184, 1057), (11, 48, 426207, 1058),
  (11, 50, 1025867, 1059), (11, 52, 22569601, 1060), (11, 54, 812168, 1061), (11, 56, 45076382804, 1062), (11, 58, 305743, 1063), (11, 60, 12177793, 1064), (11, 62, 37895960, 1065), (11, 64, 822891, 1066),
  (11, 66, 38572112, 1067), (11, 68, 30596128, 1068), (11, 70, 4003626, 1069), (11, 72, 1118949875, 1070), (11, 74, 26332, 1071), (11, 76, 1355799344, 1072), (11, 78, 172942, 1073), (11, 80, 19741, 1074),
  (11, 82, 1891, 1075), (11, 84, 573, 1076), (11, 86, 989988, 1077), (11, 88, 811933, 1078), (11, 159, 37, 1225), (11, 168, 10, 1232), (11, 170, 48, 1233), (11, 362, (-1), 1458),
  (11, 394, 100, 1509), (11, 418, 1103515245, 1552), (11, 420, 12345, 1553), (11, 422, 2147483648, 1554), (11, 424, 65536, 1555), (16, 13, 4294967295, 1568)]
def TN (c : Nat) : u_T := match c with
  | 0 => TX0
  | 1 => TX1
  | 2 => TX2
  | 3 => TX3
  | 4 => TX4
  | 5 => TX5
  | 6 => TX6
  | 7 => TX7
  | 8 => TX8
  | 9 => TX9
  | 10 => TX10
  | _ => TX11
def tyN (c : Nat) : Nat → FieldType := match c with
  | 0 => tyX0
  | 1 => tyX1
  | 2 => tyX2
  | 3 => tyX3
  | 4 => tyX4
  | 5 => tyX5
  | 6 => tyX6
  | 7 => tyX7
  | 8 => tyX8
  | 9 => tyX9
  | 10 => tyX10
  | _ => tyX11
def NT : List Nat := [2, 5, 10, 6, 12, 16, 3, 7, 4, 2, 19, 42]
def NN (c : Nat) : Nat := NT.getD c 0
