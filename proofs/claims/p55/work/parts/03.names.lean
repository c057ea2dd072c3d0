def RX0 : String := "CandleLoom$1"
def TX0 : u_T := fun k => match k with
  | _ => ("", "", "", false)
def tyX0 : Nat → FieldType := fun k => match k with
  | _ => .int
abbrev wsX00 : List Cond := u_ws RX0 TX0 0
theorem nmX0 : ∀ a, a < 0 → ∀ b, b < 0 → a ≠ b → (TX0 a).2.1 ≠ (TX0 b).2.1 := by decide +kernel
theorem tyX0_ok : ∀ k, k < 0 → parseFieldDescriptor (TX0 k).2.2.1 = some (tyX0 k) := by decide +kernel
def RX1 : String := "CandleLoom$Cloth"
def TX1 : u_T := fun k => match k with
  | 0 => ("CandleLoom$Cloth", "masks", "[I", true)
  | 1 => ("CandleLoom$Cloth", "colours", "[I", true)
  | 2 => ("CandleLoom$Cloth", "knots", "[I", true)
  | _ => ("CandleLoom$Cloth", "count", "I", false)
def tyX1 : Nat → FieldType := fun k => match k with
  | 0 => .array .int
  | 1 => .array .int
  | 2 => .array .int
  | _ => .int
abbrev wsX10 : List Cond := u_ws RX1 TX1 4
theorem nmX1 : ∀ a, a < 4 → ∀ b, b < 4 → a ≠ b → (TX1 a).2.1 ≠ (TX1 b).2.1 := by decide +kernel
theorem tyX1_ok : ∀ k, k < 4 → parseFieldDescriptor (TX1 k).2.2.1 = some (tyX1 k) := by decide +kernel
abbrev cX1_init : ByteArray := prog_3_method_1_code
def yX1_init : MethodName := ⟨RX1, "<init>", "()V"⟩
abbrev cX1_isColumn : ByteArray := prog_3_method_2_code
def yX1_isColumn : MethodName := ⟨RX1, "isColumn", "(I)Z"⟩
abbrev cX1_copyFrom : ByteArray := prog_3_method_3_code
def yX1_copyFrom : MethodName := ⟨RX1, "copyFrom", "(LCandleLoom$Cloth;)V"⟩
abbrev cX1_has : ByteArray := prog_3_method_4_code
def yX1_has : MethodName := ⟨RX1, "has", "(I)Z"⟩
abbrev cX1_hasCell : ByteArray := prog_3_method_5_code
def yX1_hasCell : MethodName := ⟨RX1, "hasCell", "(II)Z"⟩
abbrev cX1_raisedAt : ByteArray := prog_3_method_6_code
def yX1_raisedAt : MethodName := ⟨RX1, "raisedAt", "(II)Z"⟩
abbrev cX1_knottedAt : ByteArray := prog_3_method_7_code
def yX1_knottedAt : MethodName := ⟨RX1, "knottedAt", "(II)Z"⟩
abbrev cX1_append : ByteArray := prog_3_method_8_code
def yX1_append : MethodName := ⟨RX1, "append", "(II)V"⟩
abbrev cX1_removeLast : ByteArray := prog_3_method_9_code
def yX1_removeLast : MethodName := ⟨RX1, "removeLast", "(I)I"⟩
abbrev cX1_copyLast : ByteArray := prog_3_method_10_code
def yX1_copyLast : MethodName := ⟨RX1, "copyLast", "(II)I"⟩
abbrev cX1_flipKnot : ByteArray := prog_3_method_11_code
def yX1_flipKnot : MethodName := ⟨RX1, "flipKnot", "(II)I"⟩
abbrev cX1_countKnots : ByteArray := prog_3_method_12_code
def yX1_countKnots : MethodName := ⟨RX1, "countKnots", "()I"⟩
abbrev cX1_countRaised : ByteArray := prog_3_method_13_code
def yX1_countRaised : MethodName := ⟨RX1, "countRaised", "()I"⟩
abbrev cX1_firstKnottedRow : ByteArray := prog_3_method_14_code
def yX1_firstKnottedRow : MethodName := ⟨RX1, "firstKnottedRow", "(I)I"⟩
abbrev cX1_lastKnottedRow : ByteArray := prog_3_method_15_code
def yX1_lastKnottedRow : MethodName := ⟨RX1, "lastKnottedRow", "()I"⟩
abbrev cX1_firstKnottedColumn : ByteArray := prog_3_method_16_code
def yX1_firstKnottedColumn : MethodName := ⟨RX1, "firstKnottedColumn", "(I)I"⟩
abbrev cX1_sameRows : ByteArray := prog_3_method_17_code
def yX1_sameRows : MethodName := ⟨RX1, "sameRows", "(II)Z"⟩
abbrev cX1_sameRuns : ByteArray := prog_3_method_18_code
def yX1_sameRuns : MethodName := ⟨RX1, "sameRuns", "(III)Z"⟩
abbrev cX1_overlapsItself : ByteArray := prog_3_method_19_code
def yX1_overlapsItself : MethodName := ⟨RX1, "overlapsItself", "(I)Z"⟩
abbrev cX1_longestBorder : ByteArray := prog_3_method_20_code
def yX1_longestBorder : MethodName := ⟨RX1, "longestBorder", "()I"⟩
abbrev cX1_countOfLast : ByteArray := prog_3_method_21_code
def yX1_countOfLast : MethodName := ⟨RX1, "countOfLast", "(I)I"⟩
abbrev cX1_countDifferent : ByteArray := prog_3_method_22_code
def yX1_countDifferent : MethodName := ⟨RX1, "countDifferent", "()I"⟩
abbrev cX1_isNew : ByteArray := prog_3_method_23_code
def yX1_isNew : MethodName := ⟨RX1, "isNew", "(I)Z"⟩
abbrev cX1_longestRaisedRun : ByteArray := prog_3_method_24_code
def yX1_longestRaisedRun : MethodName := ⟨RX1, "longestRaisedRun", "(I)I"⟩
abbrev cX1_sameReversed : ByteArray := prog_3_method_25_code
def yX1_sameReversed : MethodName := ⟨RX1, "sameReversed", "()Z"⟩
def RX2 : String := "CandleLoom$Command"
def TX2 : u_T := fun k => match k with
  | 0 => ("CandleLoom$Command", "kind", "LCandleLoom$Kind;", false)
  | 1 => ("CandleLoom$Command", "first", "I", false)
  | 2 => ("CandleLoom$Command", "second", "I", false)
  | _ => ("CandleLoom$Command", "third", "I", false)
def tyX2 : Nat → FieldType := fun k => match k with
  | 0 => .object "CandleLoom$Kind"
  | 1 => .int
  | 2 => .int
  | _ => .int
abbrev wsX20 : List Cond := u_ws RX2 TX2 4
theorem nmX2 : ∀ a, a < 4 → ∀ b, b < 4 → a ≠ b → (TX2 a).2.1 ≠ (TX2 b).2.1 := by decide +kernel
theorem tyX2_ok : ∀ k, k < 4 → parseFieldDescriptor (TX2 k).2.2.1 = some (tyX2 k) := by decide +kernel
abbrev cX2_init : ByteArray := prog_4_method_1_code
def yX2_init : MethodName := ⟨RX2, "<init>", "()V"⟩
abbrev cX2_become : ByteArray := prog_4_method_2_code
def yX2_become : MethodName := ⟨RX2, "become", "(LCandleLoom$Kind;III)LCandleLoom$Command;"⟩
abbrev cX2_put : ByteArray := prog_4_method_3_code
def yX2_put : MethodName := ⟨RX2, "put", "(II)V"⟩
def RX3 : String := "CandleLoom$Edge"
def TX3 : u_T := fun k => match k with
  | 0 => ("CandleLoom$Edge", "warmth", "I", false)
  | _ => ("CandleLoom$Edge", "burnt", "I", false)
def tyX3 : Nat → FieldType := fun k => match k with
  | 0 => .int
  | _ => .int
abbrev wsX30 : List Cond := u_ws RX3 TX3 2
theorem nmX3 : ∀ a, a < 2 → ∀ b, b < 2 → a ≠ b → (TX3 a).2.1 ≠ (TX3 b).2.1 := by decide +kernel
theorem tyX3_ok : ∀ k, k < 2 → parseFieldDescriptor (TX3 k).2.2.1 = some (tyX3 k) := by decide +kernel
abbrev cX3_init : ByteArray := prog_5_method_1_code
def yX3_init : MethodName := ⟨RX3, "<init>", "()V"⟩
abbrev cX3_copyFrom : ByteArray := prog_5_method_2_code
def yX3_copyFrom : MethodName := ⟨RX3, "copyFrom", "(LCandleLoom$Edge;)V"⟩
abbrev cX3_feel : ByteArray := prog_5_method_3_code
def yX3_feel : MethodName := ⟨RX3, "feel", "(Z)V"⟩
abbrev cX3_repair : ByteArray := prog_5_method_4_code
def yX3_repair : MethodName := ⟨RX3, "repair", "()I"⟩
def RX4 : String := "CandleLoom$History"
def TX4 : u_T := fun k => match k with
  | 0 => ("CandleLoom$History", "kept", "[LCandleLoom$Loom;", true)
  | 1 => ("CandleLoom$History", "oldest", "I", false)
  | _ => ("CandleLoom$History", "count", "I", false)
def tyX4 : Nat → FieldType := fun k => match k with
  | 0 => .array (.object "CandleLoom$Loom")
  | 1 => .int
  | _ => .int
abbrev wsX40 : List Cond := u_ws RX4 TX4 3
theorem nmX4 : ∀ a, a < 3 → ∀ b, b < 3 → a ≠ b → (TX4 a).2.1 ≠ (TX4 b).2.1 := by decide +kernel
theorem tyX4_ok : ∀ k, k < 3 → parseFieldDescriptor (TX4 k).2.2.1 = some (tyX4 k) := by decide +kernel
abbrev cX4_init : ByteArray := prog_6_method_1_code
def yX4_init : MethodName := ⟨RX4, "<init>", "()V"⟩
abbrev cX4_keep : ByteArray := prog_6_method_2_code
def yX4_keep : MethodName := ⟨RX4, "keep", "(LCandleLoom$Loom;)V"⟩
abbrev cX4_takeBack : ByteArray := prog_6_method_3_code
def yX4_takeBack : MethodName := ⟨RX4, "takeBack", "(LCandleLoom$Loom;)V"⟩
abbrev cX4_forget : ByteArray := prog_6_method_4_code
def yX4_forget : MethodName := ⟨RX4, "forget", "()V"⟩
def RX5 : String := "CandleLoom$Judge"
def TX5 : u_T := fun k => match k with
  | _ => ("CandleLoom$Judge", "detail", "I", false)
def tyX5 : Nat → FieldType := fun k => match k with
  | _ => .int
abbrev wsX50 : List Cond := u_ws RX5 TX5 1
theorem nmX5 : ∀ a, a < 1 → ∀ b, b < 1 → a ≠ b → (TX5 a).2.1 ≠ (TX5 b).2.1 := by decide +kernel
theorem tyX5_ok : ∀ k, k < 1 → parseFieldDescriptor (TX5 k).2.2.1 = some (tyX5 k) := by decide +kernel
abbrev cX5_init : ByteArray := prog_7_method_1_code
def yX5_init : MethodName := ⟨RX5, "<init>", "()V"⟩
abbrev cX5_verdictOn : ByteArray := prog_7_method_2_code
def yX5_verdictOn : MethodName := ⟨RX5, "verdictOn", "(LCandleLoom$Command;LCandleLoom$Loom;)I"⟩
abbrev cX5_onNewWick : ByteArray := prog_7_method_3_code
def yX5_onNewWick : MethodName := ⟨RX5, "onNewWick", "(LCandleLoom$Wicks;III)I"⟩
abbrev cX5_onLighting : ByteArray := prog_7_method_4_code
def yX5_onLighting : MethodName := ⟨RX5, "onLighting", "(LCandleLoom$Wicks;I)I"⟩
abbrev cX5_onSnuffing : ByteArray := prog_7_method_5_code
def yX5_onSnuffing : MethodName := ⟨RX5, "onSnuffing", "(LCandleLoom$Wicks;I)I"⟩
abbrev cX5_onMoreWax : ByteArray := prog_7_method_6_code
def yX5_onMoreWax : MethodName := ⟨RX5, "onMoreWax", "(LCandleLoom$Wicks;II)I"⟩
abbrev cX5_onWeaving : ByteArray := prog_7_method_7_code
def yX5_onWeaving : MethodName := ⟨RX5, "onWeaving", "(LCandleLoom$Loom;I)I"⟩
abbrev cX5_onRavelling : ByteArray := prog_7_method_8_code
def yX5_onRavelling : MethodName := ⟨RX5, "onRavelling", "(LCandleLoom$Cloth;I)I"⟩
abbrev cX5_onRepeating : ByteArray := prog_7_method_9_code
def yX5_onRepeating : MethodName := ⟨RX5, "onRepeating", "(LCandleLoom$Cloth;II)I"⟩
abbrev cX5_onKnots : ByteArray := prog_7_method_10_code
def yX5_onKnots : MethodName := ⟨RX5, "onKnots", "(LCandleLoom$Cloth;IIZ)I"⟩
abbrev cX5_onMending : ByteArray := prog_7_method_11_code
def yX5_onMending : MethodName := ⟨RX5, "onMending", "(LCandleLoom$Loom;I)I"⟩
abbrev cX5_deny : ByteArray := prog_7_method_12_code
def yX5_deny : MethodName := ⟨RX5, "deny", "(II)I"⟩
def RX6 : String := "CandleLoom$Kind"
def TX6 : u_T := fun k => match k with
  | _ => ("", "", "", false)
def tyX6 : Nat → FieldType := fun k => match k with
  | _ => .int
abbrev wsX60 : List Cond := u_ws RX6 TX6 0
theorem nmX6 : ∀ a, a < 0 → ∀ b, b < 0 → a ≠ b → (TX6 a).2.1 ≠ (TX6 b).2.1 := by decide +kernel
theorem tyX6_ok : ∀ k, k < 0 → parseFieldDescriptor (TX6 k).2.2.1 = some (tyX6 k) := by decide +kernel
def RX7 : String := "CandleLoom$Line"
def TX7 : u_T := fun k => match k with
  | 0 => ("CandleLoom$Line", "signs", "[C", true)
  | _ => ("CandleLoom$Line", "length", "I", false)
def tyX7 : Nat → FieldType := fun k => match k with
  | 0 => .array .char
  | _ => .int
abbrev wsX70 : List Cond := u_ws RX7 TX7 2
theorem nmX7 : ∀ a, a < 2 → ∀ b, b < 2 → a ≠ b → (TX7 a).2.1 ≠ (TX7 b).2.1 := by decide +kernel
theorem tyX7_ok : ∀ k, k < 2 → parseFieldDescriptor (TX7 k).2.2.1 = some (tyX7 k) := by decide +kernel
abbrev cX7_init : ByteArray := prog_9_method_1_code
def yX7_init : MethodName := ⟨RX7, "<init>", "()V"⟩
abbrev cX7_showRow : ByteArray := prog_9_method_2_code
def yX7_showRow : MethodName := ⟨RX7, "showRow", "(LCandleLoom$Cloth;I)V"⟩
abbrev cX7_cellSign : ByteArray := prog_9_method_4_code
def yX7_cellSign : MethodName := ⟨RX7, "cellSign", "(ZZ)C"⟩
abbrev cX7_addDigit : ByteArray := prog_9_method_5_code
def yX7_addDigit : MethodName := ⟨RX7, "addDigit", "(I)V"⟩
abbrev cX7_add : ByteArray := prog_9_method_6_code
def yX7_add : MethodName := ⟨RX7, "add", "(C)V"⟩
def RX8 : String := "CandleLoom$Loom"
def TX8 : u_T := fun k => match k with
  | 0 => ("CandleLoom$Loom", "wicks", "LCandleLoom$Wicks;", true)
  | 1 => ("CandleLoom$Loom", "cloth", "LCandleLoom$Cloth;", true)
  | 2 => ("CandleLoom$Loom", "left", "LCandleLoom$Edge;", true)
  | 3 => ("CandleLoom$Loom", "right", "LCandleLoom$Edge;", true)
  | 4 => ("CandleLoom$Loom", "rowsWoven", "I", false)
  | _ => ("CandleLoom$Loom", "waxBurnt", "I", false)
def tyX8 : Nat → FieldType := fun k => match k with
  | 0 => .object "CandleLoom$Wicks"
  | 1 => .object "CandleLoom$Cloth"
  | 2 => .object "CandleLoom$Edge"
  | 3 => .object "CandleLoom$Edge"
  | 4 => .int
  | _ => .int
abbrev wsX80 : List Cond := u_ws RX8 TX8 6
theorem nmX8 : ∀ a, a < 6 → ∀ b, b < 6 → a ≠ b → (TX8 a).2.1 ≠ (TX8 b).2.1 := by decide +kernel
theorem tyX8_ok : ∀ k, k < 6 → parseFieldDescriptor (TX8 k).2.2.1 = some (tyX8 k) := by decide +kernel
abbrev cX8_init : ByteArray := prog_10_method_1_code
def yX8_init : MethodName := ⟨RX8, "<init>", "()V"⟩
abbrev cX8_isSide : ByteArray := prog_10_method_2_code
def yX8_isSide : MethodName := ⟨RX8, "isSide", "(I)Z"⟩
abbrev cX8_edgeAt : ByteArray := prog_10_method_3_code
def yX8_edgeAt : MethodName := ⟨RX8, "edgeAt", "(I)LCandleLoom$Edge;"⟩
abbrev cX8_copyFrom : ByteArray := prog_10_method_4_code
def yX8_copyFrom : MethodName := ⟨RX8, "copyFrom", "(LCandleLoom$Loom;)V"⟩
abbrev cX8_perform : ByteArray := prog_10_method_5_code
def yX8_perform : MethodName := ⟨RX8, "perform", "(LCandleLoom$Command;)I"⟩
abbrev cX8_unburnt : ByteArray := prog_10_method_6_code
def yX8_unburnt : MethodName := ⟨RX8, "unburnt", "(I)I"⟩
abbrev cX8_weaveRows : ByteArray := prog_10_method_7_code
def yX8_weaveRows : MethodName := ⟨RX8, "weaveRows", "(I)I"⟩
abbrev cX8_weaveRow : ByteArray := prog_10_method_8_code
def yX8_weaveRow : MethodName := ⟨RX8, "weaveRow", "()V"⟩
def RX9 : String := "CandleLoom$Script"
def TX9 : u_T := fun k => match k with
  | 0 => ("CandleLoom$Script", "signs", "[C", true)
  | 1 => ("CandleLoom$Script", "length", "I", false)
  | 2 => ("CandleLoom$Script", "commands", "[LCandleLoom$Command;", true)
  | 3 => ("CandleLoom$Script", "found", "I", false)
  | _ => ("CandleLoom$Script", "position", "I", false)
def tyX9 : Nat → FieldType := fun k => match k with
  | 0 => .array .char
  | 1 => .int
  | 2 => .array (.object "CandleLoom$Command")
  | 3 => .int
  | _ => .int
abbrev wsX90 : List Cond := u_ws RX9 TX9 5
theorem nmX9 : ∀ a, a < 5 → ∀ b, b < 5 → a ≠ b → (TX9 a).2.1 ≠ (TX9 b).2.1 := by decide +kernel
theorem tyX9_ok : ∀ k, k < 5 → parseFieldDescriptor (TX9 k).2.2.1 = some (tyX9 k) := by decide +kernel
abbrev cX9_init : ByteArray := prog_11_method_1_code
def yX9_init : MethodName := ⟨RX9, "<init>", "()V"⟩
abbrev cX9_isFull : ByteArray := prog_11_method_2_code
def yX9_isFull : MethodName := ⟨RX9, "isFull", "()Z"⟩
abbrev cX9_append : ByteArray := prog_11_method_3_code
def yX9_append : MethodName := ⟨RX9, "append", "(C)I"⟩
abbrev cX9_clear : ByteArray := prog_11_method_4_code
def yX9_clear : MethodName := ⟨RX9, "clear", "()V"⟩
abbrev cX9_parse : ByteArray := prog_11_method_5_code
def yX9_parse : MethodName := ⟨RX9, "parse", "()Z"⟩
abbrev cX9_readCommand : ByteArray := prog_11_method_6_code
def yX9_readCommand : MethodName := ⟨RX9, "readCommand", "(LCandleLoom$Command;)Z"⟩
abbrev cX9_readWord : ByteArray := prog_11_method_7_code
def yX9_readWord : MethodName := ⟨RX9, "readWord", "()LCandleLoom$Kind;"⟩
abbrev cX9_countSame : ByteArray := prog_11_method_8_code
def yX9_countSame : MethodName := ⟨RX9, "countSame", "(Ljava/lang/String;)I"⟩
abbrev cX9_readDigits : ByteArray := prog_11_method_9_code
def yX9_readDigits : MethodName := ⟨RX9, "readDigits", "(I)I"⟩
abbrev cX9_digitIsNext : ByteArray := prog_11_method_10_code
def yX9_digitIsNext : MethodName := ⟨RX9, "digitIsNext", "()Z"⟩
abbrev cX9_readSide : ByteArray := prog_11_method_11_code
def yX9_readSide : MethodName := ⟨RX9, "readSide", "()I"⟩
abbrev cX9_readSign : ByteArray := prog_11_method_12_code
def yX9_readSign : MethodName := ⟨RX9, "readSign", "(C)Z"⟩
def RX10 : String := "CandleLoom$Wicks"
def TX10 : u_T := fun k => match k with
  | 0 => ("CandleLoom$Wicks", "colours", "[I", true)
  | 1 => ("CandleLoom$Wicks", "masks", "[I", true)
  | 2 => ("CandleLoom$Wicks", "waxes", "[I", true)
  | 3 => ("CandleLoom$Wicks", "lit", "[Z", true)
  | _ => ("CandleLoom$Wicks", "count", "I", false)
def tyX10 : Nat → FieldType := fun k => match k with
  | 0 => .array .int
  | 1 => .array .int
  | 2 => .array .int
  | 3 => .array .boolean
  | _ => .int
abbrev wsX100 : List Cond := u_ws RX10 TX10 5
theorem nmX10 : ∀ a, a < 5 → ∀ b, b < 5 → a ≠ b → (TX10 a).2.1 ≠ (TX10 b).2.1 := by decide +kernel
theorem tyX10_ok : ∀ k, k < 5 → parseFieldDescriptor (TX10 k).2.2.1 = some (tyX10 k) := by decide +kernel
abbrev cX10_init : ByteArray := prog_12_method_1_code
def yX10_init : MethodName := ⟨RX10, "<init>", "()V"⟩
abbrev cX10_copyFrom : ByteArray := prog_12_method_2_code
def yX10_copyFrom : MethodName := ⟨RX10, "copyFrom", "(LCandleLoom$Wicks;)V"⟩
abbrev cX10_has : ByteArray := prog_12_method_3_code
def yX10_has : MethodName := ⟨RX10, "has", "(I)Z"⟩
abbrev cX10_place : ByteArray := prog_12_method_4_code
def yX10_place : MethodName := ⟨RX10, "place", "(III)I"⟩
abbrev cX10_setLit : ByteArray := prog_12_method_5_code
def yX10_setLit : MethodName := ⟨RX10, "setLit", "(IZ)I"⟩
abbrev cX10_pour : ByteArray := prog_12_method_6_code
def yX10_pour : MethodName := ⟨RX10, "pour", "(II)I"⟩
abbrev cX10_countLit : ByteArray := prog_12_method_7_code
def yX10_countLit : MethodName := ⟨RX10, "countLit", "()I"⟩
abbrev cX10_pattern : ByteArray := prog_12_method_8_code
def yX10_pattern : MethodName := ⟨RX10, "pattern", "()I"⟩
abbrev cX10_atRank : ByteArray := prog_12_method_9_code
def yX10_atRank : MethodName := ⟨RX10, "atRank", "(I)I"⟩
abbrev cX10_rankOf : ByteArray := prog_12_method_10_code
def yX10_rankOf : MethodName := ⟨RX10, "rankOf", "(I)I"⟩
abbrev cX10_precedes : ByteArray := prog_12_method_11_code
def yX10_precedes : MethodName := ⟨RX10, "precedes", "(II)Z"⟩
abbrev cX10_leadingColour : ByteArray := prog_12_method_12_code
def yX10_leadingColour : MethodName := ⟨RX10, "leadingColour", "()I"⟩
abbrev cX10_burnDown : ByteArray := prog_12_method_13_code
def yX10_burnDown : MethodName := ⟨RX10, "burnDown", "()I"⟩
abbrev cX10_anyLitAfter : ByteArray := prog_12_method_14_code
def yX10_anyLitAfter : MethodName := ⟨RX10, "anyLitAfter", "(I)Z"⟩
abbrev cX10_mostLitWax : ByteArray := prog_12_method_15_code
def yX10_mostLitWax : MethodName := ⟨RX10, "mostLitWax", "()I"⟩
def RX11 : String := "CandleLoom"
def TX11 : u_T := fun k => match k with
  | 0 => ("CandleLoom", "loom", "LCandleLoom$Loom;", true)
  | 1 => ("CandleLoom", "beforeText", "LCandleLoom$Loom;", true)
  | 2 => ("CandleLoom", "snapshot", "LCandleLoom$Loom;", true)
  | 3 => ("CandleLoom", "snapshotTaken", "Z", false)
  | 4 => ("CandleLoom", "history", "LCandleLoom$History;", true)
  | 5 => ("CandleLoom", "judge", "LCandleLoom$Judge;", true)
  | 6 => ("CandleLoom", "request", "LCandleLoom$Command;", true)
  | 7 => ("CandleLoom", "script", "LCandleLoom$Script;", true)
  | 8 => ("CandleLoom", "faultKept", "Z", false)
  | 9 => ("CandleLoom", "keptFault", "I", false)
  | 10 => ("CandleLoom", "line", "LCandleLoom$Line;", true)
  | 11 => ("CandleLoom", "deniedNumber", "I", false)
  | 12 => ("CandleLoom", "deniedDetail", "I", false)
  | _ => ("CandleLoom", "deniedCause", "I", false)
def tyX11 : Nat → FieldType := fun k => match k with
  | 0 => .object "CandleLoom$Loom"
  | 1 => .object "CandleLoom$Loom"
  | 2 => .object "CandleLoom$Loom"
  | 3 => .boolean
  | 4 => .object "CandleLoom$History"
  | 5 => .object "CandleLoom$Judge"
  | 6 => .object "CandleLoom$Command"
  | 7 => .object "CandleLoom$Script"
  | 8 => .boolean
  | 9 => .int
  | 10 => .object "CandleLoom$Line"
  | 11 => .int
  | 12 => .int
  | _ => .int
abbrev wsX110 : List Cond := u_ws RX11 TX11 14
theorem nmX11 : ∀ a, a < 14 → ∀ b, b < 14 → a ≠ b → (TX11 a).2.1 ≠ (TX11 b).2.1 := by decide +kernel
theorem tyX11_ok : ∀ k, k < 14 → parseFieldDescriptor (TX11 k).2.2.1 = some (tyX11 k) := by decide +kernel
abbrev cX11_init : ByteArray := prog_1_method_1_code
def yX11_init : MethodName := ⟨RX11, "<init>", "()V"⟩
abbrev cX11_addWick : ByteArray := prog_1_method_2_code
def yX11_addWick : MethodName := ⟨RX11, "addWick", "(III)I"⟩
abbrev cX11_light : ByteArray := prog_1_method_3_code
def yX11_light : MethodName := ⟨RX11, "light", "(I)I"⟩
abbrev cX11_snuff : ByteArray := prog_1_method_4_code
def yX11_snuff : MethodName := ⟨RX11, "snuff", "(I)I"⟩
abbrev cX11_addWax : ByteArray := prog_1_method_5_code
def yX11_addWax : MethodName := ⟨RX11, "addWax", "(II)I"⟩
abbrev cX11_wickCount : ByteArray := prog_1_method_6_code
def yX11_wickCount : MethodName := ⟨RX11, "wickCount", "()I"⟩
abbrev cX11_litCount : ByteArray := prog_1_method_7_code
def yX11_litCount : MethodName := ⟨RX11, "litCount", "()I"⟩
abbrev cX11_isLit : ByteArray := prog_1_method_8_code
def yX11_isLit : MethodName := ⟨RX11, "isLit", "(I)Z"⟩
abbrev cX11_wax : ByteArray := prog_1_method_9_code
def yX11_wax : MethodName := ⟨RX11, "wax", "(I)I"⟩
abbrev cX11_wickByWax : ByteArray := prog_1_method_10_code
def yX11_wickByWax : MethodName := ⟨RX11, "wickByWax", "(I)I"⟩
abbrev cX11_nextMask : ByteArray := prog_1_method_11_code
def yX11_nextMask : MethodName := ⟨RX11, "nextMask", "()I"⟩
abbrev cX11_rowsUntilDark : ByteArray := prog_1_method_12_code
def yX11_rowsUntilDark : MethodName := ⟨RX11, "rowsUntilDark", "()I"⟩
abbrev cX11_rowsUntilDarkByWax : ByteArray := prog_1_method_13_code
def yX11_rowsUntilDarkByWax : MethodName := ⟨RX11, "rowsUntilDarkByWax", "()I"⟩
abbrev cX11_weave : ByteArray := prog_1_method_14_code
def yX11_weave : MethodName := ⟨RX11, "weave", "(I)I"⟩
abbrev cX11_ravel : ByteArray := prog_1_method_15_code
def yX11_ravel : MethodName := ⟨RX11, "ravel", "(I)I"⟩
abbrev cX11_repeatLast : ByteArray := prog_1_method_16_code
def yX11_repeatLast : MethodName := ⟨RX11, "repeatLast", "(II)I"⟩
abbrev cX11_knot : ByteArray := prog_1_method_17_code
def yX11_knot : MethodName := ⟨RX11, "knot", "(II)I"⟩
abbrev cX11_untie : ByteArray := prog_1_method_18_code
def yX11_untie : MethodName := ⟨RX11, "untie", "(II)I"⟩
abbrev cX11_mend : ByteArray := prog_1_method_19_code
def yX11_mend : MethodName := ⟨RX11, "mend", "(C)I"⟩
abbrev cX11_rowCount : ByteArray := prog_1_method_20_code
def yX11_rowCount : MethodName := ⟨RX11, "rowCount", "()I"⟩
abbrev cX11_rowMask : ByteArray := prog_1_method_21_code
def yX11_rowMask : MethodName := ⟨RX11, "rowMask", "(I)I"⟩
abbrev cX11_rowColour : ByteArray := prog_1_method_22_code
def yX11_rowColour : MethodName := ⟨RX11, "rowColour", "(I)I"⟩
abbrev cX11_isRaised : ByteArray := prog_1_method_23_code
def yX11_isRaised : MethodName := ⟨RX11, "isRaised", "(II)Z"⟩
abbrev cX11_isKnotted : ByteArray := prog_1_method_24_code
def yX11_isKnotted : MethodName := ⟨RX11, "isKnotted", "(II)Z"⟩
abbrev cX11_knotCount : ByteArray := prog_1_method_25_code
def yX11_knotCount : MethodName := ⟨RX11, "knotCount", "()I"⟩
abbrev cX11_nextKnotRow : ByteArray := prog_1_method_26_code
def yX11_nextKnotRow : MethodName := ⟨RX11, "nextKnotRow", "(I)I"⟩
abbrev cX11_nextKnotColumn : ByteArray := prog_1_method_27_code
def yX11_nextKnotColumn : MethodName := ⟨RX11, "nextKnotColumn", "(I)I"⟩
abbrev cX11_burn : ByteArray := prog_1_method_28_code
def yX11_burn : MethodName := ⟨RX11, "burn", "(C)I"⟩
abbrev cX11_heat : ByteArray := prog_1_method_29_code
def yX11_heat : MethodName := ⟨RX11, "heat", "(C)I"⟩
abbrev cX11_period : ByteArray := prog_1_method_30_code
def yX11_period : MethodName := ⟨RX11, "period", "()I"⟩
abbrev cX11_periodByBorders : ByteArray := prog_1_method_31_code
def yX11_periodByBorders : MethodName := ⟨RX11, "periodByBorders", "()I"⟩
abbrev cX11_occurrences : ByteArray := prog_1_method_32_code
def yX11_occurrences : MethodName := ⟨RX11, "occurrences", "(I)I"⟩
abbrev cX11_distinctRows : ByteArray := prog_1_method_33_code
def yX11_distinctRows : MethodName := ⟨RX11, "distinctRows", "()I"⟩
abbrev cX11_distance : ByteArray := prog_1_method_34_code
def yX11_distance : MethodName := ⟨RX11, "distance", "(II)I"⟩
abbrev cX11_longestFloat : ByteArray := prog_1_method_35_code
def yX11_longestFloat : MethodName := ⟨RX11, "longestFloat", "(I)I"⟩
abbrev cX11_isSymmetric : ByteArray := prog_1_method_36_code
def yX11_isSymmetric : MethodName := ⟨RX11, "isSymmetric", "()Z"⟩
abbrev cX11_wovenTotal : ByteArray := prog_1_method_37_code
def yX11_wovenTotal : MethodName := ⟨RX11, "wovenTotal", "()I"⟩
abbrev cX11_waxUsed : ByteArray := prog_1_method_38_code
def yX11_waxUsed : MethodName := ⟨RX11, "waxUsed", "()I"⟩
abbrev cX11_meanRaised : ByteArray := prog_1_method_39_code
def yX11_meanRaised : MethodName := ⟨RX11, "meanRaised", "()D"⟩
abbrev cX11_knotShare : ByteArray := prog_1_method_40_code
def yX11_knotShare : MethodName := ⟨RX11, "knotShare", "()F"⟩
abbrev cX11_feed : ByteArray := prog_1_method_41_code
def yX11_feed : MethodName := ⟨RX11, "feed", "(C)I"⟩
abbrev cX11_execute : ByteArray := prog_1_method_42_code
def yX11_execute : MethodName := ⟨RX11, "execute", "()I"⟩
abbrev cX11_writeRow : ByteArray := prog_1_method_44_code
def yX11_writeRow : MethodName := ⟨RX11, "writeRow", "(I)I"⟩
abbrev cX11_lineCharacter : ByteArray := prog_1_method_46_code
def yX11_lineCharacter : MethodName := ⟨RX11, "lineCharacter", "(I)C"⟩
abbrev cX11_denial : ByteArray := prog_1_method_47_code
def yX11_denial : MethodName := ⟨RX11, "denial", "()I"⟩
abbrev cX11_denialCause : ByteArray := prog_1_method_49_code
def yX11_denialCause : MethodName := ⟨RX11, "denialCause", "()I"⟩
abbrev cX11_undo : ByteArray := prog_1_method_50_code
def yX11_undo : MethodName := ⟨RX11, "undo", "()I"⟩
abbrev cX11_undoCount : ByteArray := prog_1_method_51_code
def yX11_undoCount : MethodName := ⟨RX11, "undoCount", "()I"⟩
abbrev cX11_saveSnapshot : ByteArray := prog_1_method_52_code
def yX11_saveSnapshot : MethodName := ⟨RX11, "saveSnapshot", "()I"⟩
abbrev cX11_restoreSnapshot : ByteArray := prog_1_method_53_code
def yX11_restoreSnapshot : MethodName := ⟨RX11, "restoreSnapshot", "()I"⟩
abbrev cX11_change : ByteArray := prog_1_method_54_code
def yX11_change : MethodName := ⟨RX11, "change", "(LCandleLoom$Command;)I"⟩
abbrev cX11_firstFailingCommand : ByteArray := prog_1_method_55_code
def yX11_firstFailingCommand : MethodName := ⟨RX11, "firstFailingCommand", "()I"⟩
abbrev cX11_knottedRowFrom : ByteArray := prog_1_method_56_code
def yX11_knottedRowFrom : MethodName := ⟨RX11, "knottedRowFrom", "(I)I"⟩
abbrev cX11_throwDenial : ByteArray := prog_1_method_57_code
def yX11_throwDenial : MethodName := ⟨RX11, "throwDenial", "(II)V"⟩
abbrev cX11_requireRange : ByteArray := prog_1_method_58_code
def yX11_requireRange : MethodName := ⟨RX11, "requireRange", "(Z)V"⟩
abbrev cX11_requireIndex : ByteArray := prog_1_method_59_code
def yX11_requireIndex : MethodName := ⟨RX11, "requireIndex", "(Z)V"⟩
abbrev cX11_requireElement : ByteArray := prog_1_method_60_code
def yX11_requireElement : MethodName := ⟨RX11, "requireElement", "(Z)V"⟩
abbrev cX11_requireState : ByteArray := prog_1_method_61_code
def yX11_requireState : MethodName := ⟨RX11, "requireState", "(Z)V"⟩
abbrev cX11_requireDivisor : ByteArray := prog_1_method_62_code
def yX11_requireDivisor : MethodName := ⟨RX11, "requireDivisor", "(I)V"⟩
def RX12 : String := "CandleLoomModel"
def TX12 : u_T := fun k => match k with
  | _ => ("", "", "", false)
def tyX12 : Nat → FieldType := fun k => match k with
  | _ => .int
abbrev wsX120 : List Cond := u_ws RX12 TX12 0
theorem nmX12 : ∀ a, a < 0 → ∀ b, b < 0 → a ≠ b → (TX12 a).2.1 ≠ (TX12 b).2.1 := by decide +kernel
theorem tyX12_ok : ∀ k, k < 0 → parseFieldDescriptor (TX12 k).2.2.1 = some (tyX12 k) := by decide +kernel
def RJx145de : String := "java/io/Serializable"
def TJx145de : u_T := fun k => match k with
  | _ => ("", "", "", false)
def tyJx145de : Nat → FieldType := fun k => match k with
  | _ => .int
abbrev wsJx145de0 : List Cond := u_ws RJx145de TJx145de 0
theorem nmJx145de : ∀ a, a < 0 → ∀ b, b < 0 → a ≠ b → (TJx145de a).2.1 ≠ (TJx145de b).2.1 := by decide +kernel
theorem tyJx145de_ok : ∀ k, k < 0 → parseFieldDescriptor (TJx145de k).2.2.1 = some (tyJx145de k) := by decide +kernel
def RJx00060 : String := "java/lang/ArrayIndexOutOfBoundsException"
def TJx00060 : u_T := fun k => match k with
  | 0 => ("java/lang/Throwable", "backtrace", "Ljava/lang/Object;", false)
  | 1 => ("java/lang/Throwable", "detailMessage", "Ljava/lang/String;", false)
  | 2 => ("java/lang/Throwable", "cause", "Ljava/lang/Throwable;", false)
  | 3 => ("java/lang/Throwable", "stackTrace", "[Ljava/lang/StackTraceElement;", false)
  | 4 => ("java/lang/Throwable", "depth", "I", false)
  | _ => ("java/lang/Throwable", "suppressedExceptions", "Ljava/util/List;", false)
def tyJx00060 : Nat → FieldType := fun k => match k with
  | 0 => .object "java/lang/Object"
  | 1 => .object "java/lang/String"
  | 2 => .object "java/lang/Throwable"
  | 3 => .array (.object "java/lang/StackTraceElement")
  | 4 => .int
  | _ => .object "java/util/List"
abbrev wsJx000600 : List Cond := u_ws RJx00060 TJx00060 6
theorem nmJx00060 : ∀ a, a < 6 → ∀ b, b < 6 → a ≠ b → (TJx00060 a).2.1 ≠ (TJx00060 b).2.1 := by decide +kernel
theorem tyJx00060_ok : ∀ k, k < 6 → parseFieldDescriptor (TJx00060 k).2.2.1 = some (tyJx00060 k) := by decide +kernel
abbrev cJx00060_init_a7421 : ByteArray := prog_17_method_2_code
def yJx00060_init_a7421 : MethodName := ⟨RJx00060, "<init>", "(Ljava/lang/String;)V"⟩
def RJx9f9b0 : String := "java/lang/CharSequence"
def TJx9f9b0 : u_T := fun k => match k with
  | _ => ("", "", "", false)
def tyJx9f9b0 : Nat → FieldType := fun k => match k with
  | _ => .int
abbrev wsJx9f9b00 : List Cond := u_ws RJx9f9b0 TJx9f9b0 0
theorem nmJx9f9b0 : ∀ a, a < 0 → ∀ b, b < 0 → a ≠ b → (TJx9f9b0 a).2.1 ≠ (TJx9f9b0 b).2.1 := by decide +kernel
theorem tyJx9f9b0_ok : ∀ k, k < 0 → parseFieldDescriptor (TJx9f9b0 k).2.2.1 = some (tyJx9f9b0 k) := by decide +kernel
def RJxb160c : String := "java/lang/Comparable"
def TJxb160c : u_T := fun k => match k with
  | _ => ("", "", "", false)
def tyJxb160c : Nat → FieldType := fun k => match k with
  | _ => .int
abbrev wsJxb160c0 : List Cond := u_ws RJxb160c TJxb160c 0
theorem nmJxb160c : ∀ a, a < 0 → ∀ b, b < 0 → a ≠ b → (TJxb160c a).2.1 ≠ (TJxb160c b).2.1 := by decide +kernel
theorem tyJxb160c_ok : ∀ k, k < 0 → parseFieldDescriptor (TJxb160c k).2.2.1 = some (tyJxb160c k) := by decide +kernel
def RJx29ce0 : String := "java/lang/Enum"
def TJx29ce0 : u_T := fun k => match k with
  | _ => ("", "", "", false)
def tyJx29ce0 : Nat → FieldType := fun k => match k with
  | _ => .int
abbrev wsJx29ce00 : List Cond := u_ws RJx29ce0 TJx29ce0 0
theorem nmJx29ce0 : ∀ a, a < 0 → ∀ b, b < 0 → a ≠ b → (TJx29ce0 a).2.1 ≠ (TJx29ce0 b).2.1 := by decide +kernel
theorem tyJx29ce0_ok : ∀ k, k < 0 → parseFieldDescriptor (TJx29ce0 k).2.2.1 = some (tyJx29ce0 k) := by decide +kernel
abbrev cJx29ce0_ordinal_8abf5 : ByteArray := prog_20_method_2_code
def yJx29ce0_ordinal_8abf5 : MethodName := ⟨RJx29ce0, "ordinal", "()I"⟩
def RJ6 : String := "java/lang/Integer"
def TJ6 : u_T := fun k => match k with
  | _ => ("", "", "", false)
def tyJ6 : Nat → FieldType := fun k => match k with
  | _ => .int
abbrev wsJ60 : List Cond := u_ws RJ6 TJ6 0
theorem nmJ6 : ∀ a, a < 0 → ∀ b, b < 0 → a ≠ b → (TJ6 a).2.1 ≠ (TJ6 b).2.1 := by decide +kernel
theorem tyJ6_ok : ∀ k, k < 0 → parseFieldDescriptor (TJ6 k).2.2.1 = some (tyJ6 k) := by decide +kernel
abbrev cJ6_bitCount_0f7a4 : ByteArray := prog_25_method_49_code
def yJ6_bitCount_0f7a4 : MethodName := ⟨RJ6, "bitCount", "(I)I"⟩
def RJ9 : String := "java/lang/Math"
def TJ9 : u_T := fun k => match k with
  | _ => ("", "", "", false)
def tyJ9 : Nat → FieldType := fun k => match k with
  | _ => .int
abbrev wsJ90 : List Cond := u_ws RJ9 TJ9 0
theorem nmJ9 : ∀ a, a < 0 → ∀ b, b < 0 → a ≠ b → (TJ9 a).2.1 ≠ (TJ9 b).2.1 := by decide +kernel
theorem tyJ9_ok : ∀ k, k < 0 → parseFieldDescriptor (TJ9 k).2.2.1 = some (tyJ9 k) := by decide +kernel
abbrev cJ9_max_7cf53 : ByteArray := prog_26_method_65_code
def yJ9_max_7cf53 : MethodName := ⟨RJ9, "max", "(II)I"⟩
abbrev cJ9_min_7cf53 : ByteArray := prog_26_method_69_code
def yJ9_min_7cf53 : MethodName := ⟨RJ9, "min", "(II)I"⟩
def RJ0 : String := "java/lang/String"
def TJ0 : u_T := fun k => match k with
  | 0 => ("java/lang/String", "value", "[B", true)
  | _ => ("java/lang/String", "coder", "B", true)
def tyJ0 : Nat → FieldType := fun k => match k with
  | 0 => .array .byte
  | _ => .byte
abbrev wsJ00 : List Cond := u_ws RJ0 TJ0 2
theorem nmJ0 : ∀ a, a < 2 → ∀ b, b < 2 → a ≠ b → (TJ0 a).2.1 ≠ (TJ0 b).2.1 := by decide +kernel
theorem tyJ0_ok : ∀ k, k < 2 → parseFieldDescriptor (TJ0 k).2.2.1 = some (tyJ0 k) := by decide +kernel
abbrev cJ0_length_8abf5 : ByteArray := prog_28_method_54_code
def yJ0_length_8abf5 : MethodName := ⟨RJ0, "length", "()I"⟩
abbrev cJ0_charAt_5068e : ByteArray := prog_28_method_56_code
def yJ0_charAt_5068e : MethodName := ⟨RJ0, "charAt", "(I)C"⟩
abbrev cJ0_coder_7d493 : ByteArray := prog_28_method_152_code
def yJ0_coder_7d493 : MethodName := ⟨RJ0, "coder", "()B"⟩
abbrev cJ0_isLatin1_aae02 : ByteArray := prog_28_method_154_code
def yJ0_isLatin1_aae02 : MethodName := ⟨RJ0, "isLatin1", "()Z"⟩
abbrev cJ0_checkIndex_df160 : ByteArray := prog_28_method_155_code
def yJ0_checkIndex_df160 : MethodName := ⟨RJ0, "checkIndex", "(II)V"⟩
def RJ1 : String := "java/lang/StringLatin1"
def TJ1 : u_T := fun k => match k with
  | _ => ("", "", "", false)
def tyJ1 : Nat → FieldType := fun k => match k with
  | _ => .int
abbrev wsJ10 : List Cond := u_ws RJ1 TJ1 0
theorem nmJ1 : ∀ a, a < 0 → ∀ b, b < 0 → a ≠ b → (TJ1 a).2.1 ≠ (TJ1 b).2.1 := by decide +kernel
theorem tyJ1_ok : ∀ k, k < 0 → parseFieldDescriptor (TJ1 k).2.2.1 = some (tyJ1 k) := by decide +kernel
abbrev cJ1_charAt_3b067 : ByteArray := prog_29_method_2_code
def yJ1_charAt_3b067 : MethodName := ⟨RJ1, "charAt", "([BI)C"⟩
def RJ2 : String := "java/lang/StringUTF16"
def TJ2 : u_T := fun k => match k with
  | _ => ("", "", "", false)
def tyJ2 : Nat → FieldType := fun k => match k with
  | _ => .int
abbrev wsJ20 : List Cond := u_ws RJ2 TJ2 0
theorem nmJ2 : ∀ a, a < 0 → ∀ b, b < 0 → a ≠ b → (TJ2 a).2.1 ≠ (TJ2 b).2.1 := by decide +kernel
theorem tyJ2_ok : ∀ k, k < 0 → parseFieldDescriptor (TJ2 k).2.2.1 = some (tyJ2 k) := by decide +kernel
abbrev cJ2_getChar_3b067 : ByteArray := prog_30_method_5_code
def yJ2_getChar_3b067 : MethodName := ⟨RJ2, "getChar", "([BI)C"⟩
abbrev cJ2_length_9d52b : ByteArray := prog_30_method_6_code
def yJ2_length_9d52b : MethodName := ⟨RJ2, "length", "([B)I"⟩
abbrev cJ2_charAt_3b067 : ByteArray := prog_30_method_83_code
def yJ2_charAt_3b067 : MethodName := ⟨RJ2, "charAt", "([BI)C"⟩
abbrev cJ2_checkIndex_2214a : ByteArray := prog_30_method_91_code
def yJ2_checkIndex_2214a : MethodName := ⟨RJ2, "checkIndex", "(I[B)V"⟩
def RJ10 : String := "java/lang/System"
def TJ10 : u_T := fun k => match k with
  | _ => ("", "", "", false)
def tyJ10 : Nat → FieldType := fun k => match k with
  | _ => .int
abbrev wsJ100 : List Cond := u_ws RJ10 TJ10 0
theorem nmJ10 : ∀ a, a < 0 → ∀ b, b < 0 → a ≠ b → (TJ10 a).2.1 ≠ (TJ10 b).2.1 := by decide +kernel
theorem tyJ10_ok : ∀ k, k < 0 → parseFieldDescriptor (TJ10 k).2.2.1 = some (tyJ10 k) := by decide +kernel
def RJxfd54e : String := "java/lang/constant/Constable"
def TJxfd54e : u_T := fun k => match k with
  | _ => ("", "", "", false)
def tyJxfd54e : Nat → FieldType := fun k => match k with
  | _ => .int
abbrev wsJxfd54e0 : List Cond := u_ws RJxfd54e TJxfd54e 0
theorem nmJxfd54e : ∀ a, a < 0 → ∀ b, b < 0 → a ≠ b → (TJxfd54e a).2.1 ≠ (TJxfd54e b).2.1 := by decide +kernel
theorem tyJxfd54e_ok : ∀ k, k < 0 → parseFieldDescriptor (TJxfd54e k).2.2.1 = some (tyJxfd54e k) := by decide +kernel
def RJx3cf43 : String := "java/lang/constant/ConstantDesc"
def TJx3cf43 : u_T := fun k => match k with
  | _ => ("", "", "", false)
def tyJx3cf43 : Nat → FieldType := fun k => match k with
  | _ => .int
abbrev wsJx3cf430 : List Cond := u_ws RJx3cf43 TJx3cf43 0
theorem nmJx3cf43 : ∀ a, a < 0 → ∀ b, b < 0 → a ≠ b → (TJx3cf43 a).2.1 ≠ (TJx3cf43 b).2.1 := by decide +kernel
theorem tyJx3cf43_ok : ∀ k, k < 0 → parseFieldDescriptor (TJx3cf43 k).2.2.1 = some (tyJx3cf43 k) := by decide +kernel
def RJ3 : String := "jdk/internal/util/Preconditions"
def TJ3 : u_T := fun k => match k with
  | _ => ("", "", "", false)
def tyJ3 : Nat → FieldType := fun k => match k with
  | _ => .int
abbrev wsJ30 : List Cond := u_ws RJ3 TJ3 0
theorem nmJ3 : ∀ a, a < 0 → ∀ b, b < 0 → a ≠ b → (TJ3 a).2.1 ≠ (TJ3 b).2.1 := by decide +kernel
theorem tyJ3_ok : ∀ k, k < 0 → parseFieldDescriptor (TJ3 k).2.2.1 = some (tyJ3 k) := by decide +kernel
abbrev cJ3_checkIndex_8e157 : ByteArray := prog_37_method_11_code
def yJ3_checkIndex_8e157 : MethodName := ⟨RJ3, "checkIndex", "(IILjava/util/function/BiFunction;)I"⟩
def RL : String := "CandleLoomLaw"
abbrev cL_cell : ByteArray := method_2_code
def yL_cell : MethodName := ⟨RL, "cell", "([II)I"⟩
abbrev cL_addWick : ByteArray := method_3_code
def yL_addWick : MethodName := ⟨RL, "addWick", "(LCandleLoom;III)I"⟩
abbrev cL_light : ByteArray := method_4_code
def yL_light : MethodName := ⟨RL, "light", "(LCandleLoom;I)I"⟩
abbrev cL_snuff : ByteArray := method_5_code
def yL_snuff : MethodName := ⟨RL, "snuff", "(LCandleLoom;I)I"⟩
abbrev cL_addWax : ByteArray := method_6_code
def yL_addWax : MethodName := ⟨RL, "addWax", "(LCandleLoom;II)I"⟩
abbrev cL_weave : ByteArray := method_7_code
def yL_weave : MethodName := ⟨RL, "weave", "(LCandleLoom;I)I"⟩
abbrev cL_ravel : ByteArray := method_8_code
def yL_ravel : MethodName := ⟨RL, "ravel", "(LCandleLoom;I)I"⟩
abbrev cL_repeatLast : ByteArray := method_9_code
def yL_repeatLast : MethodName := ⟨RL, "repeatLast", "(LCandleLoom;II)I"⟩
abbrev cL_knot : ByteArray := method_10_code
def yL_knot : MethodName := ⟨RL, "knot", "(LCandleLoom;II)I"⟩
abbrev cL_untie : ByteArray := method_11_code
def yL_untie : MethodName := ⟨RL, "untie", "(LCandleLoom;II)I"⟩
abbrev cL_mend : ByteArray := method_12_code
def yL_mend : MethodName := ⟨RL, "mend", "(LCandleLoom;C)I"⟩
abbrev cL_wickByWax : ByteArray := method_13_code
def yL_wickByWax : MethodName := ⟨RL, "wickByWax", "(LCandleLoom;I)I"⟩
abbrev cL_nextKnotRow : ByteArray := method_14_code
def yL_nextKnotRow : MethodName := ⟨RL, "nextKnotRow", "(LCandleLoom;I)I"⟩
abbrev cL_nextKnotColumn : ByteArray := method_15_code
def yL_nextKnotColumn : MethodName := ⟨RL, "nextKnotColumn", "(LCandleLoom;I)I"⟩
abbrev cL_period : ByteArray := method_16_code
def yL_period : MethodName := ⟨RL, "period", "(LCandleLoom;)I"⟩
abbrev cL_periodByBorders : ByteArray := method_17_code
def yL_periodByBorders : MethodName := ⟨RL, "periodByBorders", "(LCandleLoom;)I"⟩
abbrev cL_occurrences : ByteArray := method_18_code
def yL_occurrences : MethodName := ⟨RL, "occurrences", "(LCandleLoom;I)I"⟩
abbrev cL_meanRaised : ByteArray := method_19_code
def yL_meanRaised : MethodName := ⟨RL, "meanRaised", "(LCandleLoom;)D"⟩
abbrev cL_knotShare : ByteArray := method_20_code
def yL_knotShare : MethodName := ⟨RL, "knotShare", "(LCandleLoom;)F"⟩
abbrev cL_execute : ByteArray := method_21_code
def yL_execute : MethodName := ⟨RL, "execute", "(LCandleLoom;)I"⟩
abbrev cL_denial : ByteArray := method_22_code
def yL_denial : MethodName := ⟨RL, "denial", "(LCandleLoom;)I"⟩
abbrev cL_denialCause : ByteArray := method_23_code
def yL_denialCause : MethodName := ⟨RL, "denialCause", "(LCandleLoom;)I"⟩
abbrev cL_undo : ByteArray := method_24_code
def yL_undo : MethodName := ⟨RL, "undo", "(LCandleLoom;)I"⟩
abbrev cL_restore : ByteArray := method_25_code
def yL_restore : MethodName := ⟨RL, "restore", "(LCandleLoom;)I"⟩
abbrev cL_put : ByteArray := method_26_code
def yL_put : MethodName := ⟨RL, "put", "(LCandleLoom;C)Z"⟩
abbrev cL_write : ByteArray := method_27_code
def yL_write : MethodName := ⟨RL, "write", "(LCandleLoom;Ljava/lang/String;)LCandleLoom;"⟩
abbrev cL_act : ByteArray := method_28_code
def yL_act : MethodName := ⟨RL, "act", "(LCandleLoom;I)I"⟩
abbrev cL_digest : ByteArray := method_29_code
def yL_digest : MethodName := ⟨RL, "digest", "(LCandleLoom;)J"⟩
abbrev cL_areEqual : ByteArray := method_30_code
def yL_areEqual : MethodName := ⟨RL, "areEqual", "(LCandleLoom;II)Z"⟩
abbrev cL_areRows : ByteArray := method_31_code
def yL_areRows : MethodName := ⟨RL, "areRows", "(LCandleLoom;)Z"⟩
abbrev cL_isPeriod : ByteArray := method_32_code
def yL_isPeriod : MethodName := ⟨RL, "isPeriod", "(LCandleLoom;I)Z"⟩
abbrev cL_arePeriods : ByteArray := method_33_code
def yL_arePeriods : MethodName := ⟨RL, "arePeriods", "(LCandleLoom;)Z"⟩
abbrev cL_areWicks : ByteArray := method_34_code
def yL_areWicks : MethodName := ⟨RL, "areWicks", "(LCandleLoom;)Z"⟩
abbrev cL_isWoven : ByteArray := method_35_code
def yL_isWoven : MethodName := ⟨RL, "isWoven", "(LCandleLoom;)Z"⟩
abbrev cL_isRepeated : ByteArray := method_36_code
def yL_isRepeated : MethodName := ⟨RL, "isRepeated", "(LCandleLoom;II)Z"⟩
abbrev cL_areKnots : ByteArray := method_37_code
def yL_areKnots : MethodName := ⟨RL, "areKnots", "(LCandleLoom;)Z"⟩
abbrev cL_isFit : ByteArray := method_38_code
def yL_isFit : MethodName := ⟨RL, "isFit", "(LCandleLoom;)Z"⟩
abbrev cL_law : ByteArray := code
def yL_law : MethodName := ⟨RL, "law", "([I)Z"⟩
