def RX0 : String := "WaysAtlas$Coder"
def TX0 : u_T := fun k => match k with
  | 0 => ("WaysAtlas$Coder", "code", "LWaysAtlas$Table;", true)
  | 1 => ("WaysAtlas$Coder", "handlers", "LWaysAtlas$Table;", true)
  | 2 => ("WaysAtlas$Coder", "contexts", "LWaysAtlas$Table;", true)
  | 3 => ("WaysAtlas$Coder", "program", "LWaysAtlas$Program;", false)
  | 4 => ("WaysAtlas$Coder", "shares", "Z", false)
  | 5 => ("WaysAtlas$Coder", "full", "Z", false)
  | 6 => ("WaysAtlas$Coder", "handler", "I", false)
  | _ => ("WaysAtlas$Coder", "context", "I", false)
def tyX0 : Nat → FieldType := fun k => match k with
  | 0 => .object "WaysAtlas$Table"
  | 1 => .object "WaysAtlas$Table"
  | 2 => .object "WaysAtlas$Table"
  | 3 => .object "WaysAtlas$Program"
  | 4 => .boolean
  | 5 => .boolean
  | 6 => .int
  | _ => .int
abbrev wsX00 : List Cond := u_ws RX0 TX0 8
theorem nmX0 : ∀ a, a < 8 → ∀ b, b < 8 → a ≠ b → (TX0 a).2.1 ≠ (TX0 b).2.1 := by decide +kernel
theorem tyX0_ok : ∀ k, k < 8 → parseFieldDescriptor (TX0 k).2.2.1 = some (tyX0 k) := by decide +kernel
abbrev cX0_init : ByteArray := prog_2_method_1_code
def yX0_init : MethodName := ⟨RX0, "<init>", "(LWaysAtlas$Program;)V"⟩
abbrev cX0_translate : ByteArray := prog_2_method_2_code
def yX0_translate : MethodName := ⟨RX0, "translate", "(LWaysAtlas$Program;Z)V"⟩
abbrev cX0_write : ByteArray := prog_2_method_3_code
def yX0_write : MethodName := ⟨RX0, "write", "(Z)V"⟩
abbrev cX0_emit : ByteArray := prog_2_method_4_code
def yX0_emit : MethodName := ⟨RX0, "emit", "(III)I"⟩
abbrev cX0_patch : ByteArray := prog_2_method_5_code
def yX0_patch : MethodName := ⟨RX0, "patch", "(II)V"⟩
abbrev cX0_newHandler : ByteArray := prog_2_method_6_code
def yX0_newHandler : MethodName := ⟨RX0, "newHandler", "(II)I"⟩
abbrev cX0_pushContext : ByteArray := prog_2_method_7_code
def yX0_pushContext : MethodName := ⟨RX0, "pushContext", "(II)I"⟩
abbrev cX0_popContext : ByteArray := prog_2_method_8_code
def yX0_popContext : MethodName := ⟨RX0, "popContext", "(I)V"⟩
abbrev cX0_levelOf : ByteArray := prog_2_method_9_code
def yX0_levelOf : MethodName := ⟨RX0, "levelOf", "(I)I"⟩
abbrev cX0_writeBlock : ByteArray := prog_2_method_10_code
def yX0_writeBlock : MethodName := ⟨RX0, "writeBlock", "(II)V"⟩
abbrev cX0_writeStatement : ByteArray := prog_2_method_11_code
def yX0_writeStatement : MethodName := ⟨RX0, "writeStatement", "(II)V"⟩
abbrev cX0_writeReturn : ByteArray := prog_2_method_12_code
def yX0_writeReturn : MethodName := ⟨RX0, "writeReturn", "(I)V"⟩
abbrev cX0_writePlain : ByteArray := prog_2_method_13_code
def yX0_writePlain : MethodName := ⟨RX0, "writePlain", "(I)V"⟩
abbrev cX0_writeIf : ByteArray := prog_2_method_14_code
def yX0_writeIf : MethodName := ⟨RX0, "writeIf", "(II)V"⟩
abbrev cX0_writeLoop : ByteArray := prog_2_method_15_code
def yX0_writeLoop : MethodName := ⟨RX0, "writeLoop", "(II)V"⟩
abbrev cX0_writeJump : ByteArray := prog_2_method_16_code
def yX0_writeJump : MethodName := ⟨RX0, "writeJump", "(IZI)V"⟩
abbrev cX0_contextOf : ByteArray := prog_2_method_17_code
def yX0_contextOf : MethodName := ⟨RX0, "contextOf", "(I)I"⟩
abbrev cX0_writeWayOut : ByteArray := prog_2_method_18_code
def yX0_writeWayOut : MethodName := ⟨RX0, "writeWayOut", "(IZI)V"⟩
abbrev cX0_writePassing : ByteArray := prog_2_method_19_code
def yX0_writePassing : MethodName := ⟨RX0, "writePassing", "(IIZI)V"⟩
abbrev cX0_writeClosings : ByteArray := prog_2_method_20_code
def yX0_writeClosings : MethodName := ⟨RX0, "writeClosings", "(II)V"⟩
abbrev cX0_writeGuard : ByteArray := prog_2_method_21_code
def yX0_writeGuard : MethodName := ⟨RX0, "writeGuard", "(II)V"⟩
abbrev cX0_newCatchHandlers : ByteArray := prog_2_method_22_code
def yX0_newCatchHandlers : MethodName := ⟨RX0, "newCatchHandlers", "(II)I"⟩
abbrev cX0_writeHeld : ByteArray := prog_2_method_23_code
def yX0_writeHeld : MethodName := ⟨RX0, "writeHeld", "(III)I"⟩
abbrev cX0_writeCatches : ByteArray := prog_2_method_24_code
def yX0_writeCatches : MethodName := ⟨RX0, "writeCatches", "(IIIII)I"⟩
abbrev cX0_writeEnd : ByteArray := prog_2_method_25_code
def yX0_writeEnd : MethodName := ⟨RX0, "writeEnd", "(III)I"⟩
abbrev cX0_writeFinish : ByteArray := prog_2_method_26_code
def yX0_writeFinish : MethodName := ⟨RX0, "writeFinish", "(II)V"⟩
abbrev cX0_writeLast : ByteArray := prog_2_method_27_code
def yX0_writeLast : MethodName := ⟨RX0, "writeLast", "(III)V"⟩
abbrev cX0_writeFinishing : ByteArray := prog_2_method_28_code
def yX0_writeFinishing : MethodName := ⟨RX0, "writeFinishing", "(II)V"⟩
abbrev cX0_writeSum : ByteArray := prog_2_method_29_code
def yX0_writeSum : MethodName := ⟨RX0, "writeSum", "(II)V"⟩
abbrev cX0_writeList : ByteArray := prog_2_method_30_code
def yX0_writeList : MethodName := ⟨RX0, "writeList", "(II)V"⟩
def RX1 : String := "WaysAtlas$Machine"
def TX1 : u_T := fun k => match k with
  | 0 => ("WaysAtlas$Machine", "world", "LWaysAtlas$World;", true)
  | 1 => ("WaysAtlas$Machine", "code", "LWaysAtlas$Table;", true)
  | 2 => ("WaysAtlas$Machine", "handlers", "LWaysAtlas$Table;", true)
  | 3 => ("WaysAtlas$Machine", "stack", "LWaysAtlas$Table;", true)
  | 4 => ("WaysAtlas$Machine", "present", "I", false)
  | 5 => ("WaysAtlas$Machine", "next", "I", false)
  | _ => ("WaysAtlas$Machine", "caught", "I", false)
def tyX1 : Nat → FieldType := fun k => match k with
  | 0 => .object "WaysAtlas$World"
  | 1 => .object "WaysAtlas$Table"
  | 2 => .object "WaysAtlas$Table"
  | 3 => .object "WaysAtlas$Table"
  | 4 => .int
  | 5 => .int
  | _ => .int
abbrev wsX10 : List Cond := u_ws RX1 TX1 7
theorem nmX1 : ∀ a, a < 7 → ∀ b, b < 7 → a ≠ b → (TX1 a).2.1 ≠ (TX1 b).2.1 := by decide +kernel
theorem tyX1_ok : ∀ k, k < 7 → parseFieldDescriptor (TX1 k).2.2.1 = some (tyX1 k) := by decide +kernel
abbrev cX1_init : ByteArray := prog_3_method_1_code
def yX1_init : MethodName := ⟨RX1, "<init>", "(LWaysAtlas$World;LWaysAtlas$Table;LWaysAtlas$Table;)V"⟩
abbrev cX1_work : ByteArray := prog_3_method_2_code
def yX1_work : MethodName := ⟨RX1, "work", "(III)V"⟩
abbrev cX1_push : ByteArray := prog_3_method_3_code
def yX1_push : MethodName := ⟨RX1, "push", "(I)V"⟩
abbrev cX1_pop : ByteArray := prog_3_method_4_code
def yX1_pop : MethodName := ⟨RX1, "pop", "()I"⟩
abbrev cX1_unwind : ByteArray := prog_3_method_5_code
def yX1_unwind : MethodName := ⟨RX1, "unwind", "()V"⟩
abbrev cX1_handlerOf : ByteArray := prog_3_method_6_code
def yX1_handlerOf : MethodName := ⟨RX1, "handlerOf", "(II)I"⟩
abbrev cX1_evaluate : ByteArray := prog_3_method_7_code
def yX1_evaluate : MethodName := ⟨RX1, "evaluate", "(II)V"⟩
abbrev cX1_change : ByteArray := prog_3_method_8_code
def yX1_change : MethodName := ⟨RX1, "change", "(III)V"⟩
abbrev cX1_flow : ByteArray := prog_3_method_9_code
def yX1_flow : MethodName := ⟨RX1, "flow", "(III)V"⟩
abbrev cX1_turn : ByteArray := prog_3_method_10_code
def yX1_turn : MethodName := ⟨RX1, "turn", "(II)V"⟩
abbrev cX1_call : ByteArray := prog_3_method_11_code
def yX1_call : MethodName := ⟨RX1, "call", "(I)V"⟩
abbrev cX1_giveBack : ByteArray := prog_3_method_12_code
def yX1_giveBack : MethodName := ⟨RX1, "giveBack", "()V"⟩
abbrev cX1_fail : ByteArray := prog_3_method_13_code
def yX1_fail : MethodName := ⟨RX1, "fail", "(III)V"⟩
abbrev cX1_lose : ByteArray := prog_3_method_14_code
def yX1_lose : MethodName := ⟨RX1, "lose", "(I)V"⟩
abbrev cX1_closeUnder : ByteArray := prog_3_method_15_code
def yX1_closeUnder : MethodName := ⟨RX1, "closeUnder", "(II)V"⟩
def RX2 : String := "WaysAtlas$Program"
def TX2 : u_T := fun k => match k with
  | 0 => ("WaysAtlas$Program", "statements", "LWaysAtlas$Table;", true)
  | 1 => ("WaysAtlas$Program", "nodes", "LWaysAtlas$Table;", true)
  | 2 => ("WaysAtlas$Program", "catches", "LWaysAtlas$Table;", true)
  | 3 => ("WaysAtlas$Program", "kinds", "LWaysAtlas$Table;", true)
  | _ => ("WaysAtlas$Program", "methods", "LWaysAtlas$Table;", true)
def tyX2 : Nat → FieldType := fun k => match k with
  | 0 => .object "WaysAtlas$Table"
  | 1 => .object "WaysAtlas$Table"
  | 2 => .object "WaysAtlas$Table"
  | 3 => .object "WaysAtlas$Table"
  | _ => .object "WaysAtlas$Table"
abbrev wsX20 : List Cond := u_ws RX2 TX2 5
theorem nmX2 : ∀ a, a < 5 → ∀ b, b < 5 → a ≠ b → (TX2 a).2.1 ≠ (TX2 b).2.1 := by decide +kernel
theorem tyX2_ok : ∀ k, k < 5 → parseFieldDescriptor (TX2 k).2.2.1 = some (tyX2 k) := by decide +kernel
abbrev cX2_init : ByteArray := prog_4_method_1_code
def yX2_init : MethodName := ⟨RX2, "<init>", "()V"⟩
abbrev cX2_reset : ByteArray := prog_4_method_2_code
def yX2_reset : MethodName := ⟨RX2, "reset", "()V"⟩
abbrev cX2_covers : ByteArray := prog_4_method_3_code
def yX2_covers : MethodName := ⟨RX2, "covers", "(II)Z"⟩
abbrev cX2_catchOf : ByteArray := prog_4_method_4_code
def yX2_catchOf : MethodName := ⟨RX2, "catchOf", "(II)I"⟩
abbrev cX2_hasPart : ByteArray := prog_4_method_5_code
def yX2_hasPart : MethodName := ⟨RX2, "hasPart", "(II)Z"⟩
def RX3 : String := "WaysAtlas$Reader"
def TX3 : u_T := fun k => match k with
  | 0 => ("WaysAtlas$Reader", "tokens", "LWaysAtlas$Table;", true)
  | 1 => ("WaysAtlas$Reader", "loops", "LWaysAtlas$Table;", true)
  | 2 => ("WaysAtlas$Reader", "caughtLevels", "LWaysAtlas$Table;", true)
  | 3 => ("WaysAtlas$Reader", "callPlaces", "LWaysAtlas$Table;", true)
  | 4 => ("WaysAtlas$Reader", "program", "LWaysAtlas$Program;", false)
  | 5 => ("WaysAtlas$Reader", "at", "I", false)
  | 6 => ("WaysAtlas$Reader", "token", "I", false)
  | 7 => ("WaysAtlas$Reader", "value", "I", false)
  | 8 => ("WaysAtlas$Reader", "place", "I", false)
  | 9 => ("WaysAtlas$Reader", "lesserPlace", "I", false)
  | 10 => ("WaysAtlas$Reader", "fault", "I", false)
  | _ => ("WaysAtlas$Reader", "faultPlace", "I", false)
def tyX3 : Nat → FieldType := fun k => match k with
  | 0 => .object "WaysAtlas$Table"
  | 1 => .object "WaysAtlas$Table"
  | 2 => .object "WaysAtlas$Table"
  | 3 => .object "WaysAtlas$Table"
  | 4 => .object "WaysAtlas$Program"
  | 5 => .int
  | 6 => .int
  | 7 => .int
  | 8 => .int
  | 9 => .int
  | 10 => .int
  | _ => .int
abbrev wsX30 : List Cond := u_ws RX3 TX3 12
theorem nmX3 : ∀ a, a < 12 → ∀ b, b < 12 → a ≠ b → (TX3 a).2.1 ≠ (TX3 b).2.1 := by decide +kernel
theorem tyX3_ok : ∀ k, k < 12 → parseFieldDescriptor (TX3 k).2.2.1 = some (tyX3 k) := by decide +kernel
abbrev cX3_init : ByteArray := prog_5_method_1_code
def yX3_init : MethodName := ⟨RX3, "<init>", "(LWaysAtlas$Table;LWaysAtlas$Program;)V"⟩
abbrev cX3_read : ByteArray := prog_5_method_2_code
def yX3_read : MethodName := ⟨RX3, "read", "(LWaysAtlas$Program;)V"⟩
abbrev cX3_start : ByteArray := prog_5_method_3_code
def yX3_start : MethodName := ⟨RX3, "start", "(LWaysAtlas$Program;)V"⟩
abbrev cX3_advance : ByteArray := prog_5_method_4_code
def yX3_advance : MethodName := ⟨RX3, "advance", "()V"⟩
abbrev cX3_fail : ByteArray := prog_5_method_5_code
def yX3_fail : MethodName := ⟨RX3, "fail", "(I)V"⟩
abbrev cX3_failLesser : ByteArray := prog_5_method_6_code
def yX3_failLesser : MethodName := ⟨RX3, "failLesser", "(I)V"⟩
abbrev cX3_expect : ByteArray := prog_5_method_7_code
def yX3_expect : MethodName := ⟨RX3, "expect", "(I)V"⟩
abbrev cX3_readKind : ByteArray := prog_5_method_8_code
def yX3_readKind : MethodName := ⟨RX3, "readKind", "()V"⟩
abbrev cX3_readKindName : ByteArray := prog_5_method_9_code
def yX3_readKindName : MethodName := ⟨RX3, "readKindName", "()I"⟩
abbrev cX3_beginMethod : ByteArray := prog_5_method_10_code
def yX3_beginMethod : MethodName := ⟨RX3, "beginMethod", "()I"⟩
abbrev cX3_checkCalls : ByteArray := prog_5_method_11_code
def yX3_checkCalls : MethodName := ⟨RX3, "checkCalls", "()V"⟩
abbrev cX3_readStatements : ByteArray := prog_5_method_12_code
def yX3_readStatements : MethodName := ⟨RX3, "readStatements", "(II)I"⟩
abbrev cX3_readStatement : ByteArray := prog_5_method_13_code
def yX3_readStatement : MethodName := ⟨RX3, "readStatement", "(II)I"⟩
abbrev cX3_beginsStatement : ByteArray := prog_5_method_14_code
def yX3_beginsStatement : MethodName := ⟨RX3, "beginsStatement", "(I)Z"⟩
abbrev cX3_isNoVariable : ByteArray := prog_5_method_15_code
def yX3_isNoVariable : MethodName := ⟨RX3, "isNoVariable", "()Z"⟩
abbrev cX3_isNoRow : ByteArray := prog_5_method_16_code
def yX3_isNoRow : MethodName := ⟨RX3, "isNoRow", "()Z"⟩
abbrev cX3_readBlock : ByteArray := prog_5_method_17_code
def yX3_readBlock : MethodName := ⟨RX3, "readBlock", "(II)I"⟩
abbrev cX3_readIf : ByteArray := prog_5_method_18_code
def yX3_readIf : MethodName := ⟨RX3, "readIf", "(II)V"⟩
abbrev cX3_readLoop : ByteArray := prog_5_method_19_code
def yX3_readLoop : MethodName := ⟨RX3, "readLoop", "(II)V"⟩
abbrev cX3_readGuard : ByteArray := prog_5_method_20_code
def yX3_readGuard : MethodName := ⟨RX3, "readGuard", "(II)V"⟩
abbrev cX3_readResources : ByteArray := prog_5_method_21_code
def yX3_readResources : MethodName := ⟨RX3, "readResources", "()I"⟩
abbrev cX3_readCatch : ByteArray := prog_5_method_22_code
def yX3_readCatch : MethodName := ⟨RX3, "readCatch", "(III)I"⟩
abbrev cX3_readMark : ByteArray := prog_5_method_23_code
def yX3_readMark : MethodName := ⟨RX3, "readMark", "(I)V"⟩
abbrev cX3_readReturn : ByteArray := prog_5_method_24_code
def yX3_readReturn : MethodName := ⟨RX3, "readReturn", "(I)V"⟩
abbrev cX3_readThrow : ByteArray := prog_5_method_25_code
def yX3_readThrow : MethodName := ⟨RX3, "readThrow", "(II)V"⟩
abbrev cX3_readJump : ByteArray := prog_5_method_26_code
def yX3_readJump : MethodName := ⟨RX3, "readJump", "(II)V"⟩
abbrev cX3_readCall : ByteArray := prog_5_method_27_code
def yX3_readCall : MethodName := ⟨RX3, "readCall", "(II)V"⟩
abbrev cX3_readSet : ByteArray := prog_5_method_28_code
def yX3_readSet : MethodName := ⟨RX3, "readSet", "(II)V"⟩
abbrev cX3_readRow : ByteArray := prog_5_method_29_code
def yX3_readRow : MethodName := ⟨RX3, "readRow", "(I)V"⟩
abbrev cX3_readRowName : ByteArray := prog_5_method_30_code
def yX3_readRowName : MethodName := ⟨RX3, "readRowName", "()I"⟩
abbrev cX3_readList : ByteArray := prog_5_method_31_code
def yX3_readList : MethodName := ⟨RX3, "readList", "(IZ)I"⟩
abbrev cX3_joins : ByteArray := prog_5_method_32_code
def yX3_joins : MethodName := ⟨RX3, "joins", "(IZ)Z"⟩
abbrev cX3_newNode : ByteArray := prog_5_method_33_code
def yX3_newNode : MethodName := ⟨RX3, "newNode", "(II)I"⟩
abbrev cX3_readFactor : ByteArray := prog_5_method_34_code
def yX3_readFactor : MethodName := ⟨RX3, "readFactor", "(I)I"⟩
abbrev cX3_readElement : ByteArray := prog_5_method_35_code
def yX3_readElement : MethodName := ⟨RX3, "readElement", "(I)I"⟩
def RX4 : String := "WaysAtlas$RunRecord"
def TX4 : u_T := fun k => match k with
  | 0 => ("WaysAtlas$RunRecord", "tape", "LWaysAtlas$Table;", true)
  | 1 => ("WaysAtlas$RunRecord", "failures", "LWaysAtlas$Table;", true)
  | 2 => ("WaysAtlas$RunRecord", "activations", "LWaysAtlas$Table;", true)
  | 3 => ("WaysAtlas$RunRecord", "closings", "LWaysAtlas$Table;", true)
  | 4 => ("WaysAtlas$RunRecord", "entries", "LWaysAtlas$Table;", true)
  | 5 => ("WaysAtlas$RunRecord", "ended", "I", false)
  | 6 => ("WaysAtlas$RunRecord", "returned", "I", false)
  | 7 => ("WaysAtlas$RunRecord", "ender", "I", false)
  | 8 => ("WaysAtlas$RunRecord", "opened", "I", false)
  | 9 => ("WaysAtlas$RunRecord", "lost", "I", false)
  | 10 => ("WaysAtlas$RunRecord", "deepest", "I", false)
  | _ => ("WaysAtlas$RunRecord", "steps", "I", false)
def tyX4 : Nat → FieldType := fun k => match k with
  | 0 => .object "WaysAtlas$Table"
  | 1 => .object "WaysAtlas$Table"
  | 2 => .object "WaysAtlas$Table"
  | 3 => .object "WaysAtlas$Table"
  | 4 => .object "WaysAtlas$Table"
  | 5 => .int
  | 6 => .int
  | 7 => .int
  | 8 => .int
  | 9 => .int
  | 10 => .int
  | _ => .int
abbrev wsX40 : List Cond := u_ws RX4 TX4 12
theorem nmX4 : ∀ a, a < 12 → ∀ b, b < 12 → a ≠ b → (TX4 a).2.1 ≠ (TX4 b).2.1 := by decide +kernel
theorem tyX4_ok : ∀ k, k < 12 → parseFieldDescriptor (TX4 k).2.2.1 = some (tyX4 k) := by decide +kernel
abbrev cX4_init : ByteArray := prog_6_method_1_code
def yX4_init : MethodName := ⟨RX4, "<init>", "()V"⟩
abbrev cX4_restart : ByteArray := prog_6_method_2_code
def yX4_restart : MethodName := ⟨RX4, "restart", "(I)V"⟩
abbrev cX4_property : ByteArray := prog_6_method_3_code
def yX4_property : MethodName := ⟨RX4, "property", "(I)I"⟩
abbrev cX4_traced : ByteArray := prog_6_method_4_code
def yX4_traced : MethodName := ⟨RX4, "traced", "(II)I"⟩
abbrev cX4_agrees : ByteArray := prog_6_method_5_code
def yX4_agrees : MethodName := ⟨RX4, "agrees", "(LWaysAtlas$RunRecord;)Z"⟩
def RX5 : String := "WaysAtlas$Scanner"
def TX5 : u_T := fun k => match k with
  | 0 => ("WaysAtlas$Scanner", "tokens", "LWaysAtlas$Table;", true)
  | _ => ("WaysAtlas$Scanner", "at", "I", false)
def tyX5 : Nat → FieldType := fun k => match k with
  | 0 => .object "WaysAtlas$Table"
  | _ => .int
abbrev wsX50 : List Cond := u_ws RX5 TX5 2
theorem nmX5 : ∀ a, a < 2 → ∀ b, b < 2 → a ≠ b → (TX5 a).2.1 ≠ (TX5 b).2.1 := by decide +kernel
theorem tyX5_ok : ∀ k, k < 2 → parseFieldDescriptor (TX5 k).2.2.1 = some (tyX5 k) := by decide +kernel
abbrev cX5_init : ByteArray := prog_7_method_1_code
def yX5_init : MethodName := ⟨RX5, "<init>", "()V"⟩
abbrev cX5_scan : ByteArray := prog_7_method_2_code
def yX5_scan : MethodName := ⟨RX5, "scan", "(LWaysAtlas$Table;)V"⟩
abbrev cX5_note : ByteArray := prog_7_method_3_code
def yX5_note : MethodName := ⟨RX5, "note", "(III)V"⟩
abbrev cX5_number : ByteArray := prog_7_method_4_code
def yX5_number : MethodName := ⟨RX5, "number", "(LWaysAtlas$Table;)V"⟩
abbrev cX5_letters : ByteArray := prog_7_method_5_code
def yX5_letters : MethodName := ⟨RX5, "letters", "(LWaysAtlas$Table;)V"⟩
abbrev cX5_name : ByteArray := prog_7_method_6_code
def yX5_name : MethodName := ⟨RX5, "name", "(LWaysAtlas$Table;)V"⟩
abbrev cX5_isDigit : ByteArray := prog_7_method_7_code
def yX5_isDigit : MethodName := ⟨RX5, "isDigit", "(I)Z"⟩
abbrev cX5_isLetter : ByteArray := prog_7_method_8_code
def yX5_isLetter : MethodName := ⟨RX5, "isLetter", "(I)Z"⟩
abbrev cX5_endOfDigits : ByteArray := prog_7_method_9_code
def yX5_endOfDigits : MethodName := ⟨RX5, "endOfDigits", "(LWaysAtlas$Table;I)I"⟩
abbrev cX5_valueOf : ByteArray := prog_7_method_10_code
def yX5_valueOf : MethodName := ⟨RX5, "valueOf", "(LWaysAtlas$Table;II)I"⟩
abbrev cX5_wordNumber : ByteArray := prog_7_method_11_code
def yX5_wordNumber : MethodName := ⟨RX5, "wordNumber", "(LWaysAtlas$Table;II)I"⟩
abbrev cX5_spells : ByteArray := prog_7_method_12_code
def yX5_spells : MethodName := ⟨RX5, "spells", "(LWaysAtlas$Table;III)Z"⟩
def RX6 : String := "WaysAtlas$Table"
def TX6 : u_T := fun k => match k with
  | 0 => ("WaysAtlas$Table", "cells", "[I", true)
  | 1 => ("WaysAtlas$Table", "width", "I", true)
  | 2 => ("WaysAtlas$Table", "most", "I", true)
  | _ => ("WaysAtlas$Table", "rows", "I", false)
def tyX6 : Nat → FieldType := fun k => match k with
  | 0 => .array .int
  | 1 => .int
  | 2 => .int
  | _ => .int
abbrev wsX60 : List Cond := u_ws RX6 TX6 4
theorem nmX6 : ∀ a, a < 4 → ∀ b, b < 4 → a ≠ b → (TX6 a).2.1 ≠ (TX6 b).2.1 := by decide +kernel
theorem tyX6_ok : ∀ k, k < 4 → parseFieldDescriptor (TX6 k).2.2.1 = some (tyX6 k) := by decide +kernel
abbrev cX6_init : ByteArray := prog_8_method_1_code
def yX6_init : MethodName := ⟨RX6, "<init>", "(II)V"⟩
abbrev cX6_get : ByteArray := prog_8_method_2_code
def yX6_get : MethodName := ⟨RX6, "get", "(II)I"⟩
abbrev cX6_set : ByteArray := prog_8_method_3_code
def yX6_set : MethodName := ⟨RX6, "set", "(III)V"⟩
abbrev cX6_add : ByteArray := prog_8_method_4_code
def yX6_add : MethodName := ⟨RX6, "add", "()I"⟩
abbrev cX6_drop : ByteArray := prog_8_method_5_code
def yX6_drop : MethodName := ⟨RX6, "drop", "()V"⟩
abbrev cX6_reset : ByteArray := prog_8_method_6_code
def yX6_reset : MethodName := ⟨RX6, "reset", "()V"⟩
abbrev cX6_equalIn : ByteArray := prog_8_method_7_code
def yX6_equalIn : MethodName := ⟨RX6, "equalIn", "(LWaysAtlas$Table;I)Z"⟩
abbrev cX6_fill : ByteArray := prog_8_method_8_code
def yX6_fill : MethodName := ⟨RX6, "fill", "(II)V"⟩
def RX7 : String := "WaysAtlas$Walker"
def TX7 : u_T := fun k => match k with
  | 0 => ("WaysAtlas$Walker", "world", "LWaysAtlas$World;", true)
  | 1 => ("WaysAtlas$Walker", "cursor", "I", false)
  | 2 => ("WaysAtlas$Walker", "inside", "I", false)
  | 3 => ("WaysAtlas$Walker", "way", "I", false)
  | 4 => ("WaysAtlas$Walker", "value", "I", false)
  | 5 => ("WaysAtlas$Walker", "firstSum", "I", false)
  | _ => ("WaysAtlas$Walker", "secondSum", "I", false)
def tyX7 : Nat → FieldType := fun k => match k with
  | 0 => .object "WaysAtlas$World"
  | 1 => .int
  | 2 => .int
  | 3 => .int
  | 4 => .int
  | 5 => .int
  | _ => .int
abbrev wsX70 : List Cond := u_ws RX7 TX7 7
theorem nmX7 : ∀ a, a < 7 → ∀ b, b < 7 → a ≠ b → (TX7 a).2.1 ≠ (TX7 b).2.1 := by decide +kernel
theorem tyX7_ok : ∀ k, k < 7 → parseFieldDescriptor (TX7 k).2.2.1 = some (tyX7 k) := by decide +kernel
abbrev cX7_init : ByteArray := prog_9_method_1_code
def yX7_init : MethodName := ⟨RX7, "<init>", "(LWaysAtlas$World;)V"⟩
abbrev cX7_walk : ByteArray := prog_9_method_2_code
def yX7_walk : MethodName := ⟨RX7, "walk", "(III)V"⟩
abbrev cX7_at : ByteArray := prog_9_method_3_code
def yX7_at : MethodName := ⟨RX7, "at", "(II)I"⟩
abbrev cX7_slot : ByteArray := prog_9_method_4_code
def yX7_slot : MethodName := ⟨RX7, "slot", "(II)I"⟩
abbrev cX7_setSlot : ByteArray := prog_9_method_5_code
def yX7_setSlot : MethodName := ⟨RX7, "setSlot", "(III)V"⟩
abbrev cX7_enter : ByteArray := prog_9_method_6_code
def yX7_enter : MethodName := ⟨RX7, "enter", "(III)V"⟩
abbrev cX7_leave : ByteArray := prog_9_method_7_code
def yX7_leave : MethodName := ⟨RX7, "leave", "()V"⟩
abbrev cX7_goOn : ByteArray := prog_9_method_8_code
def yX7_goOn : MethodName := ⟨RX7, "goOn", "(I)V"⟩
abbrev cX7_endBy : ByteArray := prog_9_method_9_code
def yX7_endBy : MethodName := ⟨RX7, "endBy", "(II)V"⟩
abbrev cX7_takeThrown : ByteArray := prog_9_method_10_code
def yX7_takeThrown : MethodName := ⟨RX7, "takeThrown", "()V"⟩
abbrev cX7_begin : ByteArray := prog_9_method_11_code
def yX7_begin : MethodName := ⟨RX7, "begin", "(I)V"⟩
abbrev cX7_execute : ByteArray := prog_9_method_12_code
def yX7_execute : MethodName := ⟨RX7, "execute", "(I)V"⟩
abbrev cX7_enterBlock : ByteArray := prog_9_method_13_code
def yX7_enterBlock : MethodName := ⟨RX7, "enterBlock", "(II)V"⟩
abbrev cX7_turn : ByteArray := prog_9_method_14_code
def yX7_turn : MethodName := ⟨RX7, "turn", "(I)V"⟩
abbrev cX7_endTurn : ByteArray := prog_9_method_15_code
def yX7_endTurn : MethodName := ⟨RX7, "endTurn", "(I)V"⟩
abbrev cX7_endPhase : ByteArray := prog_9_method_16_code
def yX7_endPhase : MethodName := ⟨RX7, "endPhase", "(I)V"⟩
abbrev cX7_openNext : ByteArray := prog_9_method_17_code
def yX7_openNext : MethodName := ⟨RX7, "openNext", "(I)V"⟩
abbrev cX7_closeNext : ByteArray := prog_9_method_18_code
def yX7_closeNext : MethodName := ⟨RX7, "closeNext", "(I)V"⟩
abbrev cX7_chooseCatch : ByteArray := prog_9_method_19_code
def yX7_chooseCatch : MethodName := ⟨RX7, "chooseCatch", "(I)V"⟩
abbrev cX7_finish : ByteArray := prog_9_method_20_code
def yX7_finish : MethodName := ⟨RX7, "finish", "(I)V"⟩
abbrev cX7_endFinally : ByteArray := prog_9_method_21_code
def yX7_endFinally : MethodName := ⟨RX7, "endFinally", "(I)V"⟩
abbrev cX7_sum : ByteArray := prog_9_method_22_code
def yX7_sum : MethodName := ⟨RX7, "sum", "(II)I"⟩
abbrev cX7_list : ByteArray := prog_9_method_23_code
def yX7_list : MethodName := ⟨RX7, "list", "(II)I"⟩
def RX8 : String := "WaysAtlas$World"
def TX8 : u_T := fun k => match k with
  | 0 => ("WaysAtlas$World", "passings", "LWaysAtlas$Table;", true)
  | 1 => ("WaysAtlas$World", "activations", "LWaysAtlas$Table;", true)
  | 2 => ("WaysAtlas$World", "slots", "LWaysAtlas$Table;", true)
  | 3 => ("WaysAtlas$World", "arrays", "LWaysAtlas$Table;", true)
  | 4 => ("WaysAtlas$World", "passed", "LWaysAtlas$Table;", true)
  | 5 => ("WaysAtlas$World", "program", "LWaysAtlas$Program;", false)
  | 6 => ("WaysAtlas$World", "record", "LWaysAtlas$RunRecord;", false)
  | 7 => ("WaysAtlas$World", "plan", "LWaysAtlas$Table;", false)
  | 8 => ("WaysAtlas$World", "limit", "I", false)
  | 9 => ("WaysAtlas$World", "thrown", "I", false)
  | _ => ("WaysAtlas$World", "notesPassings", "Z", false)
def tyX8 : Nat → FieldType := fun k => match k with
  | 0 => .object "WaysAtlas$Table"
  | 1 => .object "WaysAtlas$Table"
  | 2 => .object "WaysAtlas$Table"
  | 3 => .object "WaysAtlas$Table"
  | 4 => .object "WaysAtlas$Table"
  | 5 => .object "WaysAtlas$Program"
  | 6 => .object "WaysAtlas$RunRecord"
  | 7 => .object "WaysAtlas$Table"
  | 8 => .int
  | 9 => .int
  | _ => .boolean
abbrev wsX80 : List Cond := u_ws RX8 TX8 11
theorem nmX8 : ∀ a, a < 11 → ∀ b, b < 11 → a ≠ b → (TX8 a).2.1 ≠ (TX8 b).2.1 := by decide +kernel
theorem tyX8_ok : ∀ k, k < 11 → parseFieldDescriptor (TX8 k).2.2.1 = some (tyX8 k) := by decide +kernel
abbrev cX8_init : ByteArray := prog_10_method_1_code
def yX8_init : MethodName := ⟨RX8, "<init>", "(LWaysAtlas$Program;LWaysAtlas$Table;LWaysAtlas$RunRecord;)V"⟩
abbrev cX8_prepare : ByteArray := prog_10_method_2_code
def yX8_prepare : MethodName := ⟨RX8, "prepare", "(LWaysAtlas$Program;LWaysAtlas$Table;LWaysAtlas$RunRecord;I)V"⟩
abbrev cX8_isRunning : ByteArray := prog_10_method_3_code
def yX8_isRunning : MethodName := ⟨RX8, "isRunning", "()Z"⟩
abbrev cX8_takeStep : ByteArray := prog_10_method_4_code
def yX8_takeStep : MethodName := ⟨RX8, "takeStep", "()Z"⟩
abbrev cX8_end : ByteArray := prog_10_method_5_code
def yX8_end : MethodName := ⟨RX8, "end", "(II)V"⟩
abbrev cX8_active : ByteArray := prog_10_method_6_code
def yX8_active : MethodName := ⟨RX8, "active", "()I"⟩
abbrev cX8_enter : ByteArray := prog_10_method_7_code
def yX8_enter : MethodName := ⟨RX8, "enter", "(III)V"⟩
abbrev cX8_leave : ByteArray := prog_10_method_8_code
def yX8_leave : MethodName := ⟨RX8, "leave", "()V"⟩
abbrev cX8_now : ByteArray := prog_10_method_9_code
def yX8_now : MethodName := ⟨RX8, "now", "(I)I"⟩
abbrev cX8_setNow : ByteArray := prog_10_method_10_code
def yX8_setNow : MethodName := ⟨RX8, "setNow", "(II)V"⟩
abbrev cX8_slot : ByteArray := prog_10_method_11_code
def yX8_slot : MethodName := ⟨RX8, "slot", "(II)I"⟩
abbrev cX8_setSlot : ByteArray := prog_10_method_12_code
def yX8_setSlot : MethodName := ⟨RX8, "setSlot", "(III)V"⟩
abbrev cX8_kindOf : ByteArray := prog_10_method_13_code
def yX8_kindOf : MethodName := ⟨RX8, "kindOf", "(I)I"⟩
abbrev cX8_raise : ByteArray := prog_10_method_14_code
def yX8_raise : MethodName := ⟨RX8, "raise", "(II)V"⟩
abbrev cX8_suppress : ByteArray := prog_10_method_15_code
def yX8_suppress : MethodName := ⟨RX8, "suppress", "(II)V"⟩
abbrev cX8_pass : ByteArray := prog_10_method_16_code
def yX8_pass : MethodName := ⟨RX8, "pass", "(II)I"⟩
abbrev cX8_append : ByteArray := prog_10_method_17_code
def yX8_append : MethodName := ⟨RX8, "append", "(II)V"⟩
abbrev cX8_open : ByteArray := prog_10_method_18_code
def yX8_open : MethodName := ⟨RX8, "open", "(II)V"⟩
abbrev cX8_close : ByteArray := prog_10_method_19_code
def yX8_close : MethodName := ⟨RX8, "close", "(II)V"⟩
abbrev cX8_finish : ByteArray := prog_10_method_20_code
def yX8_finish : MethodName := ⟨RX8, "finish", "(I)V"⟩
abbrev cX8_apply : ByteArray := prog_10_method_21_code
def yX8_apply : MethodName := ⟨RX8, "apply", "(III)I"⟩
abbrev cX8_compares : ByteArray := prog_10_method_22_code
def yX8_compares : MethodName := ⟨RX8, "compares", "(III)Z"⟩
abbrev cX8_newRow : ByteArray := prog_10_method_23_code
def yX8_newRow : MethodName := ⟨RX8, "newRow", "(II)V"⟩
abbrev cX8_lacking : ByteArray := prog_10_method_24_code
def yX8_lacking : MethodName := ⟨RX8, "lacking", "(II)I"⟩
abbrev cX8_element : ByteArray := prog_10_method_25_code
def yX8_element : MethodName := ⟨RX8, "element", "(II)I"⟩
abbrev cX8_store : ByteArray := prog_10_method_26_code
def yX8_store : MethodName := ⟨RX8, "store", "(III)V"⟩
abbrev cX8_size : ByteArray := prog_10_method_27_code
def yX8_size : MethodName := ⟨RX8, "size", "(I)I"⟩
def RX9 : String := "WaysAtlas"
def TX9 : u_T := fun k => match k with
  | 0 => ("WaysAtlas", "text", "LWaysAtlas$Table;", true)
  | 1 => ("WaysAtlas", "scanner", "LWaysAtlas$Scanner;", true)
  | 2 => ("WaysAtlas", "reader", "LWaysAtlas$Reader;", true)
  | 3 => ("WaysAtlas", "coder", "LWaysAtlas$Coder;", true)
  | 4 => ("WaysAtlas", "world", "LWaysAtlas$World;", true)
  | 5 => ("WaysAtlas", "walker", "LWaysAtlas$Walker;", true)
  | 6 => ("WaysAtlas", "machine", "LWaysAtlas$Machine;", true)
  | 7 => ("WaysAtlas", "plan", "LWaysAtlas$Table;", true)
  | 8 => ("WaysAtlas", "alone", "LWaysAtlas$Table;", true)
  | 9 => ("WaysAtlas", "outcomes", "LWaysAtlas$Table;", true)
  | 10 => ("WaysAtlas", "codeRun", "LWaysAtlas$RunRecord;", true)
  | 11 => ("WaysAtlas", "treeRun", "LWaysAtlas$RunRecord;", true)
  | 12 => ("WaysAtlas", "trial", "LWaysAtlas$RunRecord;", true)
  | 13 => ("WaysAtlas", "secondTrial", "LWaysAtlas$RunRecord;", true)
  | 14 => ("WaysAtlas", "present", "LWaysAtlas$Program;", false)
  | 15 => ("WaysAtlas", "spare", "LWaysAtlas$Program;", false)
  | _ => ("WaysAtlas", "fault", "I", false)
def tyX9 : Nat → FieldType := fun k => match k with
  | 0 => .object "WaysAtlas$Table"
  | 1 => .object "WaysAtlas$Scanner"
  | 2 => .object "WaysAtlas$Reader"
  | 3 => .object "WaysAtlas$Coder"
  | 4 => .object "WaysAtlas$World"
  | 5 => .object "WaysAtlas$Walker"
  | 6 => .object "WaysAtlas$Machine"
  | 7 => .object "WaysAtlas$Table"
  | 8 => .object "WaysAtlas$Table"
  | 9 => .object "WaysAtlas$Table"
  | 10 => .object "WaysAtlas$RunRecord"
  | 11 => .object "WaysAtlas$RunRecord"
  | 12 => .object "WaysAtlas$RunRecord"
  | 13 => .object "WaysAtlas$RunRecord"
  | 14 => .object "WaysAtlas$Program"
  | 15 => .object "WaysAtlas$Program"
  | _ => .int
abbrev wsX90 : List Cond := u_ws RX9 TX9 17
theorem nmX9 : ∀ a, a < 17 → ∀ b, b < 17 → a ≠ b → (TX9 a).2.1 ≠ (TX9 b).2.1 := by decide +kernel
theorem tyX9_ok : ∀ k, k < 17 → parseFieldDescriptor (TX9 k).2.2.1 = some (tyX9 k) := by decide +kernel
abbrev cX9_init : ByteArray := prog_1_method_1_code
def yX9_init : MethodName := ⟨RX9, "<init>", "()V"⟩
abbrev cX9_say : ByteArray := prog_1_method_2_code
def yX9_say : MethodName := ⟨RX9, "say", "(JI)I"⟩
abbrev cX9_compile : ByteArray := prog_1_method_3_code
def yX9_compile : MethodName := ⟨RX9, "compile", "(Z)I"⟩
abbrev cX9_fault : ByteArray := prog_1_method_4_code
def yX9_fault : MethodName := ⟨RX9, "fault", "()I"⟩
abbrev cX9_count : ByteArray := prog_1_method_5_code
def yX9_count : MethodName := ⟨RX9, "count", "(I)I"⟩
abbrev cX9_plan : ByteArray := prog_1_method_6_code
def yX9_plan : MethodName := ⟨RX9, "plan", "(IIII)I"⟩
abbrev cX9_clear : ByteArray := prog_1_method_7_code
def yX9_clear : MethodName := ⟨RX9, "clear", "()I"⟩
abbrev cX9_run : ByteArray := prog_1_method_8_code
def yX9_run : MethodName := ⟨RX9, "run", "(ZIIII)I"⟩
abbrev cX9_ran : ByteArray := prog_1_method_9_code
def yX9_ran : MethodName := ⟨RX9, "ran", "(II)I"⟩
abbrev cX9_mark : ByteArray := prog_1_method_10_code
def yX9_mark : MethodName := ⟨RX9, "mark", "(II)I"⟩
abbrev cX9_failure : ByteArray := prog_1_method_11_code
def yX9_failure : MethodName := ⟨RX9, "failure", "(III)I"⟩
abbrev cX9_trace : ByteArray := prog_1_method_12_code
def yX9_trace : MethodName := ⟨RX9, "trace", "(III)I"⟩
abbrev cX9_closed : ByteArray := prog_1_method_13_code
def yX9_closed : MethodName := ⟨RX9, "closed", "(II)I"⟩
abbrev cX9_entered : ByteArray := prog_1_method_14_code
def yX9_entered : MethodName := ⟨RX9, "entered", "(II)I"⟩
abbrev cX9_handler : ByteArray := prog_1_method_15_code
def yX9_handler : MethodName := ⟨RX9, "handler", "(II)I"⟩
abbrev cX9_ways : ByteArray := prog_1_method_16_code
def yX9_ways : MethodName := ⟨RX9, "ways", "(III)I"⟩
abbrev cX9_same : ByteArray := prog_1_method_17_code
def yX9_same : MethodName := ⟨RX9, "same", "(III)I"⟩
abbrev cX9_isNoMethod : ByteArray := prog_1_method_18_code
def yX9_isNoMethod : MethodName := ⟨RX9, "isNoMethod", "(I)Z"⟩
abbrev cX9_isNoRun : ByteArray := prog_1_method_19_code
def yX9_isNoRun : MethodName := ⟨RX9, "isNoRun", "(I)Z"⟩
abbrev cX9_chosen : ByteArray := prog_1_method_20_code
def yX9_chosen : MethodName := ⟨RX9, "chosen", "(I)LWaysAtlas$RunRecord;"⟩
abbrev cX9_perform : ByteArray := prog_1_method_21_code
def yX9_perform : MethodName := ⟨RX9, "perform", "(ZLWaysAtlas$RunRecord;LWaysAtlas$Table;IIII)I"⟩
abbrev cX9_planAlone : ByteArray := prog_1_method_22_code
def yX9_planAlone : MethodName := ⟨RX9, "planAlone", "(I)V"⟩
abbrev cX9_noteOutcome : ByteArray := prog_1_method_23_code
def yX9_noteOutcome : MethodName := ⟨RX9, "noteOutcome", "()V"⟩
def RX10 : String := "WaysAtlasModel"
def TX10 : u_T := fun k => match k with
  | 0 => ("WaysAtlasModel", "words", "[J", true)
  | 1 => ("WaysAtlasModel", "text", "[B", true)
  | 2 => ("WaysAtlasModel", "size", "I", false)
  | 3 => ("WaysAtlasModel", "at", "I", false)
  | 4 => ("WaysAtlasModel", "token", "I", false)
  | 5 => ("WaysAtlasModel", "tokenAt", "I", false)
  | 6 => ("WaysAtlasModel", "which", "I", false)
  | 7 => ("WaysAtlasModel", "value", "I", false)
  | 8 => ("WaysAtlasModel", "live", "I", false)
  | 9 => ("WaysAtlasModel", "draft", "I", false)
  | 10 => ("WaysAtlasModel", "hasProgram", "Z", false)
  | 11 => ("WaysAtlasModel", "stat", "[I", true)
  | 12 => ("WaysAtlasModel", "statements", "[I", true)
  | 13 => ("WaysAtlasModel", "entryKind", "[I", true)
  | 14 => ("WaysAtlasModel", "entryValue", "[I", true)
  | 15 => ("WaysAtlasModel", "firstOf", "[I", true)
  | 16 => ("WaysAtlasModel", "catchOf", "[I", true)
  | 17 => ("WaysAtlasModel", "catchKind", "[I", true)
  | 18 => ("WaysAtlasModel", "catchBlock", "[I", true)
  | 19 => ("WaysAtlasModel", "catches", "[I", true)
  | 20 => ("WaysAtlasModel", "body", "[I", true)
  | 21 => ("WaysAtlasModel", "methods", "[I", true)
  | 22 => ("WaysAtlasModel", "above", "[I", true)
  | 23 => ("WaysAtlasModel", "kinds", "[I", true)
  | 24 => ("WaysAtlasModel", "entries", "I", false)
  | 25 => ("WaysAtlasModel", "blocks", "I", false)
  | 26 => ("WaysAtlasModel", "fault", "I", false)
  | 27 => ("WaysAtlasModel", "faultAt", "I", false)
  | 28 => ("WaysAtlasModel", "faultTold", "I", false)
  | 29 => ("WaysAtlasModel", "checks", "I", false)
  | 30 => ("WaysAtlasModel", "checkHow", "[I", true)
  | 31 => ("WaysAtlasModel", "checkAt", "[I", true)
  | 32 => ("WaysAtlasModel", "checkValue", "[I", true)
  | 33 => ("WaysAtlasModel", "waits", "I", false)
  | 34 => ("WaysAtlasModel", "wait", "[I", true)
  | 35 => ("WaysAtlasModel", "waitValue", "[I", true)
  | 36 => ("WaysAtlasModel", "deep", "I", false)
  | 37 => ("WaysAtlasModel", "isOver", "Z", false)
  | 38 => ("WaysAtlasModel", "piled", "I", false)
  | 39 => ("WaysAtlasModel", "pileKind", "[I", true)
  | 40 => ("WaysAtlasModel", "pileStatement", "[I", true)
  | 41 => ("WaysAtlasModel", "pileBlock", "[I", true)
  | 42 => ("WaysAtlasModel", "pileLast", "[I", true)
  | 43 => ("WaysAtlasModel", "planned", "I", false)
  | 44 => ("WaysAtlasModel", "planStatement", "[I", true)
  | 45 => ("WaysAtlasModel", "planPart", "[I", true)
  | 46 => ("WaysAtlasModel", "planTime", "[I", true)
  | 47 => ("WaysAtlasModel", "planKind", "[I", true)
  | 48 => ("WaysAtlasModel", "hasRun", "[Z", true)
  | 49 => ("WaysAtlasModel", "slot", "I", false)
  | 50 => ("WaysAtlasModel", "told", "[I", true)
  | 51 => ("WaysAtlasModel", "tape", "[I", true)
  | 52 => ("WaysAtlasModel", "failedKind", "[I", true)
  | 53 => ("WaysAtlasModel", "cause", "[I", true)
  | 54 => ("WaysAtlasModel", "underFirst", "[I", true)
  | 55 => ("WaysAtlasModel", "underNext", "[I", true)
  | 56 => ("WaysAtlasModel", "failedAt", "[I", true)
  | 57 => ("WaysAtlasModel", "underWay", "[I", true)
  | 58 => ("WaysAtlasModel", "traces", "[I", true)
  | 59 => ("WaysAtlasModel", "closings", "[I", true)
  | 60 => ("WaysAtlasModel", "enteredOf", "[I", true)
  | 61 => ("WaysAtlasModel", "left", "I", false)
  | 62 => ("WaysAtlasModel", "ended", "I", false)
  | 63 => ("WaysAtlasModel", "signal", "I", false)
  | 64 => ("WaysAtlasModel", "signalValue", "I", false)
  | 65 => ("WaysAtlasModel", "frames", "I", false)
  | 66 => ("WaysAtlasModel", "frameKind", "[I", true)
  | 67 => ("WaysAtlasModel", "frameStatement", "[I", true)
  | 68 => ("WaysAtlasModel", "frameNow", "[I", true)
  | 69 => ("WaysAtlasModel", "pending", "[I", true)
  | 70 => ("WaysAtlasModel", "pendingValue", "[I", true)
  | 71 => ("WaysAtlasModel", "firstResource", "[I", true)
  | 72 => ("WaysAtlasModel", "openedOf", "[I", true)
  | 73 => ("WaysAtlasModel", "caught", "[I", true)
  | 74 => ("WaysAtlasModel", "acts", "I", false)
  | 75 => ("WaysAtlasModel", "actVar", "[I", true)
  | 76 => ("WaysAtlasModel", "actRow", "[I", true)
  | 77 => ("WaysAtlasModel", "actMethod", "[I", true)
  | 78 => ("WaysAtlasModel", "actStatement", "[I", true)
  | 79 => ("WaysAtlasModel", "rows", "I", false)
  | 80 => ("WaysAtlasModel", "rowSize", "[I", true)
  | 81 => ("WaysAtlasModel", "rowItem", "[I", true)
  | 82 => ("WaysAtlasModel", "passed", "[I", true)
  | 83 => ("WaysAtlasModel", "planning", "I", false)
  | 84 => ("WaysAtlasModel", "aloneStatement", "I", false)
  | 85 => ("WaysAtlasModel", "alonePart", "I", false)
  | 86 => ("WaysAtlasModel", "aloneTime", "I", false)
  | 87 => ("WaysAtlasModel", "quiet", "I", false)
  | 88 => ("WaysAtlasModel", "quietStatement", "[I", true)
  | 89 => ("WaysAtlasModel", "quietPart", "[I", true)
  | 90 => ("WaysAtlasModel", "quietTime", "[I", true)
  | 91 => ("WaysAtlasModel", "stack", "[I", true)
  | 92 => ("WaysAtlasModel", "stacked", "I", false)
  | 93 => ("WaysAtlasModel", "wrong", "I", false)
  | 94 => ("WaysAtlasModel", "wayOut", "[I", true)
  | _ => ("WaysAtlasModel", "wayOuts", "I", false)
def tyX10 : Nat → FieldType := fun k => match k with
  | 0 => .array .long
  | 1 => .array .byte
  | 2 => .int
  | 3 => .int
  | 4 => .int
  | 5 => .int
  | 6 => .int
  | 7 => .int
  | 8 => .int
  | 9 => .int
  | 10 => .boolean
  | 11 => .array .int
  | 12 => .array .int
  | 13 => .array .int
  | 14 => .array .int
  | 15 => .array .int
  | 16 => .array .int
  | 17 => .array .int
  | 18 => .array .int
  | 19 => .array .int
  | 20 => .array .int
  | 21 => .array .int
  | 22 => .array .int
  | 23 => .array .int
  | 24 => .int
  | 25 => .int
  | 26 => .int
  | 27 => .int
  | 28 => .int
  | 29 => .int
  | 30 => .array .int
  | 31 => .array .int
  | 32 => .array .int
  | 33 => .int
  | 34 => .array .int
  | 35 => .array .int
  | 36 => .int
  | 37 => .boolean
  | 38 => .int
  | 39 => .array .int
  | 40 => .array .int
  | 41 => .array .int
  | 42 => .array .int
  | 43 => .int
  | 44 => .array .int
  | 45 => .array .int
  | 46 => .array .int
  | 47 => .array .int
  | 48 => .array .boolean
  | 49 => .int
  | 50 => .array .int
  | 51 => .array .int
  | 52 => .array .int
  | 53 => .array .int
  | 54 => .array .int
  | 55 => .array .int
  | 56 => .array .int
  | 57 => .array .int
  | 58 => .array .int
  | 59 => .array .int
  | 60 => .array .int
  | 61 => .int
  | 62 => .int
  | 63 => .int
  | 64 => .int
  | 65 => .int
  | 66 => .array .int
  | 67 => .array .int
  | 68 => .array .int
  | 69 => .array .int
  | 70 => .array .int
  | 71 => .array .int
  | 72 => .array .int
  | 73 => .array .int
  | 74 => .int
  | 75 => .array .int
  | 76 => .array .int
  | 77 => .array .int
  | 78 => .array .int
  | 79 => .int
  | 80 => .array .int
  | 81 => .array .int
  | 82 => .array .int
  | 83 => .int
  | 84 => .int
  | 85 => .int
  | 86 => .int
  | 87 => .int
  | 88 => .array .int
  | 89 => .array .int
  | 90 => .array .int
  | 91 => .array .int
  | 92 => .int
  | 93 => .int
  | 94 => .array .int
  | _ => .int
abbrev wsX100 : List Cond := u_ws RX10 TX10 96
theorem nmX10 : ∀ a, a < 96 → ∀ b, b < 96 → a ≠ b → (TX10 a).2.1 ≠ (TX10 b).2.1 := by decide +kernel
theorem tyX10_ok : ∀ k, k < 96 → parseFieldDescriptor (TX10 k).2.2.1 = some (tyX10 k) := by decide +kernel
abbrev cX10_init : ByteArray := prog_12_method_1_code
def yX10_init : MethodName := ⟨RX10, "<init>", "()V"⟩
abbrev cX10_in : ByteArray := prog_12_method_3_code
def yX10_in : MethodName := ⟨RX10, "in", "(III)Z"⟩
abbrev cX10_say : ByteArray := prog_12_method_4_code
def yX10_say : MethodName := ⟨RX10, "say", "(JI)I"⟩
abbrev cX10_byteAt : ByteArray := prog_12_method_5_code
def yX10_byteAt : MethodName := ⟨RX10, "byteAt", "(I)I"⟩
abbrev cX10_isLetter : ByteArray := prog_12_method_6_code
def yX10_isLetter : MethodName := ⟨RX10, "isLetter", "(I)Z"⟩
abbrev cX10_isDigit : ByteArray := prog_12_method_7_code
def yX10_isDigit : MethodName := ⟨RX10, "isDigit", "(I)Z"⟩
abbrev cX10_digits : ByteArray := prog_12_method_8_code
def yX10_digits : MethodName := ⟨RX10, "digits", "()I"⟩
abbrev cX10_wordOrName : ByteArray := prog_12_method_9_code
def yX10_wordOrName : MethodName := ⟨RX10, "wordOrName", "()V"⟩
abbrev cX10_isSignByte : ByteArray := prog_12_method_10_code
def yX10_isSignByte : MethodName := ⟨RX10, "isSignByte", "(I)Z"⟩
abbrev cX10_advance : ByteArray := prog_12_method_11_code
def yX10_advance : MethodName := ⟨RX10, "advance", "()V"⟩
abbrev cX10_isWord : ByteArray := prog_12_method_12_code
def yX10_isWord : MethodName := ⟨RX10, "isWord", "(I)Z"⟩
abbrev cX10_isSign : ByteArray := prog_12_method_13_code
def yX10_isSign : MethodName := ⟨RX10, "isSign", "(I)Z"⟩
abbrev cX10_isName : ByteArray := prog_12_method_14_code
def yX10_isName : MethodName := ⟨RX10, "isName", "(I)Z"⟩
abbrev cX10_get : ByteArray := prog_12_method_15_code
def yX10_get : MethodName := ⟨RX10, "get", "(II)I"⟩
abbrev cX10_put : ByteArray := prog_12_method_16_code
def yX10_put : MethodName := ⟨RX10, "put", "(III)V"⟩
abbrev cX10_fails : ByteArray := prog_12_method_17_code
def yX10_fails : MethodName := ⟨RX10, "fails", "(II)V"⟩
abbrev cX10_cannot : ByteArray := prog_12_method_18_code
def yX10_cannot : MethodName := ⟨RX10, "cannot", "()V"⟩
abbrev cX10_check : ByteArray := prog_12_method_19_code
def yX10_check : MethodName := ⟨RX10, "check", "(III)V"⟩
abbrev cX10_takeSign : ByteArray := prog_12_method_20_code
def yX10_takeSign : MethodName := ⟨RX10, "takeSign", "(I)V"⟩
abbrev cX10_takeNumber : ByteArray := prog_12_method_21_code
def yX10_takeNumber : MethodName := ⟨RX10, "takeNumber", "()I"⟩
abbrev cX10_takeKind : ByteArray := prog_12_method_22_code
def yX10_takeKind : MethodName := ⟨RX10, "takeKind", "(I)I"⟩
abbrev cX10_takeMethod : ByteArray := prog_12_method_23_code
def yX10_takeMethod : MethodName := ⟨RX10, "takeMethod", "()I"⟩
abbrev cX10_takeRow : ByteArray := prog_12_method_24_code
def yX10_takeRow : MethodName := ⟨RX10, "takeRow", "()I"⟩
abbrev cX10_emits : ByteArray := prog_12_method_25_code
def yX10_emits : MethodName := ⟨RX10, "emits", "(II)V"⟩
abbrev cX10_waitsFor : ByteArray := prog_12_method_26_code
def yX10_waitsFor : MethodName := ⟨RX10, "waitsFor", "(II)V"⟩
abbrev cX10_mayGoDeeper : ByteArray := prog_12_method_27_code
def yX10_mayGoDeeper : MethodName := ⟨RX10, "mayGoDeeper", "()Z"⟩
abbrev cX10_top : ByteArray := prog_12_method_28_code
def yX10_top : MethodName := ⟨RX10, "top", "()I"⟩
abbrev cX10_endFactor : ByteArray := prog_12_method_29_code
def yX10_endFactor : MethodName := ⟨RX10, "endFactor", "()V"⟩
abbrev cX10_endProduct : ByteArray := prog_12_method_30_code
def yX10_endProduct : MethodName := ⟨RX10, "endProduct", "()V"⟩
abbrev cX10_endSum : ByteArray := prog_12_method_31_code
def yX10_endSum : MethodName := ⟨RX10, "endSum", "()V"⟩
abbrev cX10_beginsFactor : ByteArray := prog_12_method_32_code
def yX10_beginsFactor : MethodName := ⟨RX10, "beginsFactor", "()Z"⟩
abbrev cX10_goesOn : ByteArray := prog_12_method_33_code
def yX10_goesOn : MethodName := ⟨RX10, "goesOn", "()Z"⟩
abbrev cX10_sum : ByteArray := prog_12_method_34_code
def yX10_sum : MethodName := ⟨RX10, "sum", "()V"⟩
abbrev cX10_opens : ByteArray := prog_12_method_35_code
def yX10_opens : MethodName := ⟨RX10, "opens", "(II)I"⟩
abbrev cX10_around : ByteArray := prog_12_method_36_code
def yX10_around : MethodName := ⟨RX10, "around", "(I)I"⟩
abbrev cX10_comes : ByteArray := prog_12_method_37_code
def yX10_comes : MethodName := ⟨RX10, "comes", "(I)I"⟩
abbrev cX10_sumOf : ByteArray := prog_12_method_38_code
def yX10_sumOf : MethodName := ⟨RX10, "sumOf", "(III)V"⟩
abbrev cX10_call : ByteArray := prog_12_method_39_code
def yX10_call : MethodName := ⟨RX10, "call", "(I)V"⟩
abbrev cX10_ofVar : ByteArray := prog_12_method_40_code
def yX10_ofVar : MethodName := ⟨RX10, "ofVar", "()V"⟩
abbrev cX10_ofRow : ByteArray := prog_12_method_41_code
def yX10_ofRow : MethodName := ⟨RX10, "ofRow", "()V"⟩
abbrev cX10_loopNumber : ByteArray := prog_12_method_42_code
def yX10_loopNumber : MethodName := ⟨RX10, "loopNumber", "(I)V"⟩
abbrev cX10_ofIf : ByteArray := prog_12_method_43_code
def yX10_ofIf : MethodName := ⟨RX10, "ofIf", "()V"⟩
abbrev cX10_ofWith : ByteArray := prog_12_method_44_code
def yX10_ofWith : MethodName := ⟨RX10, "ofWith", "()V"⟩
abbrev cX10_again : ByteArray := prog_12_method_45_code
def yX10_again : MethodName := ⟨RX10, "again", "(I)V"⟩
abbrev cX10_canBegin : ByteArray := prog_12_method_46_code
def yX10_canBegin : MethodName := ⟨RX10, "canBegin", "()Z"⟩
abbrev cX10_statement : ByteArray := prog_12_method_47_code
def yX10_statement : MethodName := ⟨RX10, "statement", "()V"⟩
abbrev cX10_ofCatch : ByteArray := prog_12_method_48_code
def yX10_ofCatch : MethodName := ⟨RX10, "ofCatch", "(I)V"⟩
abbrev cX10_closes : ByteArray := prog_12_method_49_code
def yX10_closes : MethodName := ⟨RX10, "closes", "()V"⟩
abbrev cX10_outside : ByteArray := prog_12_method_50_code
def yX10_outside : MethodName := ⟨RX10, "outside", "()V"⟩
abbrev cX10_reads : ByteArray := prog_12_method_51_code
def yX10_reads : MethodName := ⟨RX10, "reads", "()V"⟩
abbrev cX10_looks : ByteArray := prog_12_method_52_code
def yX10_looks : MethodName := ⟨RX10, "looks", "()V"⟩
abbrev cX10_compile : ByteArray := prog_12_method_53_code
def yX10_compile : MethodName := ⟨RX10, "compile", "(Z)I"⟩
abbrev cX10_fault : ByteArray := prog_12_method_54_code
def yX10_fault : MethodName := ⟨RX10, "fault", "()I"⟩
abbrev cX10_count : ByteArray := prog_12_method_55_code
def yX10_count : MethodName := ⟨RX10, "count", "(I)I"⟩
abbrev cX10_isStatement : ByteArray := prog_12_method_56_code
def yX10_isStatement : MethodName := ⟨RX10, "isStatement", "(I)Z"⟩
abbrev cX10_hasPart : ByteArray := prog_12_method_57_code
def yX10_hasPart : MethodName := ⟨RX10, "hasPart", "(II)Z"⟩
abbrev cX10_plan : ByteArray := prog_12_method_58_code
def yX10_plan : MethodName := ⟨RX10, "plan", "(IIII)I"⟩
abbrev cX10_clear : ByteArray := prog_12_method_59_code
def yX10_clear : MethodName := ⟨RX10, "clear", "()I"⟩
abbrev cX10_isAbove : ByteArray := prog_12_method_60_code
def yX10_isAbove : MethodName := ⟨RX10, "isAbove", "(II)Z"⟩
abbrev cX10_handler : ByteArray := prog_12_method_61_code
def yX10_handler : MethodName := ⟨RX10, "handler", "(II)I"⟩
abbrev cX10_takesStep : ByteArray := prog_12_method_62_code
def yX10_takesStep : MethodName := ⟨RX10, "takesStep", "()Z"⟩
abbrev cX10_tell : ByteArray := prog_12_method_63_code
def yX10_tell : MethodName := ⟨RX10, "tell", "(I)I"⟩
abbrev cX10_more : ByteArray := prog_12_method_64_code
def yX10_more : MethodName := ⟨RX10, "more", "(I)V"⟩
abbrev cX10_passes : ByteArray := prog_12_method_65_code
def yX10_passes : MethodName := ⟨RX10, "passes", "(II)I"⟩
abbrev cX10_makes : ByteArray := prog_12_method_66_code
def yX10_makes : MethodName := ⟨RX10, "makes", "(II)I"⟩
abbrev cX10_fail : ByteArray := prog_12_method_67_code
def yX10_fail : MethodName := ⟨RX10, "fail", "(I)V"⟩
abbrev cX10_signals : ByteArray := prog_12_method_68_code
def yX10_signals : MethodName := ⟨RX10, "signals", "(II)V"⟩
abbrev cX10_pushes : ByteArray := prog_12_method_69_code
def yX10_pushes : MethodName := ⟨RX10, "pushes", "(III)V"⟩
abbrev cX10_entersBlock : ByteArray := prog_12_method_70_code
def yX10_entersBlock : MethodName := ⟨RX10, "entersBlock", "(I)V"⟩
abbrev cX10_row : ByteArray := prog_12_method_71_code
def yX10_row : MethodName := ⟨RX10, "row", "(I)I"⟩
abbrev cX10_evalRow : ByteArray := prog_12_method_72_code
def yX10_evalRow : MethodName := ⟨RX10, "evalRow", "(II)I"⟩
abbrev cX10_sign : ByteArray := prog_12_method_73_code
def yX10_sign : MethodName := ⟨RX10, "sign", "(III)I"⟩
abbrev cX10_eval : ByteArray := prog_12_method_74_code
def yX10_eval : MethodName := ⟨RX10, "eval", "(III)I"⟩
abbrev cX10_beginsMethod : ByteArray := prog_12_method_75_code
def yX10_beginsMethod : MethodName := ⟨RX10, "beginsMethod", "(IIII)V"⟩
abbrev cX10_calls : ByteArray := prog_12_method_76_code
def yX10_calls : MethodName := ⟨RX10, "calls", "(I)V"⟩
abbrev cX10_setsRow : ByteArray := prog_12_method_77_code
def yX10_setsRow : MethodName := ⟨RX10, "setsRow", "(I)V"⟩
abbrev cX10_newRow : ByteArray := prog_12_method_78_code
def yX10_newRow : MethodName := ⟨RX10, "newRow", "(I)V"⟩
abbrev cX10_asks : ByteArray := prog_12_method_79_code
def yX10_asks : MethodName := ⟨RX10, "asks", "(I)V"⟩
abbrev cX10_loops : ByteArray := prog_12_method_80_code
def yX10_loops : MethodName := ⟨RX10, "loops", "(I)V"⟩
abbrev cX10_turns : ByteArray := prog_12_method_81_code
def yX10_turns : MethodName := ⟨RX10, "turns", "()V"⟩
abbrev cX10_taken : ByteArray := prog_12_method_82_code
def yX10_taken : MethodName := ⟨RX10, "taken", "()I"⟩
abbrev cX10_opensAll : ByteArray := prog_12_method_83_code
def yX10_opensAll : MethodName := ⟨RX10, "opensAll", "(I)V"⟩
abbrev cX10_does : ByteArray := prog_12_method_84_code
def yX10_does : MethodName := ⟨RX10, "does", "(I)V"⟩
abbrev cX10_suppresses : ByteArray := prog_12_method_85_code
def yX10_suppresses : MethodName := ⟨RX10, "suppresses", "(II)V"⟩
abbrev cX10_closesAll : ByteArray := prog_12_method_86_code
def yX10_closesAll : MethodName := ⟨RX10, "closesAll", "(I)V"⟩
abbrev cX10_catchFor : ByteArray := prog_12_method_87_code
def yX10_catchFor : MethodName := ⟨RX10, "catchFor", "(II)I"⟩
abbrev cX10_finishes : ByteArray := prog_12_method_88_code
def yX10_finishes : MethodName := ⟨RX10, "finishes", "(I)V"⟩
abbrev cX10_comesToGuard : ByteArray := prog_12_method_89_code
def yX10_comesToGuard : MethodName := ⟨RX10, "comesToGuard", "(I)V"⟩
abbrev cX10_comesToLoop : ByteArray := prog_12_method_90_code
def yX10_comesToLoop : MethodName := ⟨RX10, "comesToLoop", "(I)V"⟩
abbrev cX10_comesToMethod : ByteArray := prog_12_method_91_code
def yX10_comesToMethod : MethodName := ⟨RX10, "comesToMethod", "(I)V"⟩
abbrev cX10_goesOnce : ByteArray := prog_12_method_92_code
def yX10_goesOnce : MethodName := ⟨RX10, "goesOnce", "()V"⟩
abbrev cX10_runs : ByteArray := prog_12_method_93_code
def yX10_runs : MethodName := ⟨RX10, "runs", "(IIII)I"⟩
abbrev cX10_isMethod : ByteArray := prog_12_method_94_code
def yX10_isMethod : MethodName := ⟨RX10, "isMethod", "(I)Z"⟩
abbrev cX10_run : ByteArray := prog_12_method_95_code
def yX10_run : MethodName := ⟨RX10, "run", "(ZIIII)I"⟩
abbrev cX10_isRun : ByteArray := prog_12_method_96_code
def yX10_isRun : MethodName := ⟨RX10, "isRun", "(I)Z"⟩
abbrev cX10_ran : ByteArray := prog_12_method_97_code
def yX10_ran : MethodName := ⟨RX10, "ran", "(II)I"⟩
abbrev cX10_mark : ByteArray := prog_12_method_98_code
def yX10_mark : MethodName := ⟨RX10, "mark", "(II)I"⟩
abbrev cX10_failure : ByteArray := prog_12_method_99_code
def yX10_failure : MethodName := ⟨RX10, "failure", "(III)I"⟩
abbrev cX10_trace : ByteArray := prog_12_method_100_code
def yX10_trace : MethodName := ⟨RX10, "trace", "(III)I"⟩
abbrev cX10_closed : ByteArray := prog_12_method_101_code
def yX10_closed : MethodName := ⟨RX10, "closed", "(II)I"⟩
abbrev cX10_entered : ByteArray := prog_12_method_102_code
def yX10_entered : MethodName := ⟨RX10, "entered", "(II)I"⟩
abbrev cX10_notesWay : ByteArray := prog_12_method_103_code
def yX10_notesWay : MethodName := ⟨RX10, "notesWay", "()V"⟩
abbrev cX10_ways : ByteArray := prog_12_method_104_code
def yX10_ways : MethodName := ⟨RX10, "ways", "(III)I"⟩
abbrev cX10_same : ByteArray := prog_12_method_105_code
def yX10_same : MethodName := ⟨RX10, "same", "(III)I"⟩
def RJ11 : String := "java/lang/Character"
def TJ11 : u_T := fun k => match k with
  | _ => ("", "", "", false)
def tyJ11 : Nat → FieldType := fun k => match k with
  | _ => .int
abbrev wsJ110 : List Cond := u_ws RJ11 TJ11 0
theorem nmJ11 : ∀ a, a < 0 → ∀ b, b < 0 → a ≠ b → (TJ11 a).2.1 ≠ (TJ11 b).2.1 := by decide +kernel
theorem tyJ11_ok : ∀ k, k < 0 → parseFieldDescriptor (TJ11 k).2.2.1 = some (tyJ11 k) := by decide +kernel
abbrev cJ11_isValidCodePoint_9a6ad : ByteArray := prog_13_method_11_code
def yJ11_isValidCodePoint_9a6ad : MethodName := ⟨RJ11, "isValidCodePoint", "(I)Z"⟩
abbrev cJ11_highSurrogate_5068e : ByteArray := prog_13_method_28_code
def yJ11_highSurrogate_5068e : MethodName := ⟨RJ11, "highSurrogate", "(I)C"⟩
abbrev cJ11_lowSurrogate_5068e : ByteArray := prog_13_method_29_code
def yJ11_lowSurrogate_5068e : MethodName := ⟨RJ11, "lowSurrogate", "(I)C"⟩
def RJ9 : String := "java/lang/Math"
def TJ9 : u_T := fun k => match k with
  | _ => ("", "", "", false)
def tyJ9 : Nat → FieldType := fun k => match k with
  | _ => .int
abbrev wsJ90 : List Cond := u_ws RJ9 TJ9 0
theorem nmJ9 : ∀ a, a < 0 → ∀ b, b < 0 → a ≠ b → (TJ9 a).2.1 ≠ (TJ9 b).2.1 := by decide +kernel
theorem tyJ9_ok : ∀ k, k < 0 → parseFieldDescriptor (TJ9 k).2.2.1 = some (tyJ9 k) := by decide +kernel
abbrev cJ9_max_7cf53 : ByteArray := prog_14_method_65_code
def yJ9_max_7cf53 : MethodName := ⟨RJ9, "max", "(II)I"⟩
abbrev cJ9_min_7cf53 : ByteArray := prog_14_method_69_code
def yJ9_min_7cf53 : MethodName := ⟨RJ9, "min", "(II)I"⟩
def RJ0 : String := "java/lang/String"
def TJ0 : u_T := fun k => match k with
  | _ => ("", "", "", false)
def tyJ0 : Nat → FieldType := fun k => match k with
  | _ => .int
abbrev wsJ00 : List Cond := u_ws RJ0 TJ0 0
theorem nmJ0 : ∀ a, a < 0 → ∀ b, b < 0 → a ≠ b → (TJ0 a).2.1 ≠ (TJ0 b).2.1 := by decide +kernel
theorem tyJ0_ok : ∀ k, k < 0 → parseFieldDescriptor (TJ0 k).2.2.1 = some (tyJ0 k) := by decide +kernel
abbrev cJ0_length_8abf5 : ByteArray := prog_15_method_54_code
def yJ0_length_8abf5 : MethodName := ⟨RJ0, "length", "()I"⟩
abbrev cJ0_charAt_5068e : ByteArray := prog_15_method_56_code
def yJ0_charAt_5068e : MethodName := ⟨RJ0, "charAt", "(I)C"⟩
abbrev cJ0_indexOf_0f7a4 : ByteArray := prog_15_method_79_code
def yJ0_indexOf_0f7a4 : MethodName := ⟨RJ0, "indexOf", "(I)I"⟩
abbrev cJ0_indexOf_7cf53 : ByteArray := prog_15_method_80_code
def yJ0_indexOf_7cf53 : MethodName := ⟨RJ0, "indexOf", "(II)I"⟩
abbrev cJ0_coder_7d493 : ByteArray := prog_15_method_152_code
def yJ0_coder_7d493 : MethodName := ⟨RJ0, "coder", "()B"⟩
abbrev cJ0_isLatin1_aae02 : ByteArray := prog_15_method_154_code
def yJ0_isLatin1_aae02 : MethodName := ⟨RJ0, "isLatin1", "()Z"⟩
abbrev cJ0_checkIndex_df160 : ByteArray := prog_15_method_155_code
def yJ0_checkIndex_df160 : MethodName := ⟨RJ0, "checkIndex", "(II)V"⟩
abbrev cJ0_checkBoundsBeginEnd_23922 : ByteArray := prog_15_method_158_code
def yJ0_checkBoundsBeginEnd_23922 : MethodName := ⟨RJ0, "checkBoundsBeginEnd", "(III)V"⟩
def RJ1 : String := "java/lang/StringLatin1"
def TJ1 : u_T := fun k => match k with
  | _ => ("", "", "", false)
def tyJ1 : Nat → FieldType := fun k => match k with
  | _ => .int
abbrev wsJ10 : List Cond := u_ws RJ1 TJ1 0
theorem nmJ1 : ∀ a, a < 0 → ∀ b, b < 0 → a ≠ b → (TJ1 a).2.1 ≠ (TJ1 b).2.1 := by decide +kernel
theorem tyJ1_ok : ∀ k, k < 0 → parseFieldDescriptor (TJ1 k).2.2.1 = some (tyJ1 k) := by decide +kernel
abbrev cJ1_charAt_3b067 : ByteArray := prog_16_method_2_code
def yJ1_charAt_3b067 : MethodName := ⟨RJ1, "charAt", "([BI)C"⟩
abbrev cJ1_canEncode_9a6ad : ByteArray := prog_16_method_4_code
def yJ1_canEncode_9a6ad : MethodName := ⟨RJ1, "canEncode", "(I)Z"⟩
abbrev cJ1_indexOf_4cfef : ByteArray := prog_16_method_22_code
def yJ1_indexOf_4cfef : MethodName := ⟨RJ1, "indexOf", "([BIII)I"⟩
abbrev cJ1_indexOfChar_4cfef : ByteArray := prog_16_method_23_code
def yJ1_indexOfChar_4cfef : MethodName := ⟨RJ1, "indexOfChar", "([BIII)I"⟩
def RJ2 : String := "java/lang/StringUTF16"
def TJ2 : u_T := fun k => match k with
  | _ => ("", "", "", false)
def tyJ2 : Nat → FieldType := fun k => match k with
  | _ => .int
abbrev wsJ20 : List Cond := u_ws RJ2 TJ2 0
theorem nmJ2 : ∀ a, a < 0 → ∀ b, b < 0 → a ≠ b → (TJ2 a).2.1 ≠ (TJ2 b).2.1 := by decide +kernel
theorem tyJ2_ok : ∀ k, k < 0 → parseFieldDescriptor (TJ2 k).2.2.1 = some (tyJ2 k) := by decide +kernel
abbrev cJ2_getChar_3b067 : ByteArray := prog_17_method_5_code
def yJ2_getChar_3b067 : MethodName := ⟨RJ2, "getChar", "([BI)C"⟩
abbrev cJ2_length_9d52b : ByteArray := prog_17_method_6_code
def yJ2_length_9d52b : MethodName := ⟨RJ2, "length", "([B)I"⟩
abbrev cJ2_indexOf_4cfef : ByteArray := prog_17_method_40_code
def yJ2_indexOf_4cfef : MethodName := ⟨RJ2, "indexOf", "([BIII)I"⟩
abbrev cJ2_indexOfChar_4cfef : ByteArray := prog_17_method_47_code
def yJ2_indexOfChar_4cfef : MethodName := ⟨RJ2, "indexOfChar", "([BIII)I"⟩
abbrev cJ2_indexOfCharUnsafe_4cfef : ByteArray := prog_17_method_48_code
def yJ2_indexOfCharUnsafe_4cfef : MethodName := ⟨RJ2, "indexOfCharUnsafe", "([BIII)I"⟩
abbrev cJ2_indexOfSupplementary_4cfef : ByteArray := prog_17_method_49_code
def yJ2_indexOfSupplementary_4cfef : MethodName := ⟨RJ2, "indexOfSupplementary", "([BIII)I"⟩
abbrev cJ2_charAt_3b067 : ByteArray := prog_17_method_83_code
def yJ2_charAt_3b067 : MethodName := ⟨RJ2, "charAt", "([BI)C"⟩
abbrev cJ2_checkIndex_2214a : ByteArray := prog_17_method_91_code
def yJ2_checkIndex_2214a : MethodName := ⟨RJ2, "checkIndex", "(I[B)V"⟩
abbrev cJ2_checkBoundsBeginEnd_d044e : ByteArray := prog_17_method_93_code
def yJ2_checkBoundsBeginEnd_d044e : MethodName := ⟨RJ2, "checkBoundsBeginEnd", "(II[B)V"⟩
def RJ3 : String := "jdk/internal/util/Preconditions"
def TJ3 : u_T := fun k => match k with
  | _ => ("", "", "", false)
def tyJ3 : Nat → FieldType := fun k => match k with
  | _ => .int
abbrev wsJ30 : List Cond := u_ws RJ3 TJ3 0
theorem nmJ3 : ∀ a, a < 0 → ∀ b, b < 0 → a ≠ b → (TJ3 a).2.1 ≠ (TJ3 b).2.1 := by decide +kernel
theorem tyJ3_ok : ∀ k, k < 0 → parseFieldDescriptor (TJ3 k).2.2.1 = some (tyJ3 k) := by decide +kernel
abbrev cJ3_checkIndex_8e157 : ByteArray := prog_18_method_11_code
def yJ3_checkIndex_8e157 : MethodName := ⟨RJ3, "checkIndex", "(IILjava/util/function/BiFunction;)I"⟩
abbrev cJ3_checkFromToIndex_8c36e : ByteArray := prog_18_method_12_code
def yJ3_checkFromToIndex_8c36e : MethodName := ⟨RJ3, "checkFromToIndex", "(IIILjava/util/function/BiFunction;)I"⟩
def RL : String := "WaysAtlasLaw"
abbrev cL_law : ByteArray := code
def yL_law : MethodName := ⟨RL, "law", "([I)Z"⟩
abbrev vwCl : List vw_C := [(RX0, TX0, 8), (RX1, TX1, 7), (RX2, TX2, 5), (RX3, TX3, 12), (RX4, TX4, 12), (RX5, TX5, 2), (RX6, TX6, 4), (RX7, TX7, 7), (RX8, TX8, 11), (RX9, TX9, 17), (RX10, TX10, 96)]
/-- all words of the tables that may be handed on to a callee -/
def wsL_law : List Cond := lw_tbl.filter goodWord
theorem vz_in {w : Cond} (h : w ∈ lw_tbl) (hg : goodWord w = true) : w ∈ wsL_law := List.mem_filter.mpr ⟨h, hg⟩
theorem wsL_law_in : ∀ w ∈ wsL_law, w ∈ lw_tbl := fun w h => (List.mem_filter.mp h).1
theorem gdL : GoodIn lw_tbl wsL_law := fun w h => ⟨(List.mem_filter.mp h).1, good_of_word (List.mem_filter.mp h).2⟩
theorem mT_1 {w : Cond} (h : w ∈ tables_1_1) (hg : goodWord w = true) : w ∈ wsL_law := vz_in (List.mem_append_right _ (List.mem_append_left _ h)) hg
theorem mT_2 {w : Cond} (h : w ∈ tables_1_2) (hg : goodWord w = true) : w ∈ wsL_law := vz_in (List.mem_append_right _ (List.mem_append_right _ (List.mem_append_left _ h))) hg
theorem mT_3 {w : Cond} (h : w ∈ tables_1_3) (hg : goodWord w = true) : w ∈ wsL_law := vz_in (List.mem_append_right _ (List.mem_append_right _ (List.mem_append_right _ (List.mem_append_left _ h)))) hg
theorem mT_4 {w : Cond} (h : w ∈ tables_1_4) (hg : goodWord w = true) : w ∈ wsL_law := vz_in (List.mem_append_right _ (List.mem_append_right _ (List.mem_append_right _ (List.mem_append_right _ (List.mem_append_left _ h))))) hg
theorem mT_5 {w : Cond} (h : w ∈ tables_1_5) (hg : goodWord w = true) : w ∈ wsL_law := vz_in (List.mem_append_right _ (List.mem_append_right _ (List.mem_append_right _ (List.mem_append_right _ (List.mem_append_right _ (List.mem_append_left _ h)))))) hg
theorem mT_6 {w : Cond} (h : w ∈ tables_1_6) (hg : goodWord w = true) : w ∈ wsL_law := vz_in (List.mem_append_right _ (List.mem_append_right _ (List.mem_append_right _ (List.mem_append_right _ (List.mem_append_right _ (List.mem_append_right _ (List.mem_append_left _ h))))))) hg
theorem mT_7 {w : Cond} (h : w ∈ tables_1_7) (hg : goodWord w = true) : w ∈ wsL_law := vz_in (List.mem_append_right _ (List.mem_append_right _ (List.mem_append_right _ (List.mem_append_right _ (List.mem_append_right _ (List.mem_append_right _ (List.mem_append_right _ (List.mem_append_left _ h)))))))) hg
theorem mT_8 {w : Cond} (h : w ∈ tables_1_8) (hg : goodWord w = true) : w ∈ wsL_law := vz_in (List.mem_append_right _ (List.mem_append_right _ (List.mem_append_right _ (List.mem_append_right _ (List.mem_append_right _ (List.mem_append_right _ (List.mem_append_right _ (List.mem_append_right _ (List.mem_append_left _ h))))))))) hg
theorem mT_9 {w : Cond} (h : w ∈ tables_1_9) (hg : goodWord w = true) : w ∈ wsL_law := vz_in (List.mem_append_right _ (List.mem_append_right _ (List.mem_append_right _ (List.mem_append_right _ (List.mem_append_right _ (List.mem_append_right _ (List.mem_append_right _ (List.mem_append_right _ (List.mem_append_right _ h))))))))) hg
theorem mS_1 {q : MethodName × Nat} (h : q ∈ lw_privs_1) (hg : goodWord (Cond.selects q.1.cls q.1 q.1) = true) : Cond.selects q.1.cls q.1 q.1 ∈ wsL_law := vz_in (List.mem_append_left _ (List.mem_map.mpr ⟨q, (List.mem_append_left _ h), rfl⟩)) hg
theorem mS_2 {q : MethodName × Nat} (h : q ∈ lw_privs_2) (hg : goodWord (Cond.selects q.1.cls q.1 q.1) = true) : Cond.selects q.1.cls q.1 q.1 ∈ wsL_law := vz_in (List.mem_append_left _ (List.mem_map.mpr ⟨q, (List.mem_append_right _ (List.mem_append_left _ h)), rfl⟩)) hg
theorem mS_3 {q : MethodName × Nat} (h : q ∈ lw_privs_3) (hg : goodWord (Cond.selects q.1.cls q.1 q.1) = true) : Cond.selects q.1.cls q.1 q.1 ∈ wsL_law := vz_in (List.mem_append_left _ (List.mem_map.mpr ⟨q, (List.mem_append_right _ (List.mem_append_right _ (List.mem_append_left _ h))), rfl⟩)) hg
theorem mS_4 {q : MethodName × Nat} (h : q ∈ lw_privs_4) (hg : goodWord (Cond.selects q.1.cls q.1 q.1) = true) : Cond.selects q.1.cls q.1 q.1 ∈ wsL_law := vz_in (List.mem_append_left _ (List.mem_map.mpr ⟨q, (List.mem_append_right _ (List.mem_append_right _ (List.mem_append_right _ (List.mem_append_left _ h)))), rfl⟩)) hg
theorem mS_5 {q : MethodName × Nat} (h : q ∈ lw_privs_5) (hg : goodWord (Cond.selects q.1.cls q.1 q.1) = true) : Cond.selects q.1.cls q.1 q.1 ∈ wsL_law := vz_in (List.mem_append_left _ (List.mem_map.mpr ⟨q, (List.mem_append_right _ (List.mem_append_right _ (List.mem_append_right _ (List.mem_append_right _ (List.mem_append_left _ h))))), rfl⟩)) hg
theorem mS_6 {q : MethodName × Nat} (h : q ∈ lw_privs_6) (hg : goodWord (Cond.selects q.1.cls q.1 q.1) = true) : Cond.selects q.1.cls q.1 q.1 ∈ wsL_law := vz_in (List.mem_append_left _ (List.mem_map.mpr ⟨q, (List.mem_append_right _ (List.mem_append_right _ (List.mem_append_right _ (List.mem_append_right _ (List.mem_append_right _ (List.mem_append_left _ h)))))), rfl⟩)) hg
theorem mS_7 {q : MethodName × Nat} (h : q ∈ lw_privs_7) (hg : goodWord (Cond.selects q.1.cls q.1 q.1) = true) : Cond.selects q.1.cls q.1 q.1 ∈ wsL_law := vz_in (List.mem_append_left _ (List.mem_map.mpr ⟨q, (List.mem_append_right _ (List.mem_append_right _ (List.mem_append_right _ (List.mem_append_right _ (List.mem_append_right _ (List.mem_append_right _ (List.mem_append_left _ h))))))), rfl⟩)) hg
theorem mS_8 {q : MethodName × Nat} (h : q ∈ lw_privs_8) (hg : goodWord (Cond.selects q.1.cls q.1 q.1) = true) : Cond.selects q.1.cls q.1 q.1 ∈ wsL_law := vz_in (List.mem_append_left _ (List.mem_map.mpr ⟨q, (List.mem_append_right _ (List.mem_append_right _ (List.mem_append_right _ (List.mem_append_right _ (List.mem_append_right _ (List.mem_append_right _ (List.mem_append_right _ (List.mem_append_left _ h)))))))), rfl⟩)) hg
theorem mS_9 {q : MethodName × Nat} (h : q ∈ lw_privs_9) (hg : goodWord (Cond.selects q.1.cls q.1 q.1) = true) : Cond.selects q.1.cls q.1 q.1 ∈ wsL_law := vz_in (List.mem_append_left _ (List.mem_map.mpr ⟨q, (List.mem_append_right _ (List.mem_append_right _ (List.mem_append_right _ (List.mem_append_right _ (List.mem_append_right _ (List.mem_append_right _ (List.mem_append_right _ (List.mem_append_right _ (List.mem_append_left _ h))))))))), rfl⟩)) hg
theorem mS_10 {q : MethodName × Nat} (h : q ∈ lw_privs_10) (hg : goodWord (Cond.selects q.1.cls q.1 q.1) = true) : Cond.selects q.1.cls q.1 q.1 ∈ wsL_law := vz_in (List.mem_append_left _ (List.mem_map.mpr ⟨q, (List.mem_append_right _ (List.mem_append_right _ (List.mem_append_right _ (List.mem_append_right _ (List.mem_append_right _ (List.mem_append_right _ (List.mem_append_right _ (List.mem_append_right _ (List.mem_append_right _ (List.mem_append_left _ h)))))))))), rfl⟩)) hg
theorem mS_11 {q : MethodName × Nat} (h : q ∈ lw_privs_11) (hg : goodWord (Cond.selects q.1.cls q.1 q.1) = true) : Cond.selects q.1.cls q.1 q.1 ∈ wsL_law := vz_in (List.mem_append_left _ (List.mem_map.mpr ⟨q, (List.mem_append_right _ (List.mem_append_right _ (List.mem_append_right _ (List.mem_append_right _ (List.mem_append_right _ (List.mem_append_right _ (List.mem_append_right _ (List.mem_append_right _ (List.mem_append_right _ (List.mem_append_right _ (List.mem_append_left _ h))))))))))), rfl⟩)) hg
theorem mS_12 {q : MethodName × Nat} (h : q ∈ lw_privs_12) (hg : goodWord (Cond.selects q.1.cls q.1 q.1) = true) : Cond.selects q.1.cls q.1 q.1 ∈ wsL_law := vz_in (List.mem_append_left _ (List.mem_map.mpr ⟨q, (List.mem_append_right _ (List.mem_append_right _ (List.mem_append_right _ (List.mem_append_right _ (List.mem_append_right _ (List.mem_append_right _ (List.mem_append_right _ (List.mem_append_right _ (List.mem_append_right _ (List.mem_append_right _ (List.mem_append_right _ h))))))))))), rfl⟩)) hg
theorem kinX0 : ∀ k, k < 8 → u_lay RX0 TX0 k ∈ wsL_law := lt_s (lt_s (lt_s (lt_s (lt_s (lt_s (lt_s (lt_s (lt_0) (mT_1 (List.mem_of_getElem? (i := 181) rfl) rfl)) (mT_1 (List.mem_of_getElem? (i := 183) rfl) rfl)) (mT_1 (List.mem_of_getElem? (i := 185) rfl) rfl)) (mT_1 (List.mem_of_getElem? (i := 187) rfl) rfl)) (mT_1 (List.mem_of_getElem? (i := 189) rfl) rfl)) (mT_1 (List.mem_of_getElem? (i := 191) rfl) rfl)) (mT_1 (List.mem_of_getElem? (i := 193) rfl) rfl)) (mT_1 (List.mem_of_getElem? (i := 195) rfl) rfl)
theorem inlX0 : ∀ w ∈ wsX00, w ∈ wsL_law := fun w h => by
  obtain ⟨k, hk, rfl⟩ := List.mem_map.mp h
  exact kinX0 k (List.mem_range.mp hk)
theorem inX0 : ∀ w ∈ wsX00, w ∈ lw_tbl := fun w h => wsL_law_in w (inlX0 w h)
theorem kinX1 : ∀ k, k < 7 → u_lay RX1 TX1 k ∈ wsL_law := lt_s (lt_s (lt_s (lt_s (lt_s (lt_s (lt_s (lt_0) (mT_2 (List.mem_of_getElem? (i := 123) rfl) rfl)) (mT_2 (List.mem_of_getElem? (i := 125) rfl) rfl)) (mT_2 (List.mem_of_getElem? (i := 127) rfl) rfl)) (mT_2 (List.mem_of_getElem? (i := 129) rfl) rfl)) (mT_2 (List.mem_of_getElem? (i := 131) rfl) rfl)) (mT_2 (List.mem_of_getElem? (i := 133) rfl) rfl)) (mT_2 (List.mem_of_getElem? (i := 135) rfl) rfl)
theorem inlX1 : ∀ w ∈ wsX10, w ∈ wsL_law := fun w h => by
  obtain ⟨k, hk, rfl⟩ := List.mem_map.mp h
  exact kinX1 k (List.mem_range.mp hk)
theorem inX1 : ∀ w ∈ wsX10, w ∈ lw_tbl := fun w h => wsL_law_in w (inlX1 w h)
theorem kinX2 : ∀ k, k < 5 → u_lay RX2 TX2 k ∈ wsL_law := lt_s (lt_s (lt_s (lt_s (lt_s (lt_0) (mT_1 (List.mem_of_getElem? (i := 105) rfl) rfl)) (mT_1 (List.mem_of_getElem? (i := 107) rfl) rfl)) (mT_1 (List.mem_of_getElem? (i := 109) rfl) rfl)) (mT_1 (List.mem_of_getElem? (i := 111) rfl) rfl)) (mT_1 (List.mem_of_getElem? (i := 113) rfl) rfl)
theorem inlX2 : ∀ w ∈ wsX20, w ∈ wsL_law := fun w h => by
  obtain ⟨k, hk, rfl⟩ := List.mem_map.mp h
  exact kinX2 k (List.mem_range.mp hk)
theorem inX2 : ∀ w ∈ wsX20, w ∈ lw_tbl := fun w h => wsL_law_in w (inlX2 w h)
theorem kinX3 : ∀ k, k < 12 → u_lay RX3 TX3 k ∈ wsL_law := lt_s (lt_s (lt_s (lt_s (lt_s (lt_s (lt_s (lt_s (lt_s (lt_s (lt_s (lt_s (lt_0) (mT_1 (List.mem_of_getElem? (i := 138) rfl) rfl)) (mT_1 (List.mem_of_getElem? (i := 140) rfl) rfl)) (mT_1 (List.mem_of_getElem? (i := 142) rfl) rfl)) (mT_1 (List.mem_of_getElem? (i := 144) rfl) rfl)) (mT_1 (List.mem_of_getElem? (i := 146) rfl) rfl)) (mT_1 (List.mem_of_getElem? (i := 148) rfl) rfl)) (mT_1 (List.mem_of_getElem? (i := 150) rfl) rfl)) (mT_1 (List.mem_of_getElem? (i := 152) rfl) rfl)) (mT_1 (List.mem_of_getElem? (i := 154) rfl) rfl)) (mT_1 (List.mem_of_getElem? (i := 156) rfl) rfl)) (mT_1 (List.mem_of_getElem? (i := 158) rfl) rfl)) (mT_1 (List.mem_of_getElem? (i := 160) rfl) rfl)
theorem inlX3 : ∀ w ∈ wsX30, w ∈ wsL_law := fun w h => by
  obtain ⟨k, hk, rfl⟩ := List.mem_map.mp h
  exact kinX3 k (List.mem_range.mp hk)
theorem inX3 : ∀ w ∈ wsX30, w ∈ lw_tbl := fun w h => wsL_law_in w (inlX3 w h)
theorem kinX4 : ∀ k, k < 12 → u_lay RX4 TX4 k ∈ wsL_law := lt_s (lt_s (lt_s (lt_s (lt_s (lt_s (lt_s (lt_s (lt_s (lt_s (lt_s (lt_s (lt_0) (mT_1 (List.mem_of_getElem? (i := 238) rfl) rfl)) (mT_2 (List.mem_of_getElem? (i := 0) rfl) rfl)) (mT_2 (List.mem_of_getElem? (i := 2) rfl) rfl)) (mT_2 (List.mem_of_getElem? (i := 4) rfl) rfl)) (mT_2 (List.mem_of_getElem? (i := 6) rfl) rfl)) (mT_2 (List.mem_of_getElem? (i := 8) rfl) rfl)) (mT_2 (List.mem_of_getElem? (i := 10) rfl) rfl)) (mT_2 (List.mem_of_getElem? (i := 12) rfl) rfl)) (mT_2 (List.mem_of_getElem? (i := 14) rfl) rfl)) (mT_2 (List.mem_of_getElem? (i := 16) rfl) rfl)) (mT_2 (List.mem_of_getElem? (i := 18) rfl) rfl)) (mT_2 (List.mem_of_getElem? (i := 20) rfl) rfl)
theorem inlX4 : ∀ w ∈ wsX40, w ∈ wsL_law := fun w h => by
  obtain ⟨k, hk, rfl⟩ := List.mem_map.mp h
  exact kinX4 k (List.mem_range.mp hk)
theorem inX4 : ∀ w ∈ wsX40, w ∈ lw_tbl := fun w h => wsL_law_in w (inlX4 w h)
theorem kinX5 : ∀ k, k < 2 → u_lay RX5 TX5 k ∈ wsL_law := lt_s (lt_s (lt_0) (mT_1 (List.mem_of_getElem? (i := 67) rfl) rfl)) (mT_1 (List.mem_of_getElem? (i := 69) rfl) rfl)
theorem inlX5 : ∀ w ∈ wsX50, w ∈ wsL_law := fun w h => by
  obtain ⟨k, hk, rfl⟩ := List.mem_map.mp h
  exact kinX5 k (List.mem_range.mp hk)
theorem inX5 : ∀ w ∈ wsX50, w ∈ lw_tbl := fun w h => wsL_law_in w (inlX5 w h)
theorem kinX6 : ∀ k, k < 4 → u_lay RX6 TX6 k ∈ wsL_law := lt_s (lt_s (lt_s (lt_s (lt_0) (mT_1 (List.mem_of_getElem? (i := 46) rfl) rfl)) (mT_1 (List.mem_of_getElem? (i := 48) rfl) rfl)) (mT_1 (List.mem_of_getElem? (i := 50) rfl) rfl)) (mT_1 (List.mem_of_getElem? (i := 52) rfl) rfl)
theorem inlX6 : ∀ w ∈ wsX60, w ∈ wsL_law := fun w h => by
  obtain ⟨k, hk, rfl⟩ := List.mem_map.mp h
  exact kinX6 k (List.mem_range.mp hk)
theorem inX6 : ∀ w ∈ wsX60, w ∈ lw_tbl := fun w h => wsL_law_in w (inlX6 w h)
theorem kinX7 : ∀ k, k < 7 → u_lay RX7 TX7 k ∈ wsL_law := lt_s (lt_s (lt_s (lt_s (lt_s (lt_s (lt_s (lt_0) (mT_2 (List.mem_of_getElem? (i := 93) rfl) rfl)) (mT_2 (List.mem_of_getElem? (i := 95) rfl) rfl)) (mT_2 (List.mem_of_getElem? (i := 97) rfl) rfl)) (mT_2 (List.mem_of_getElem? (i := 99) rfl) rfl)) (mT_2 (List.mem_of_getElem? (i := 101) rfl) rfl)) (mT_2 (List.mem_of_getElem? (i := 103) rfl) rfl)) (mT_2 (List.mem_of_getElem? (i := 105) rfl) rfl)
theorem inlX7 : ∀ w ∈ wsX70, w ∈ wsL_law := fun w h => by
  obtain ⟨k, hk, rfl⟩ := List.mem_map.mp h
  exact kinX7 k (List.mem_range.mp hk)
theorem inX7 : ∀ w ∈ wsX70, w ∈ lw_tbl := fun w h => wsL_law_in w (inlX7 w h)
theorem kinX8 : ∀ k, k < 11 → u_lay RX8 TX8 k ∈ wsL_law := lt_s (lt_s (lt_s (lt_s (lt_s (lt_s (lt_s (lt_s (lt_s (lt_s (lt_s (lt_0) (mT_2 (List.mem_of_getElem? (i := 57) rfl) rfl)) (mT_2 (List.mem_of_getElem? (i := 59) rfl) rfl)) (mT_2 (List.mem_of_getElem? (i := 61) rfl) rfl)) (mT_2 (List.mem_of_getElem? (i := 63) rfl) rfl)) (mT_2 (List.mem_of_getElem? (i := 65) rfl) rfl)) (mT_2 (List.mem_of_getElem? (i := 67) rfl) rfl)) (mT_2 (List.mem_of_getElem? (i := 69) rfl) rfl)) (mT_2 (List.mem_of_getElem? (i := 71) rfl) rfl)) (mT_2 (List.mem_of_getElem? (i := 73) rfl) rfl)) (mT_2 (List.mem_of_getElem? (i := 75) rfl) rfl)) (mT_2 (List.mem_of_getElem? (i := 77) rfl) rfl)
theorem inlX8 : ∀ w ∈ wsX80, w ∈ wsL_law := fun w h => by
  obtain ⟨k, hk, rfl⟩ := List.mem_map.mp h
  exact kinX8 k (List.mem_range.mp hk)
theorem inX8 : ∀ w ∈ wsX80, w ∈ lw_tbl := fun w h => wsL_law_in w (inlX8 w h)
theorem kinX9 : ∀ k, k < 17 → u_lay RX9 TX9 k ∈ wsL_law := lt_s (lt_s (lt_s (lt_s (lt_s (lt_s (lt_s (lt_s (lt_s (lt_s (lt_s (lt_s (lt_s (lt_s (lt_s (lt_s (lt_s (lt_0) (mT_2 (List.mem_of_getElem? (i := 155) rfl) rfl)) (mT_2 (List.mem_of_getElem? (i := 157) rfl) rfl)) (mT_2 (List.mem_of_getElem? (i := 159) rfl) rfl)) (mT_2 (List.mem_of_getElem? (i := 161) rfl) rfl)) (mT_2 (List.mem_of_getElem? (i := 163) rfl) rfl)) (mT_2 (List.mem_of_getElem? (i := 165) rfl) rfl)) (mT_2 (List.mem_of_getElem? (i := 167) rfl) rfl)) (mT_2 (List.mem_of_getElem? (i := 169) rfl) rfl)) (mT_2 (List.mem_of_getElem? (i := 171) rfl) rfl)) (mT_2 (List.mem_of_getElem? (i := 173) rfl) rfl)) (mT_2 (List.mem_of_getElem? (i := 175) rfl) rfl)) (mT_2 (List.mem_of_getElem? (i := 177) rfl) rfl)) (mT_2 (List.mem_of_getElem? (i := 179) rfl) rfl)) (mT_2 (List.mem_of_getElem? (i := 181) rfl) rfl)) (mT_2 (List.mem_of_getElem? (i := 183) rfl) rfl)) (mT_2 (List.mem_of_getElem? (i := 185) rfl) rfl)) (mT_2 (List.mem_of_getElem? (i := 187) rfl) rfl)
theorem inlX9 : ∀ w ∈ wsX90, w ∈ wsL_law := fun w h => by
  obtain ⟨k, hk, rfl⟩ := List.mem_map.mp h
  exact kinX9 k (List.mem_range.mp hk)
theorem inX9 : ∀ w ∈ wsX90, w ∈ lw_tbl := fun w h => wsL_law_in w (inlX9 w h)
theorem kinX10 : ∀ k, k < 96 → u_lay RX10 TX10 k ∈ wsL_law := lt_s (lt_s (lt_s (lt_s (lt_s (lt_s (lt_s (lt_s (lt_s (lt_s (lt_s (lt_s (lt_s (lt_s (lt_s (lt_s (lt_s (lt_s (lt_s (lt_s (lt_s (lt_s (lt_s (lt_s (lt_s (lt_s (lt_s (lt_s (lt_s (lt_s (lt_s (lt_s (lt_s (lt_s (lt_s (lt_s (lt_s (lt_s (lt_s (lt_s (lt_s (lt_s (lt_s (lt_s (lt_s (lt_s (lt_s (lt_s (lt_s (lt_s (lt_s (lt_s (lt_s (lt_s (lt_s (lt_s (lt_s (lt_s (lt_s (lt_s (lt_s (lt_s (lt_s (lt_s (lt_s (lt_s (lt_s (lt_s (lt_s (lt_s (lt_s (lt_s (lt_s (lt_s (lt_s (lt_s (lt_s (lt_s (lt_s (lt_s (lt_s (lt_s (lt_s (lt_s (lt_s (lt_s (lt_s (lt_s (lt_s (lt_s (lt_s (lt_s (lt_s (lt_s (lt_s (lt_s (lt_0) (mT_6 (List.mem_of_getElem? (i := 207) rfl) rfl)) (mT_6 (List.mem_of_getElem? (i := 209) rfl) rfl)) (mT_6 (List.mem_of_getElem? (i := 211) rfl) rfl)) (mT_6 (List.mem_of_getElem? (i := 213) rfl) rfl)) (mT_6 (List.mem_of_getElem? (i := 215) rfl) rfl)) (mT_6 (List.mem_of_getElem? (i := 217) rfl) rfl)) (mT_6 (List.mem_of_getElem? (i := 219) rfl) rfl)) (mT_6 (List.mem_of_getElem? (i := 221) rfl) rfl)) (mT_6 (List.mem_of_getElem? (i := 223) rfl) rfl)) (mT_6 (List.mem_of_getElem? (i := 225) rfl) rfl)) (mT_6 (List.mem_of_getElem? (i := 227) rfl) rfl)) (mT_6 (List.mem_of_getElem? (i := 229) rfl) rfl)) (mT_6 (List.mem_of_getElem? (i := 231) rfl) rfl)) (mT_6 (List.mem_of_getElem? (i := 233) rfl) rfl)) (mT_6 (List.mem_of_getElem? (i := 235) rfl) rfl)) (mT_6 (List.mem_of_getElem? (i := 237) rfl) rfl)) (mT_6 (List.mem_of_getElem? (i := 239) rfl) rfl)) (mT_7 (List.mem_of_getElem? (i := 1) rfl) rfl)) (mT_7 (List.mem_of_getElem? (i := 3) rfl) rfl)) (mT_7 (List.mem_of_getElem? (i := 5) rfl) rfl)) (mT_7 (List.mem_of_getElem? (i := 7) rfl) rfl)) (mT_7 (List.mem_of_getElem? (i := 9) rfl) rfl)) (mT_7 (List.mem_of_getElem? (i := 11) rfl) rfl)) (mT_7 (List.mem_of_getElem? (i := 13) rfl) rfl)) (mT_7 (List.mem_of_getElem? (i := 15) rfl) rfl)) (mT_7 (List.mem_of_getElem? (i := 17) rfl) rfl)) (mT_7 (List.mem_of_getElem? (i := 19) rfl) rfl)) (mT_7 (List.mem_of_getElem? (i := 21) rfl) rfl)) (mT_7 (List.mem_of_getElem? (i := 23) rfl) rfl)) (mT_7 (List.mem_of_getElem? (i := 25) rfl) rfl)) (mT_7 (List.mem_of_getElem? (i := 27) rfl) rfl)) (mT_7 (List.mem_of_getElem? (i := 29) rfl) rfl)) (mT_7 (List.mem_of_getElem? (i := 31) rfl) rfl)) (mT_7 (List.mem_of_getElem? (i := 33) rfl) rfl)) (mT_7 (List.mem_of_getElem? (i := 35) rfl) rfl)) (mT_7 (List.mem_of_getElem? (i := 37) rfl) rfl)) (mT_7 (List.mem_of_getElem? (i := 39) rfl) rfl)) (mT_7 (List.mem_of_getElem? (i := 41) rfl) rfl)) (mT_7 (List.mem_of_getElem? (i := 43) rfl) rfl)) (mT_7 (List.mem_of_getElem? (i := 45) rfl) rfl)) (mT_7 (List.mem_of_getElem? (i := 47) rfl) rfl)) (mT_7 (List.mem_of_getElem? (i := 49) rfl) rfl)) (mT_7 (List.mem_of_getElem? (i := 51) rfl) rfl)) (mT_7 (List.mem_of_getElem? (i := 53) rfl) rfl)) (mT_7 (List.mem_of_getElem? (i := 55) rfl) rfl)) (mT_7 (List.mem_of_getElem? (i := 57) rfl) rfl)) (mT_7 (List.mem_of_getElem? (i := 59) rfl) rfl)) (mT_7 (List.mem_of_getElem? (i := 61) rfl) rfl)) (mT_7 (List.mem_of_getElem? (i := 63) rfl) rfl)) (mT_7 (List.mem_of_getElem? (i := 65) rfl) rfl)) (mT_7 (List.mem_of_getElem? (i := 67) rfl) rfl)) (mT_7 (List.mem_of_getElem? (i := 69) rfl) rfl)) (mT_7 (List.mem_of_getElem? (i := 71) rfl) rfl)) (mT_7 (List.mem_of_getElem? (i := 73) rfl) rfl)) (mT_7 (List.mem_of_getElem? (i := 75) rfl) rfl)) (mT_7 (List.mem_of_getElem? (i := 77) rfl) rfl)) (mT_7 (List.mem_of_getElem? (i := 79) rfl) rfl)) (mT_7 (List.mem_of_getElem? (i := 81) rfl) rfl)) (mT_7 (List.mem_of_getElem? (i := 83) rfl) rfl)) (mT_7 (List.mem_of_getElem? (i := 85) rfl) rfl)) (mT_7 (List.mem_of_getElem? (i := 87) rfl) rfl)) (mT_7 (List.mem_of_getElem? (i := 89) rfl) rfl)) (mT_7 (List.mem_of_getElem? (i := 91) rfl) rfl)) (mT_7 (List.mem_of_getElem? (i := 93) rfl) rfl)) (mT_7 (List.mem_of_getElem? (i := 95) rfl) rfl)) (mT_7 (List.mem_of_getElem? (i := 97) rfl) rfl)) (mT_7 (List.mem_of_getElem? (i := 99) rfl) rfl)) (mT_7 (List.mem_of_getElem? (i := 101) rfl) rfl)) (mT_7 (List.mem_of_getElem? (i := 103) rfl) rfl)) (mT_7 (List.mem_of_getElem? (i := 105) rfl) rfl)) (mT_7 (List.mem_of_getElem? (i := 107) rfl) rfl)) (mT_7 (List.mem_of_getElem? (i := 109) rfl) rfl)) (mT_7 (List.mem_of_getElem? (i := 111) rfl) rfl)) (mT_7 (List.mem_of_getElem? (i := 113) rfl) rfl)) (mT_7 (List.mem_of_getElem? (i := 115) rfl) rfl)) (mT_7 (List.mem_of_getElem? (i := 117) rfl) rfl)) (mT_7 (List.mem_of_getElem? (i := 119) rfl) rfl)) (mT_7 (List.mem_of_getElem? (i := 121) rfl) rfl)) (mT_7 (List.mem_of_getElem? (i := 123) rfl) rfl)) (mT_7 (List.mem_of_getElem? (i := 125) rfl) rfl)) (mT_7 (List.mem_of_getElem? (i := 127) rfl) rfl)) (mT_7 (List.mem_of_getElem? (i := 129) rfl) rfl)) (mT_7 (List.mem_of_getElem? (i := 131) rfl) rfl)) (mT_7 (List.mem_of_getElem? (i := 133) rfl) rfl)) (mT_7 (List.mem_of_getElem? (i := 135) rfl) rfl)) (mT_7 (List.mem_of_getElem? (i := 137) rfl) rfl)) (mT_7 (List.mem_of_getElem? (i := 139) rfl) rfl)) (mT_7 (List.mem_of_getElem? (i := 141) rfl) rfl)) (mT_7 (List.mem_of_getElem? (i := 143) rfl) rfl)) (mT_7 (List.mem_of_getElem? (i := 145) rfl) rfl)) (mT_7 (List.mem_of_getElem? (i := 147) rfl) rfl)) (mT_7 (List.mem_of_getElem? (i := 149) rfl) rfl)) (mT_7 (List.mem_of_getElem? (i := 151) rfl) rfl)) (mT_7 (List.mem_of_getElem? (i := 153) rfl) rfl)) (mT_7 (List.mem_of_getElem? (i := 155) rfl) rfl)) (mT_7 (List.mem_of_getElem? (i := 157) rfl) rfl)
theorem inlX10 : ∀ w ∈ wsX100, w ∈ wsL_law := fun w h => by
  obtain ⟨k, hk, rfl⟩ := List.mem_map.mp h
  exact kinX10 k (List.mem_range.mp hk)
theorem inX10 : ∀ w ∈ wsX100, w ∈ lw_tbl := fun w h => wsL_law_in w (inlX10 w h)
