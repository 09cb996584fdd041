def RX0 : String := "Ironwood$Check"
def TX0 : u_T := fun k => match k with
  | 0 => ("Ironwood$Check", "steps", "LIronwood$Steps;", true)
  | 1 => ("Ironwood$Check", "ways", "LIronwood$Ways;", true)
  | _ => ("Ironwood$Check", "noted", "LIronwood$Noted;", true)
def tyX0 : Nat → FieldType := fun k => match k with
  | 0 => .object "Ironwood$Steps"
  | 1 => .object "Ironwood$Ways"
  | _ => .object "Ironwood$Noted"
abbrev wsX00 : List Cond := u_ws RX0 TX0 3
theorem nmX0 : ∀ a, a < 3 → ∀ b, b < 3 → a ≠ b → (TX0 a).2.1 ≠ (TX0 b).2.1 := by decide +kernel
theorem tyX0_ok : ∀ k, k < 3 → parseFieldDescriptor (TX0 k).2.2.1 = some (tyX0 k) := by decide +kernel
abbrev cX0_init : ByteArray := prog_2_method_1_code
def yX0_init : MethodName := ⟨RX0, "<init>", "(I)V"⟩
abbrev cX0_run : ByteArray := prog_2_method_2_code
def yX0_run : MethodName := ⟨RX0, "run", "(LIronwood$Told;II)V"⟩
abbrev cX0_countLoans : ByteArray := prog_2_method_3_code
def yX0_countLoans : MethodName := ⟨RX0, "countLoans", "(LIronwood$Told;)I"⟩
abbrev cX0_sizeOfRegion : ByteArray := prog_2_method_4_code
def yX0_sizeOfRegion : MethodName := ⟨RX0, "sizeOfRegion", "(LIronwood$Told;I)I"⟩
abbrev cX0_detail : ByteArray := prog_2_method_5_code
def yX0_detail : MethodName := ⟨RX0, "detail", "(LIronwood$Told;II)I"⟩
abbrev cX0_reasonOf : ByteArray := prog_2_method_6_code
def yX0_reasonOf : MethodName := ⟨RX0, "reasonOf", "(LIronwood$Told;I)I"⟩
abbrev cX0_holderOf : ByteArray := prog_2_method_7_code
def yX0_holderOf : MethodName := ⟨RX0, "holderOf", "(LIronwood$Told;I)I"⟩
abbrev cX0_nextOf : ByteArray := prog_2_method_8_code
def yX0_nextOf : MethodName := ⟨RX0, "nextOf", "(LIronwood$Told;I)I"⟩
def RX1 : String := "Ironwood$Noted"
def TX1 : u_T := fun k => match k with
  | 0 => ("Ironwood$Noted", "slots", "[I", true)
  | 1 => ("Ironwood$Noted", "codes", "[I", true)
  | 2 => ("Ironwood$Noted", "reasons", "[I", true)
  | _ => ("Ironwood$Noted", "count", "I", false)
def tyX1 : Nat → FieldType := fun k => match k with
  | 0 => .array .int
  | 1 => .array .int
  | 2 => .array .int
  | _ => .int
abbrev wsX10 : List Cond := u_ws RX1 TX1 4
theorem nmX1 : ∀ a, a < 4 → ∀ b, b < 4 → a ≠ b → (TX1 a).2.1 ≠ (TX1 b).2.1 := by decide +kernel
theorem tyX1_ok : ∀ k, k < 4 → parseFieldDescriptor (TX1 k).2.2.1 = some (tyX1 k) := by decide +kernel
abbrev cX1_init : ByteArray := prog_3_method_1_code
def yX1_init : MethodName := ⟨RX1, "<init>", "(I)V"⟩
abbrev cX1_noteAll : ByteArray := prog_3_method_2_code
def yX1_noteAll : MethodName := ⟨RX1, "noteAll", "(LIronwood$Told;LIronwood$Steps;LIronwood$Ways;)V"⟩
abbrev cX1_noteCells : ByteArray := prog_3_method_3_code
def yX1_noteCells : MethodName := ⟨RX1, "noteCells", "(LIronwood$Told;LIronwood$Ways;II)V"⟩
abbrev cX1_noteLoan : ByteArray := prog_3_method_4_code
def yX1_noteLoan : MethodName := ⟨RX1, "noteLoan", "(LIronwood$Told;LIronwood$Ways;II)V"⟩
abbrev cX1_codeAgainst : ByteArray := prog_3_method_5_code
def yX1_codeAgainst : MethodName := ⟨RX1, "codeAgainst", "(I)I"⟩
abbrev cX1_noteEnd : ByteArray := prog_3_method_6_code
def yX1_noteEnd : MethodName := ⟨RX1, "noteEnd", "(LIronwood$Told;LIronwood$Ways;I)V"⟩
abbrev cX1_note : ByteArray := prog_3_method_7_code
def yX1_note : MethodName := ⟨RX1, "note", "(III)V"⟩
abbrev cX1_rowCount : ByteArray := prog_3_method_8_code
def yX1_rowCount : MethodName := ⟨RX1, "rowCount", "()I"⟩
abbrev cX1_countAt : ByteArray := prog_3_method_9_code
def yX1_countAt : MethodName := ⟨RX1, "countAt", "(I)I"⟩
abbrev cX1_countOf : ByteArray := prog_3_method_10_code
def yX1_countOf : MethodName := ⟨RX1, "countOf", "(I)I"⟩
def RX2 : String := "Ironwood$Steps"
def TX2 : u_T := fun k => match k with
  | 0 => ("Ironwood$Steps", "nexts", "[I", true)
  | 1 => ("Ironwood$Steps", "jumps", "[I", true)
  | 2 => ("Ironwood$Steps", "uses", "[I", true)
  | 3 => ("Ironwood$Steps", "sets", "[I", true)
  | 4 => ("Ironwood$Steps", "changes", "[J", true)
  | 5 => ("Ironwood$Steps", "toUnmade", "[J", true)
  | 6 => ("Ironwood$Steps", "toMade", "[J", true)
  | 7 => ("Ironwood$Steps", "toGone", "[J", true)
  | 8 => ("Ironwood$Steps", "count", "I", false)
  | 9 => ("Ironwood$Steps", "skipped", "I", false)
  | _ => ("Ironwood$Steps", "copy", "I", false)
def tyX2 : Nat → FieldType := fun k => match k with
  | 0 => .array .int
  | 1 => .array .int
  | 2 => .array .int
  | 3 => .array .int
  | 4 => .array .long
  | 5 => .array .long
  | 6 => .array .long
  | 7 => .array .long
  | 8 => .int
  | 9 => .int
  | _ => .int
abbrev wsX20 : List Cond := u_ws RX2 TX2 11
theorem nmX2 : ∀ a, a < 11 → ∀ b, b < 11 → a ≠ b → (TX2 a).2.1 ≠ (TX2 b).2.1 := by decide +kernel
theorem tyX2_ok : ∀ k, k < 11 → parseFieldDescriptor (TX2 k).2.2.1 = some (tyX2 k) := by decide +kernel
abbrev cX2_init : ByteArray := prog_4_method_1_code
def yX2_init : MethodName := ⟨RX2, "<init>", "()V"⟩
abbrev cX2_prepare : ByteArray := prog_4_method_2_code
def yX2_prepare : MethodName := ⟨RX2, "prepare", "(LIronwood$Told;II)V"⟩
abbrev cX2_prepareWays : ByteArray := prog_4_method_3_code
def yX2_prepareWays : MethodName := ⟨RX2, "prepareWays", "(LIronwood$Told;I)V"⟩
abbrev cX2_existing : ByteArray := prog_4_method_4_code
def yX2_existing : MethodName := ⟨RX2, "existing", "(I)I"⟩
abbrev cX2_prepareEffects : ByteArray := prog_4_method_5_code
def yX2_prepareEffects : MethodName := ⟨RX2, "prepareEffects", "(LIronwood$Told;I)V"⟩
abbrev cX2_addEffect : ByteArray := prog_4_method_6_code
def yX2_addEffect : MethodName := ⟨RX2, "addEffect", "(LIronwood$Told;II)V"⟩
abbrev cX2_accessesOf : ByteArray := prog_4_method_7_code
def yX2_accessesOf : MethodName := ⟨RX2, "accessesOf", "(LIronwood$Told;I)I"⟩
abbrev cX2_actAt : ByteArray := prog_4_method_8_code
def yX2_actAt : MethodName := ⟨RX2, "actAt", "(LIronwood$Told;II)I"⟩
def RX3 : String := "Ironwood$Told"
def TX3 : u_T := fun k => match k with
  | 0 => ("Ironwood$Told", "kinds", "[I", true)
  | 1 => ("Ironwood$Told", "variableCount", "I", false)
  | 2 => ("Ironwood$Told", "parameterCells", "J", false)
  | 3 => ("Ironwood$Told", "otherCells", "J", false)
  | 4 => ("Ironwood$Told", "codes", "[I", true)
  | 5 => ("Ironwood$Told", "targets", "[I", true)
  | 6 => ("Ironwood$Told", "settings", "[I", true)
  | 7 => ("Ironwood$Told", "sources", "[I", true)
  | 8 => ("Ironwood$Told", "accessCounts", "[I", true)
  | 9 => ("Ironwood$Told", "statementCount", "I", false)
  | 10 => ("Ironwood$Told", "acts", "[I", true)
  | 11 => ("Ironwood$Told", "actVariables", "[I", true)
  | _ => ("Ironwood$Told", "actPlaces", "[I", true)
def tyX3 : Nat → FieldType := fun k => match k with
  | 0 => .array .int
  | 1 => .int
  | 2 => .long
  | 3 => .long
  | 4 => .array .int
  | 5 => .array .int
  | 6 => .array .int
  | 7 => .array .int
  | 8 => .array .int
  | 9 => .int
  | 10 => .array .int
  | 11 => .array .int
  | _ => .array .int
abbrev wsX30 : List Cond := u_ws RX3 TX3 13
theorem nmX3 : ∀ a, a < 13 → ∀ b, b < 13 → a ≠ b → (TX3 a).2.1 ≠ (TX3 b).2.1 := by decide +kernel
theorem tyX3_ok : ∀ k, k < 13 → parseFieldDescriptor (TX3 k).2.2.1 = some (tyX3 k) := by decide +kernel
abbrev cX3_init : ByteArray := prog_5_method_1_code
def yX3_init : MethodName := ⟨RX3, "<init>", "()V"⟩
abbrev cX3_addVariable : ByteArray := prog_5_method_2_code
def yX3_addVariable : MethodName := ⟨RX3, "addVariable", "(IZ)I"⟩
abbrev cX3_addStatement : ByteArray := prog_5_method_3_code
def yX3_addStatement : MethodName := ⟨RX3, "addStatement", "(I)I"⟩
abbrev cX3_addAccess : ByteArray := prog_5_method_4_code
def yX3_addAccess : MethodName := ⟨RX3, "addAccess", "(IIII)V"⟩
abbrev cX3_addSetting : ByteArray := prog_5_method_5_code
def yX3_addSetting : MethodName := ⟨RX3, "addSetting", "(III)V"⟩
abbrev cX3_isLoan : ByteArray := prog_5_method_6_code
def yX3_isLoan : MethodName := ⟨RX3, "isLoan", "(I)Z"⟩
abbrev cX3_isField : ByteArray := prog_5_method_7_code
def yX3_isField : MethodName := ⟨RX3, "isField", "(II)Z"⟩
abbrev cX3_isBranch : ByteArray := prog_5_method_8_code
def yX3_isBranch : MethodName := ⟨RX3, "isBranch", "(I)Z"⟩
abbrev cX3_isMadeLoan : ByteArray := prog_5_method_9_code
def yX3_isMadeLoan : MethodName := ⟨RX3, "isMadeLoan", "(I)Z"⟩
abbrev cX3_isAloneLoan : ByteArray := prog_5_method_10_code
def yX3_isAloneLoan : MethodName := ⟨RX3, "isAloneLoan", "(I)Z"⟩
abbrev cX3_takingOf : ByteArray := prog_5_method_11_code
def yX3_takingOf : MethodName := ⟨RX3, "takingOf", "(I)I"⟩
abbrev cX3_lendingTo : ByteArray := prog_5_method_12_code
def yX3_lendingTo : MethodName := ⟨RX3, "lendingTo", "(I)I"⟩
abbrev cX3_cellsOf : ByteArray := prog_5_method_13_code
def yX3_cellsOf : MethodName := ⟨RX3, "cellsOf", "(II)J"⟩
abbrev cX3_cellsAt : ByteArray := prog_5_method_14_code
def yX3_cellsAt : MethodName := ⟨RX3, "cellsAt", "(I)J"⟩
abbrev cX3_isUse : ByteArray := prog_5_method_15_code
def yX3_isUse : MethodName := ⟨RX3, "isUse", "(II)Z"⟩
abbrev cX3_meets : ByteArray := prog_5_method_16_code
def yX3_meets : MethodName := ⟨RX3, "meets", "(III)Z"⟩
def RX4 : String := "Ironwood$Ways"
def TX4 : u_T := fun k => match k with
  | 0 => ("Ironwood$Ways", "reached", "J", false)
  | 1 => ("Ironwood$Ways", "unmade", "[J", true)
  | 2 => ("Ironwood$Ways", "made", "[J", true)
  | 3 => ("Ironwood$Ways", "gone", "[J", true)
  | 4 => ("Ironwood$Ways", "held", "[J", true)
  | 5 => ("Ironwood$Ways", "awaiting", "[I", true)
  | 6 => ("Ironwood$Ways", "living", "[J", true)
  | 7 => ("Ironwood$Ways", "heldBehind", "[J", true)
  | _ => ("Ironwood$Ways", "asked", "[J", true)
def tyX4 : Nat → FieldType := fun k => match k with
  | 0 => .long
  | 1 => .array .long
  | 2 => .array .long
  | 3 => .array .long
  | 4 => .array .long
  | 5 => .array .int
  | 6 => .array .long
  | 7 => .array .long
  | _ => .array .long
abbrev wsX40 : List Cond := u_ws RX4 TX4 9
theorem nmX4 : ∀ a, a < 9 → ∀ b, b < 9 → a ≠ b → (TX4 a).2.1 ≠ (TX4 b).2.1 := by decide +kernel
theorem tyX4_ok : ∀ k, k < 9 → parseFieldDescriptor (TX4 k).2.2.1 = some (tyX4 k) := by decide +kernel
abbrev cX4_init : ByteArray := prog_6_method_1_code
def yX4_init : MethodName := ⟨RX4, "<init>", "()V"⟩
abbrev cX4_begin : ByteArray := prog_6_method_2_code
def yX4_begin : MethodName := ⟨RX4, "begin", "(LIronwood$Told;LIronwood$Steps;)V"⟩
abbrev cX4_comesTo : ByteArray := prog_6_method_3_code
def yX4_comesTo : MethodName := ⟨RX4, "comesTo", "(I)Z"⟩
abbrev cX4_statesOf : ByteArray := prog_6_method_4_code
def yX4_statesOf : MethodName := ⟨RX4, "statesOf", "(IJ)I"⟩
abbrev cX4_loansIn : ByteArray := prog_6_method_5_code
def yX4_loansIn : MethodName := ⟨RX4, "loansIn", "(II)J"⟩
abbrev cX4_findAhead : ByteArray := prog_6_method_6_code
def yX4_findAhead : MethodName := ⟨RX4, "findAhead", "(LIronwood$Told;LIronwood$Steps;)V"⟩
abbrev cX4_pass : ByteArray := prog_6_method_7_code
def yX4_pass : MethodName := ⟨RX4, "pass", "(LIronwood$Told;LIronwood$Steps;I)Z"⟩
abbrev cX4_loansSet : ByteArray := prog_6_method_8_code
def yX4_loansSet : MethodName := ⟨RX4, "loansSet", "(LIronwood$Told;II)J"⟩
abbrev cX4_arrive : ByteArray := prog_6_method_9_code
def yX4_arrive : MethodName := ⟨RX4, "arrive", "(LIronwood$Told;LIronwood$Steps;II)Z"⟩
abbrev cX4_addTo : ByteArray := prog_6_method_10_code
def yX4_addTo : MethodName := ⟨RX4, "addTo", "([JIJ)Z"⟩
abbrev cX4_findAwaited : ByteArray := prog_6_method_11_code
def yX4_findAwaited : MethodName := ⟨RX4, "findAwaited", "(LIronwood$Steps;)V"⟩
abbrev cX4_await : ByteArray := prog_6_method_12_code
def yX4_await : MethodName := ⟨RX4, "await", "(LIronwood$Steps;I)Z"⟩
abbrev cX4_awaitedAt : ByteArray := prog_6_method_13_code
def yX4_awaitedAt : MethodName := ⟨RX4, "awaitedAt", "(I)I"⟩
abbrev cX4_findLiving : ByteArray := prog_6_method_14_code
def yX4_findLiving : MethodName := ⟨RX4, "findLiving", "(LIronwood$Told;LIronwood$Steps;)V"⟩
abbrev cX4_holderOf : ByteArray := prog_6_method_15_code
def yX4_holderOf : MethodName := ⟨RX4, "holderOf", "(LIronwood$Told;II)I"⟩
abbrev cX4_nextUse : ByteArray := prog_6_method_16_code
def yX4_nextUse : MethodName := ⟨RX4, "nextUse", "(LIronwood$Steps;II)I"⟩
abbrev cX4_bitOf : ByteArray := prog_6_method_17_code
def yX4_bitOf : MethodName := ⟨RX4, "bitOf", "(I)J"⟩
abbrev cX4_smallestMover : ByteArray := prog_6_method_18_code
def yX4_smallestMover : MethodName := ⟨RX4, "smallestMover", "(LIronwood$Steps;IJ)I"⟩
abbrev cX4_askedAt : ByteArray := prog_6_method_19_code
def yX4_askedAt : MethodName := ⟨RX4, "askedAt", "(I)J"⟩
def RX5 : String := "Ironwood"
def TX5 : u_T := fun k => match k with
  | 0 => ("Ironwood", "told", "LIronwood$Told;", true)
  | 1 => ("Ironwood", "now", "LIronwood$Check;", true)
  | 2 => ("Ironwood", "supposed", "LIronwood$Check;", true)
  | _ => ("Ironwood", "isChecked", "Z", false)
def tyX5 : Nat → FieldType := fun k => match k with
  | 0 => .object "Ironwood$Told"
  | 1 => .object "Ironwood$Check"
  | 2 => .object "Ironwood$Check"
  | _ => .boolean
abbrev wsX50 : List Cond := u_ws RX5 TX5 4
theorem nmX5 : ∀ a, a < 4 → ∀ b, b < 4 → a ≠ b → (TX5 a).2.1 ≠ (TX5 b).2.1 := by decide +kernel
theorem tyX5_ok : ∀ k, k < 4 → parseFieldDescriptor (TX5 k).2.2.1 = some (tyX5 k) := by decide +kernel
abbrev cX5_init : ByteArray := prog_1_method_1_code
def yX5_init : MethodName := ⟨RX5, "<init>", "()V"⟩
abbrev cX5_variable : ByteArray := prog_1_method_2_code
def yX5_variable : MethodName := ⟨RX5, "variable", "(IZ)I"⟩
abbrev cX5_write : ByteArray := prog_1_method_3_code
def yX5_write : MethodName := ⟨RX5, "write", "(II)I"⟩
abbrev cX5_move : ByteArray := prog_1_method_4_code
def yX5_move : MethodName := ⟨RX5, "move", "(III)I"⟩
abbrev cX5_lend : ByteArray := prog_1_method_5_code
def yX5_lend : MethodName := ⟨RX5, "lend", "(III)I"⟩
abbrev cX5_relend : ByteArray := prog_1_method_6_code
def yX5_relend : MethodName := ⟨RX5, "relend", "(II)I"⟩
abbrev cX5_read : ByteArray := prog_1_method_7_code
def yX5_read : MethodName := ⟨RX5, "read", "(II)I"⟩
abbrev cX5_drop : ByteArray := prog_1_method_8_code
def yX5_drop : MethodName := ⟨RX5, "drop", "(I)I"⟩
abbrev cX5_call : ByteArray := prog_1_method_9_code
def yX5_call : MethodName := ⟨RX5, "call", "(IIII)I"⟩
abbrev cX5_branch : ByteArray := prog_1_method_10_code
def yX5_branch : MethodName := ⟨RX5, "branch", "(ZI)I"⟩
abbrev cX5_finish : ByteArray := prog_1_method_11_code
def yX5_finish : MethodName := ⟨RX5, "finish", "(I)I"⟩
abbrev cX5_setTarget : ByteArray := prog_1_method_12_code
def yX5_setTarget : MethodName := ⟨RX5, "setTarget", "(II)I"⟩
abbrev cX5_undo : ByteArray := prog_1_method_13_code
def yX5_undo : MethodName := ⟨RX5, "undo", "()I"⟩
abbrev cX5_variables : ByteArray := prog_1_method_14_code
def yX5_variables : MethodName := ⟨RX5, "variables", "()I"⟩
abbrev cX5_statements : ByteArray := prog_1_method_15_code
def yX5_statements : MethodName := ⟨RX5, "statements", "()I"⟩
abbrev cX5_codeOf : ByteArray := prog_1_method_16_code
def yX5_codeOf : MethodName := ⟨RX5, "codeOf", "(I)I"⟩
abbrev cX5_isReached : ByteArray := prog_1_method_17_code
def yX5_isReached : MethodName := ⟨RX5, "isReached", "(I)Z"⟩
abbrev cX5_canBe : ByteArray := prog_1_method_18_code
def yX5_canBe : MethodName := ⟨RX5, "canBe", "(III)I"⟩
abbrev cX5_holds : ByteArray := prog_1_method_19_code
def yX5_holds : MethodName := ⟨RX5, "holds", "(II)I"⟩
abbrev cX5_canHold : ByteArray := prog_1_method_20_code
def yX5_canHold : MethodName := ⟨RX5, "canHold", "(III)Z"⟩
abbrev cX5_awaited : ByteArray := prog_1_method_21_code
def yX5_awaited : MethodName := ⟨RX5, "awaited", "(I)I"⟩
abbrev cX5_loans : ByteArray := prog_1_method_22_code
def yX5_loans : MethodName := ⟨RX5, "loans", "()I"⟩
abbrev cX5_isLive : ByteArray := prog_1_method_23_code
def yX5_isLive : MethodName := ⟨RX5, "isLive", "(II)Z"⟩
abbrev cX5_region : ByteArray := prog_1_method_24_code
def yX5_region : MethodName := ⟨RX5, "region", "(I)I"⟩
abbrev cX5_faults : ByteArray := prog_1_method_25_code
def yX5_faults : MethodName := ⟨RX5, "faults", "()I"⟩
abbrev cX5_ofFault : ByteArray := prog_1_method_26_code
def yX5_ofFault : MethodName := ⟨RX5, "ofFault", "(II)I"⟩
abbrev cX5_faultsAt : ByteArray := prog_1_method_27_code
def yX5_faultsAt : MethodName := ⟨RX5, "faultsAt", "(I)I"⟩
abbrev cX5_faultsOf : ByteArray := prog_1_method_28_code
def yX5_faultsOf : MethodName := ⟨RX5, "faultsOf", "(I)I"⟩
abbrev cX5_without : ByteArray := prog_1_method_29_code
def yX5_without : MethodName := ⟨RX5, "without", "(I)I"⟩
abbrev cX5_copied : ByteArray := prog_1_method_30_code
def yX5_copied : MethodName := ⟨RX5, "copied", "(I)I"⟩
abbrev cX5_culprit : ByteArray := prog_1_method_31_code
def yX5_culprit : MethodName := ⟨RX5, "culprit", "()I"⟩
abbrev cX5_density : ByteArray := prog_1_method_32_code
def yX5_density : MethodName := ⟨RX5, "density", "()D"⟩
abbrev cX5_digest : ByteArray := prog_1_method_33_code
def yX5_digest : MethodName := ⟨RX5, "digest", "()J"⟩
abbrev cX5_addStatement : ByteArray := prog_1_method_34_code
def yX5_addStatement : MethodName := ⟨RX5, "addStatement", "(JLIronwood$Check;I)J"⟩
abbrev cX5_begin : ByteArray := prog_1_method_35_code
def yX5_begin : MethodName := ⟨RX5, "begin", "(I)I"⟩
abbrev cX5_checked : ByteArray := prog_1_method_36_code
def yX5_checked : MethodName := ⟨RX5, "checked", "()LIronwood$Check;"⟩
abbrev cX5_countSupposing : ByteArray := prog_1_method_37_code
def yX5_countSupposing : MethodName := ⟨RX5, "countSupposing", "(II)I"⟩
abbrev cX5_requireVariable : ByteArray := prog_1_method_38_code
def yX5_requireVariable : MethodName := ⟨RX5, "requireVariable", "(I)V"⟩
abbrev cX5_requireVariableOrNone : ByteArray := prog_1_method_39_code
def yX5_requireVariableOrNone : MethodName := ⟨RX5, "requireVariableOrNone", "(I)V"⟩
abbrev cX5_requireStatement : ByteArray := prog_1_method_40_code
def yX5_requireStatement : MethodName := ⟨RX5, "requireStatement", "(I)V"⟩
abbrev cX5_requireTarget : ByteArray := prog_1_method_41_code
def yX5_requireTarget : MethodName := ⟨RX5, "requireTarget", "(I)V"⟩
abbrev cX5_requireRoom : ByteArray := prog_1_method_42_code
def yX5_requireRoom : MethodName := ⟨RX5, "requireRoom", "()V"⟩
abbrev cX5_isIn : ByteArray := prog_1_method_43_code
def yX5_isIn : MethodName := ⟨RX5, "isIn", "(JI)Z"⟩
abbrev cX5_smallestIn : ByteArray := prog_1_method_44_code
def yX5_smallestIn : MethodName := ⟨RX5, "smallestIn", "(J)I"⟩
def RX6 : String := "IronwoodModel$Access"
def TX6 : u_T := fun k => match k with
  | 0 => ("IronwoodModel$Access", "what", "I", true)
  | 1 => ("IronwoodModel$Access", "variable", "I", true)
  | 2 => ("IronwoodModel$Access", "place", "I", true)
  | _ => ("IronwoodModel$Access", "isLending", "Z", true)
def tyX6 : Nat → FieldType := fun k => match k with
  | 0 => .int
  | 1 => .int
  | 2 => .int
  | _ => .boolean
abbrev wsX60 : List Cond := u_ws RX6 TX6 4
theorem nmX6 : ∀ a, a < 4 → ∀ b, b < 4 → a ≠ b → (TX6 a).2.1 ≠ (TX6 b).2.1 := by decide +kernel
theorem tyX6_ok : ∀ k, k < 4 → parseFieldDescriptor (TX6 k).2.2.1 = some (tyX6 k) := by decide +kernel
abbrev cX6_init : ByteArray := prog_9_method_1_code
def yX6_init : MethodName := ⟨RX6, "<init>", "(IIIZ)V"⟩
abbrev cX6_uses : ByteArray := prog_9_method_2_code
def yX6_uses : MethodName := ⟨RX6, "uses", "()Z"⟩
abbrev cX6_asks : ByteArray := prog_9_method_3_code
def yX6_asks : MethodName := ⟨RX6, "asks", "()Z"⟩
abbrev cX6_meets : ByteArray := prog_9_method_4_code
def yX6_meets : MethodName := ⟨RX6, "meets", "(II)Z"⟩
def RX7 : String := "IronwoodModel$Look"
def TX7 : u_T := fun k => match k with
  | 0 => ("IronwoodModel$Look", "without", "I", true)
  | 1 => ("IronwoodModel$Look", "copied", "I", true)
  | 2 => ("IronwoodModel$Look", "ahead", "[LIronwoodModel$State;", true)
  | 3 => ("IronwoodModel$Look", "awaited", "[I", true)
  | 4 => ("IronwoodModel$Look", "faults", "Ljava/util/ArrayList;", true)
  | _ => ("IronwoodModel$Look", "this$0", "LIronwoodModel;", true)
def tyX7 : Nat → FieldType := fun k => match k with
  | 0 => .int
  | 1 => .int
  | 2 => .array (.object "IronwoodModel$State")
  | 3 => .array .int
  | 4 => .object "java/util/ArrayList"
  | _ => .object "IronwoodModel"
abbrev wsX70 : List Cond := u_ws RX7 TX7 6
theorem nmX7 : ∀ a, a < 6 → ∀ b, b < 6 → a ≠ b → (TX7 a).2.1 ≠ (TX7 b).2.1 := by decide +kernel
theorem tyX7_ok : ∀ k, k < 6 → parseFieldDescriptor (TX7 k).2.2.1 = some (tyX7 k) := by decide +kernel
abbrev cX7_init : ByteArray := prog_10_method_1_code
def yX7_init : MethodName := ⟨RX7, "<init>", "(LIronwoodModel;II)V"⟩
abbrev cX7_begin : ByteArray := prog_10_method_2_code
def yX7_begin : MethodName := ⟨RX7, "begin", "()V"⟩
abbrev cX7_at : ByteArray := prog_10_method_3_code
def yX7_at : MethodName := ⟨RX7, "at", "(I)LIronwoodModel$Statement;"⟩
abbrev cX7_next : ByteArray := prog_10_method_4_code
def yX7_next : MethodName := ⟨RX7, "next", "(I)[I"⟩
abbrev cX7_taken : ByteArray := prog_10_method_5_code
def yX7_taken : MethodName := ⟨RX7, "taken", "(III)LIronwoodModel$Access;"⟩
abbrev cX7_accesses : ByteArray := prog_10_method_6_code
def yX7_accesses : MethodName := ⟨RX7, "accesses", "(I)Ljava/util/ArrayList;"⟩
abbrev cX7_uses : ByteArray := prog_10_method_7_code
def yX7_uses : MethodName := ⟨RX7, "uses", "(II)Z"⟩
abbrev cX7_sets : ByteArray := prog_10_method_8_code
def yX7_sets : MethodName := ⟨RX7, "sets", "(II)Z"⟩
abbrev cX7_flows : ByteArray := prog_10_method_9_code
def yX7_flows : MethodName := ⟨RX7, "flows", "()Z"⟩
abbrev cX7_behind : ByteArray := prog_10_method_10_code
def yX7_behind : MethodName := ⟨RX7, "behind", "(I)LIronwoodModel$State;"⟩
abbrev cX7_held : ByteArray := prog_10_method_11_code
def yX7_held : MethodName := ⟨RX7, "held", "(ILIronwoodModel$Statement;)J"⟩
abbrev cX7_awaits : ByteArray := prog_10_method_12_code
def yX7_awaits : MethodName := ⟨RX7, "awaits", "()Z"⟩
abbrev cX7_isLoan : ByteArray := prog_10_method_13_code
def yX7_isLoan : MethodName := ⟨RX7, "isLoan", "(I)Z"⟩
abbrev cX7_canHold : ByteArray := prog_10_method_14_code
def yX7_canHold : MethodName := ⟨RX7, "canHold", "(III)Z"⟩
abbrev cX7_holder : ByteArray := prog_10_method_15_code
def yX7_holder : MethodName := ⟨RX7, "holder", "(II)I"⟩
abbrev cX7_isLive : ByteArray := prog_10_method_16_code
def yX7_isLive : MethodName := ⟨RX7, "isLive", "(II)Z"⟩
abbrev cX7_look : ByteArray := prog_10_method_17_code
def yX7_look : MethodName := ⟨RX7, "look", "(I)V"⟩
abbrev cX7_from : ByteArray := prog_10_method_18_code
def yX7_from : MethodName := ⟨RX7, "from", "(LIronwoodModel$Access;)I"⟩
abbrev cX7_to : ByteArray := prog_10_method_19_code
def yX7_to : MethodName := ⟨RX7, "to", "(LIronwoodModel$Access;)I"⟩
abbrev cX7_is : ByteArray := prog_10_method_20_code
def yX7_is : MethodName := ⟨RX7, "is", "(ILIronwoodModel$Access;)I"⟩
abbrev cX7_who : ByteArray := prog_10_method_21_code
def yX7_who : MethodName := ⟨RX7, "who", "(ILIronwoodModel$Access;)I"⟩
abbrev cX7_against : ByteArray := prog_10_method_22_code
def yX7_against : MethodName := ⟨RX7, "against", "(ILIronwoodModel$Access;Z)I"⟩
abbrev cX7_end : ByteArray := prog_10_method_23_code
def yX7_end : MethodName := ⟨RX7, "end", "(ILIronwoodModel$Access;)V"⟩
abbrev cX7_note : ByteArray := prog_10_method_24_code
def yX7_note : MethodName := ⟨RX7, "note", "(IILIronwoodModel$Access;I)V"⟩
abbrev cX7_nextUse : ByteArray := prog_10_method_25_code
def yX7_nextUse : MethodName := ⟨RX7, "nextUse", "(II)I"⟩
def RX8 : String := "IronwoodModel$State"
def TX8 : u_T := fun k => match k with
  | 0 => ("IronwoodModel$State", "can", "[[I", true)
  | 1 => ("IronwoodModel$State", "by", "[[J", true)
  | _ => ("IronwoodModel$State", "holds", "[J", true)
def tyX8 : Nat → FieldType := fun k => match k with
  | 0 => .array (.array .int)
  | 1 => .array (.array .long)
  | _ => .array .long
abbrev wsX80 : List Cond := u_ws RX8 TX8 3
theorem nmX8 : ∀ a, a < 3 → ∀ b, b < 3 → a ≠ b → (TX8 a).2.1 ≠ (TX8 b).2.1 := by decide +kernel
theorem tyX8_ok : ∀ k, k < 3 → parseFieldDescriptor (TX8 k).2.2.1 = some (tyX8 k) := by decide +kernel
abbrev cX8_init : ByteArray := prog_11_method_1_code
def yX8_init : MethodName := ⟨RX8, "<init>", "(Ljava/util/ArrayList;)V"⟩
abbrev cX8_join : ByteArray := prog_11_method_2_code
def yX8_join : MethodName := ⟨RX8, "join", "(LIronwoodModel$State;)Z"⟩
abbrev cX8_become : ByteArray := prog_11_method_3_code
def yX8_become : MethodName := ⟨RX8, "become", "(IIIJ)V"⟩
def RX9 : String := "IronwoodModel$Statement"
def TX9 : u_T := fun k => match k with
  | 0 => ("IronwoodModel$Statement", "code", "I", true)
  | 1 => ("IronwoodModel$Statement", "to", "I", true)
  | 2 => ("IronwoodModel$Statement", "one", "I", true)
  | 3 => ("IronwoodModel$Statement", "place", "I", true)
  | 4 => ("IronwoodModel$Statement", "ties", "I", true)
  | _ => ("IronwoodModel$Statement", "target", "I", true)
def tyX9 : Nat → FieldType := fun k => match k with
  | 0 => .int
  | 1 => .int
  | 2 => .int
  | 3 => .int
  | 4 => .int
  | _ => .int
abbrev wsX90 : List Cond := u_ws RX9 TX9 6
theorem nmX9 : ∀ a, a < 6 → ∀ b, b < 6 → a ≠ b → (TX9 a).2.1 ≠ (TX9 b).2.1 := by decide +kernel
theorem tyX9_ok : ∀ k, k < 6 → parseFieldDescriptor (TX9 k).2.2.1 = some (tyX9 k) := by decide +kernel
abbrev cX9_init : ByteArray := prog_12_method_1_code
def yX9_init : MethodName := ⟨RX9, "<init>", "(IIIIII)V"⟩
abbrev cX9_sets : ByteArray := prog_12_method_2_code
def yX9_sets : MethodName := ⟨RX9, "sets", "(I)Z"⟩
abbrev cX9_isLending : ByteArray := prog_12_method_3_code
def yX9_isLending : MethodName := ⟨RX9, "isLending", "()Z"⟩
def RX10 : String := "IronwoodModel$Variable"
def TX10 : u_T := fun k => match k with
  | 0 => ("IronwoodModel$Variable", "kind", "I", true)
  | _ => ("IronwoodModel$Variable", "isParameter", "Z", true)
def tyX10 : Nat → FieldType := fun k => match k with
  | 0 => .int
  | _ => .boolean
abbrev wsX100 : List Cond := u_ws RX10 TX10 2
theorem nmX10 : ∀ a, a < 2 → ∀ b, b < 2 → a ≠ b → (TX10 a).2.1 ≠ (TX10 b).2.1 := by decide +kernel
theorem tyX10_ok : ∀ k, k < 2 → parseFieldDescriptor (TX10 k).2.2.1 = some (tyX10 k) := by decide +kernel
abbrev cX10_init : ByteArray := prog_13_method_1_code
def yX10_init : MethodName := ⟨RX10, "<init>", "(IZ)V"⟩
abbrev cX10_isLoan : ByteArray := prog_13_method_2_code
def yX10_isLoan : MethodName := ⟨RX10, "isLoan", "()Z"⟩
abbrev cX10_cells : ByteArray := prog_13_method_3_code
def yX10_cells : MethodName := ⟨RX10, "cells", "()I"⟩
def RX11 : String := "IronwoodModel"
def TX11 : u_T := fun k => match k with
  | 0 => ("IronwoodModel", "thrown", "I", false)
  | 1 => ("IronwoodModel", "variables", "Ljava/util/ArrayList;", true)
  | _ => ("IronwoodModel", "statements", "Ljava/util/ArrayList;", true)
def tyX11 : Nat → FieldType := fun k => match k with
  | 0 => .int
  | 1 => .object "java/util/ArrayList"
  | _ => .object "java/util/ArrayList"
abbrev wsX110 : List Cond := u_ws RX11 TX11 3
theorem nmX11 : ∀ a, a < 3 → ∀ b, b < 3 → a ≠ b → (TX11 a).2.1 ≠ (TX11 b).2.1 := by decide +kernel
theorem tyX11_ok : ∀ k, k < 3 → parseFieldDescriptor (TX11 k).2.2.1 = some (tyX11 k) := by decide +kernel
abbrev cX11_init : ByteArray := prog_8_method_1_code
def yX11_init : MethodName := ⟨RX11, "<init>", "()V"⟩
abbrev cX11_thrown : ByteArray := prog_8_method_2_code
def yX11_thrown : MethodName := ⟨RX11, "thrown", "()I"⟩
abbrev cX11_isIn : ByteArray := prog_8_method_3_code
def yX11_isIn : MethodName := ⟨RX11, "isIn", "(III)Z"⟩
abbrev cX11_refuse : ByteArray := prog_8_method_4_code
def yX11_refuse : MethodName := ⟨RX11, "refuse", "(ZI)Z"⟩
abbrev cX11_start : ByteArray := prog_8_method_5_code
def yX11_start : MethodName := ⟨RX11, "start", "(ZI)Z"⟩
abbrev cX11_plain : ByteArray := prog_8_method_6_code
def yX11_plain : MethodName := ⟨RX11, "plain", "(I)I"⟩
abbrev cX11_variable : ByteArray := prog_8_method_7_code
def yX11_variable : MethodName := ⟨RX11, "variable", "(IZ)I"⟩
abbrev cX11_isNoVariable : ByteArray := prog_8_method_8_code
def yX11_isNoVariable : MethodName := ⟨RX11, "isNoVariable", "(I)Z"⟩
abbrev cX11_kind : ByteArray := prog_8_method_9_code
def yX11_kind : MethodName := ⟨RX11, "kind", "(I)I"⟩
abbrev cX11_add : ByteArray := prog_8_method_10_code
def yX11_add : MethodName := ⟨RX11, "add", "(IIIIIII)I"⟩
abbrev cX11_isField : ByteArray := prog_8_method_11_code
def yX11_isField : MethodName := ⟨RX11, "isField", "(II)Z"⟩
abbrev cX11_write : ByteArray := prog_8_method_12_code
def yX11_write : MethodName := ⟨RX11, "write", "(II)I"⟩
abbrev cX11_move : ByteArray := prog_8_method_13_code
def yX11_move : MethodName := ⟨RX11, "move", "(III)I"⟩
abbrev cX11_lend : ByteArray := prog_8_method_14_code
def yX11_lend : MethodName := ⟨RX11, "lend", "(III)I"⟩
abbrev cX11_relend : ByteArray := prog_8_method_15_code
def yX11_relend : MethodName := ⟨RX11, "relend", "(II)I"⟩
abbrev cX11_read : ByteArray := prog_8_method_16_code
def yX11_read : MethodName := ⟨RX11, "read", "(II)I"⟩
abbrev cX11_drop : ByteArray := prog_8_method_17_code
def yX11_drop : MethodName := ⟨RX11, "drop", "(I)I"⟩
abbrev cX11_call : ByteArray := prog_8_method_18_code
def yX11_call : MethodName := ⟨RX11, "call", "(IIII)I"⟩
abbrev cX11_branch : ByteArray := prog_8_method_19_code
def yX11_branch : MethodName := ⟨RX11, "branch", "(ZI)I"⟩
abbrev cX11_finish : ByteArray := prog_8_method_20_code
def yX11_finish : MethodName := ⟨RX11, "finish", "(I)I"⟩
abbrev cX11_isNoStatement : ByteArray := prog_8_method_21_code
def yX11_isNoStatement : MethodName := ⟨RX11, "isNoStatement", "(I)Z"⟩
abbrev cX11_setTarget : ByteArray := prog_8_method_22_code
def yX11_setTarget : MethodName := ⟨RX11, "setTarget", "(II)I"⟩
abbrev cX11_undo : ByteArray := prog_8_method_23_code
def yX11_undo : MethodName := ⟨RX11, "undo", "()I"⟩
abbrev cX11_variables : ByteArray := prog_8_method_24_code
def yX11_variables : MethodName := ⟨RX11, "variables", "()I"⟩
abbrev cX11_statements : ByteArray := prog_8_method_25_code
def yX11_statements : MethodName := ⟨RX11, "statements", "()I"⟩
abbrev cX11_codeOf : ByteArray := prog_8_method_26_code
def yX11_codeOf : MethodName := ⟨RX11, "codeOf", "(I)I"⟩
abbrev cX11_look : ByteArray := prog_8_method_27_code
def yX11_look : MethodName := ⟨RX11, "look", "()LIronwoodModel$Look;"⟩
abbrev cX11_isReached : ByteArray := prog_8_method_28_code
def yX11_isReached : MethodName := ⟨RX11, "isReached", "(I)Z"⟩
abbrev cX11_can : ByteArray := prog_8_method_29_code
def yX11_can : MethodName := ⟨RX11, "can", "(LIronwoodModel$Look;III)I"⟩
abbrev cX11_canBe : ByteArray := prog_8_method_30_code
def yX11_canBe : MethodName := ⟨RX11, "canBe", "(III)I"⟩
abbrev cX11_many : ByteArray := prog_8_method_31_code
def yX11_many : MethodName := ⟨RX11, "many", "(LIronwoodModel$Look;II)I"⟩
abbrev cX11_holds : ByteArray := prog_8_method_32_code
def yX11_holds : MethodName := ⟨RX11, "holds", "(II)I"⟩
abbrev cX11_canHold : ByteArray := prog_8_method_33_code
def yX11_canHold : MethodName := ⟨RX11, "canHold", "(III)Z"⟩
abbrev cX11_awaited : ByteArray := prog_8_method_34_code
def yX11_awaited : MethodName := ⟨RX11, "awaited", "(I)I"⟩
abbrev cX11_loans : ByteArray := prog_8_method_35_code
def yX11_loans : MethodName := ⟨RX11, "loans", "(LIronwoodModel$Look;)I"⟩
abbrev cX11_loans_ : ByteArray := prog_8_method_36_code
def yX11_loans_ : MethodName := ⟨RX11, "loans", "()I"⟩
abbrev cX11_isLive : ByteArray := prog_8_method_37_code
def yX11_isLive : MethodName := ⟨RX11, "isLive", "(II)Z"⟩
abbrev cX11_region : ByteArray := prog_8_method_38_code
def yX11_region : MethodName := ⟨RX11, "region", "(LIronwoodModel$Look;I)I"⟩
abbrev cX11_region_ : ByteArray := prog_8_method_39_code
def yX11_region_ : MethodName := ⟨RX11, "region", "(I)I"⟩
abbrev cX11_faults : ByteArray := prog_8_method_40_code
def yX11_faults : MethodName := ⟨RX11, "faults", "()I"⟩
abbrev cX11_ofFault : ByteArray := prog_8_method_41_code
def yX11_ofFault : MethodName := ⟨RX11, "ofFault", "(II)I"⟩
abbrev cX11_many_ : ByteArray := prog_8_method_42_code
def yX11_many_ : MethodName := ⟨RX11, "many", "(Ljava/util/ArrayList;II)I"⟩
abbrev cX11_faultsAt : ByteArray := prog_8_method_43_code
def yX11_faultsAt : MethodName := ⟨RX11, "faultsAt", "(I)I"⟩
abbrev cX11_faultsOf : ByteArray := prog_8_method_44_code
def yX11_faultsOf : MethodName := ⟨RX11, "faultsOf", "(I)I"⟩
abbrev cX11_faultsWithout : ByteArray := prog_8_method_45_code
def yX11_faultsWithout : MethodName := ⟨RX11, "faultsWithout", "(I)I"⟩
abbrev cX11_without : ByteArray := prog_8_method_46_code
def yX11_without : MethodName := ⟨RX11, "without", "(I)I"⟩
abbrev cX11_copied : ByteArray := prog_8_method_47_code
def yX11_copied : MethodName := ⟨RX11, "copied", "(I)I"⟩
abbrev cX11_culprit : ByteArray := prog_8_method_48_code
def yX11_culprit : MethodName := ⟨RX11, "culprit", "()I"⟩
abbrev cX11_density : ByteArray := prog_8_method_49_code
def yX11_density : MethodName := ⟨RX11, "density", "()D"⟩
abbrev cX11_add_ : ByteArray := prog_8_method_50_code
def yX11_add_ : MethodName := ⟨RX11, "add", "(JJ)J"⟩
abbrev cX11_digest : ByteArray := prog_8_method_51_code
def yX11_digest : MethodName := ⟨RX11, "digest", "()J"⟩
def RJx145de : String := "java/io/Serializable"
def TJx145de : u_T := fun k => match k with
  | _ => ("", "", "", false)
def tyJx145de : Nat → FieldType := fun k => match k with
  | _ => .int
abbrev wsJx145de0 : List Cond := u_ws RJx145de TJx145de 0
theorem nmJx145de : ∀ a, a < 0 → ∀ b, b < 0 → a ≠ b → (TJx145de a).2.1 ≠ (TJx145de b).2.1 := by decide +kernel
theorem tyJx145de_ok : ∀ k, k < 0 → parseFieldDescriptor (TJx145de k).2.2.1 = some (tyJx145de k) := by decide +kernel
def RJx8e188 : String := "java/lang/Cloneable"
def TJx8e188 : u_T := fun k => match k with
  | _ => ("", "", "", false)
def tyJx8e188 : Nat → FieldType := fun k => match k with
  | _ => .int
abbrev wsJx8e1880 : List Cond := u_ws RJx8e188 TJx8e188 0
theorem nmJx8e188 : ∀ a, a < 0 → ∀ b, b < 0 → a ≠ b → (TJx8e188 a).2.1 ≠ (TJx8e188 b).2.1 := by decide +kernel
theorem tyJx8e188_ok : ∀ k, k < 0 → parseFieldDescriptor (TJx8e188 k).2.2.1 = some (tyJx8e188 k) := by decide +kernel
def RJxb160c : String := "java/lang/Comparable"
def TJxb160c : u_T := fun k => match k with
  | _ => ("", "", "", false)
def tyJxb160c : Nat → FieldType := fun k => match k with
  | _ => .int
abbrev wsJxb160c0 : List Cond := u_ws RJxb160c TJxb160c 0
theorem nmJxb160c : ∀ a, a < 0 → ∀ b, b < 0 → a ≠ b → (TJxb160c a).2.1 ≠ (TJxb160c b).2.1 := by decide +kernel
theorem tyJxb160c_ok : ∀ k, k < 0 → parseFieldDescriptor (TJxb160c k).2.2.1 = some (tyJxb160c k) := by decide +kernel
def RJ6 : String := "java/lang/Integer"
def TJ6 : u_T := fun k => match k with
  | _ => ("", "", "", false)
def tyJ6 : Nat → FieldType := fun k => match k with
  | _ => .int
abbrev wsJ60 : List Cond := u_ws RJ6 TJ6 0
theorem nmJ6 : ∀ a, a < 0 → ∀ b, b < 0 → a ≠ b → (TJ6 a).2.1 ≠ (TJ6 b).2.1 := by decide +kernel
theorem tyJ6_ok : ∀ k, k < 0 → parseFieldDescriptor (TJ6 k).2.2.1 = some (tyJ6 k) := by decide +kernel
abbrev cJ6_numberOfTrailingZeros_0f7a4 : ByteArray := prog_21_method_48_code
def yJ6_numberOfTrailingZeros_0f7a4 : MethodName := ⟨RJ6, "numberOfTrailingZeros", "(I)I"⟩
def RJxab1ab : String := "java/lang/Iterable"
def TJxab1ab : u_T := fun k => match k with
  | _ => ("", "", "", false)
def tyJxab1ab : Nat → FieldType := fun k => match k with
  | _ => .int
abbrev wsJxab1ab0 : List Cond := u_ws RJxab1ab TJxab1ab 0
theorem nmJxab1ab : ∀ a, a < 0 → ∀ b, b < 0 → a ≠ b → (TJxab1ab a).2.1 ≠ (TJxab1ab b).2.1 := by decide +kernel
theorem tyJxab1ab_ok : ∀ k, k < 0 → parseFieldDescriptor (TJxab1ab k).2.2.1 = some (tyJxab1ab k) := by decide +kernel
def RJ13 : String := "java/lang/Long"
def TJ13 : u_T := fun k => match k with
  | _ => ("", "", "", false)
def tyJ13 : Nat → FieldType := fun k => match k with
  | _ => .int
abbrev wsJ130 : List Cond := u_ws RJ13 TJ13 0
theorem nmJ13 : ∀ a, a < 0 → ∀ b, b < 0 → a ≠ b → (TJ13 a).2.1 ≠ (TJ13 b).2.1 := by decide +kernel
theorem tyJ13_ok : ∀ k, k < 0 → parseFieldDescriptor (TJ13 k).2.2.1 = some (tyJ13 k) := by decide +kernel
abbrev cJ13_numberOfTrailingZeros_95d88 : ByteArray := prog_23_method_49_code
def yJ13_numberOfTrailingZeros_95d88 : MethodName := ⟨RJ13, "numberOfTrailingZeros", "(J)I"⟩
abbrev cJ13_bitCount_95d88 : ByteArray := prog_23_method_50_code
def yJ13_bitCount_95d88 : MethodName := ⟨RJ13, "bitCount", "(J)I"⟩
def RJ9 : String := "java/lang/Math"
def TJ9 : u_T := fun k => match k with
  | _ => ("", "", "", false)
def tyJ9 : Nat → FieldType := fun k => match k with
  | _ => .int
abbrev wsJ90 : List Cond := u_ws RJ9 TJ9 0
theorem nmJ9 : ∀ a, a < 0 → ∀ b, b < 0 → a ≠ b → (TJ9 a).2.1 ≠ (TJ9 b).2.1 := by decide +kernel
theorem tyJ9_ok : ∀ k, k < 0 → parseFieldDescriptor (TJ9 k).2.2.1 = some (tyJ9 k) := by decide +kernel
abbrev cJ9_max_7cf53 : ByteArray := prog_24_method_65_code
def yJ9_max_7cf53 : MethodName := ⟨RJ9, "max", "(II)I"⟩
abbrev cJ9_min_7cf53 : ByteArray := prog_24_method_69_code
def yJ9_min_7cf53 : MethodName := ⟨RJ9, "min", "(II)I"⟩
def RJxd2413 : String := "java/lang/Number"
def TJxd2413 : u_T := fun k => match k with
  | _ => ("", "", "", false)
def tyJxd2413 : Nat → FieldType := fun k => match k with
  | _ => .int
abbrev wsJxd24130 : List Cond := u_ws RJxd2413 TJxd2413 0
theorem nmJxd2413 : ∀ a, a < 0 → ∀ b, b < 0 → a ≠ b → (TJxd2413 a).2.1 ≠ (TJxd2413 b).2.1 := by decide +kernel
theorem tyJxd2413_ok : ∀ k, k < 0 → parseFieldDescriptor (TJxd2413 k).2.2.1 = some (tyJxd2413 k) := by decide +kernel
def RJ0 : String := "java/lang/String"
def TJ0 : u_T := fun k => match k with
  | _ => ("", "", "", false)
def tyJ0 : Nat → FieldType := fun k => match k with
  | _ => .int
abbrev wsJ00 : List Cond := u_ws RJ0 TJ0 0
theorem nmJ0 : ∀ a, a < 0 → ∀ b, b < 0 → a ≠ b → (TJ0 a).2.1 ≠ (TJ0 b).2.1 := by decide +kernel
theorem tyJ0_ok : ∀ k, k < 0 → parseFieldDescriptor (TJ0 k).2.2.1 = some (tyJ0 k) := by decide +kernel
def RJ10 : String := "java/lang/System"
def TJ10 : u_T := fun k => match k with
  | _ => ("", "", "", false)
def tyJ10 : Nat → FieldType := fun k => match k with
  | _ => .int
abbrev wsJ100 : List Cond := u_ws RJ10 TJ10 0
theorem nmJ10 : ∀ a, a < 0 → ∀ b, b < 0 → a ≠ b → (TJ10 a).2.1 ≠ (TJ10 b).2.1 := by decide +kernel
theorem tyJ10_ok : ∀ k, k < 0 → parseFieldDescriptor (TJ10 k).2.2.1 = some (tyJ10 k) := by decide +kernel
def RJxfd54e : String := "java/lang/constant/Constable"
def TJxfd54e : u_T := fun k => match k with
  | _ => ("", "", "", false)
def tyJxfd54e : Nat → FieldType := fun k => match k with
  | _ => .int
abbrev wsJxfd54e0 : List Cond := u_ws RJxfd54e TJxfd54e 0
theorem nmJxfd54e : ∀ a, a < 0 → ∀ b, b < 0 → a ≠ b → (TJxfd54e a).2.1 ≠ (TJxfd54e b).2.1 := by decide +kernel
theorem tyJxfd54e_ok : ∀ k, k < 0 → parseFieldDescriptor (TJxfd54e k).2.2.1 = some (tyJxfd54e k) := by decide +kernel
def RJx3cf43 : String := "java/lang/constant/ConstantDesc"
def TJx3cf43 : u_T := fun k => match k with
  | _ => ("", "", "", false)
def tyJx3cf43 : Nat → FieldType := fun k => match k with
  | _ => .int
abbrev wsJx3cf430 : List Cond := u_ws RJx3cf43 TJx3cf43 0
theorem nmJx3cf43 : ∀ a, a < 0 → ∀ b, b < 0 → a ≠ b → (TJx3cf43 a).2.1 ≠ (TJx3cf43 b).2.1 := by decide +kernel
theorem tyJx3cf43_ok : ∀ k, k < 0 → parseFieldDescriptor (TJx3cf43 k).2.2.1 = some (tyJx3cf43 k) := by decide +kernel
def RJxa1e45 : String := "java/util/AbstractCollection"
def TJxa1e45 : u_T := fun k => match k with
  | _ => ("", "", "", false)
def tyJxa1e45 : Nat → FieldType := fun k => match k with
  | _ => .int
abbrev wsJxa1e450 : List Cond := u_ws RJxa1e45 TJxa1e45 0
theorem nmJxa1e45 : ∀ a, a < 0 → ∀ b, b < 0 → a ≠ b → (TJxa1e45 a).2.1 ≠ (TJxa1e45 b).2.1 := by decide +kernel
theorem tyJxa1e45_ok : ∀ k, k < 0 → parseFieldDescriptor (TJxa1e45 k).2.2.1 = some (tyJxa1e45 k) := by decide +kernel
abbrev cJxa1e45_init_da8c8 : ByteArray := prog_32_method_1_code
def yJxa1e45_init_da8c8 : MethodName := ⟨RJxa1e45, "<init>", "()V"⟩
def RJxc12de : String := "java/util/AbstractList"
def TJxc12de : u_T := fun k => match k with
  | _ => ("", "", "", false)
def tyJxc12de : Nat → FieldType := fun k => match k with
  | _ => .int
abbrev wsJxc12de0 : List Cond := u_ws RJxc12de TJxc12de 0
theorem nmJxc12de : ∀ a, a < 0 → ∀ b, b < 0 → a ≠ b → (TJxc12de a).2.1 ≠ (TJxc12de b).2.1 := by decide +kernel
theorem tyJxc12de_ok : ∀ k, k < 0 → parseFieldDescriptor (TJxc12de k).2.2.1 = some (tyJxc12de k) := by decide +kernel
abbrev cJxc12de_init_da8c8 : ByteArray := prog_33_method_1_code
def yJxc12de_init_da8c8 : MethodName := ⟨RJxc12de, "<init>", "()V"⟩
def RJx4a65c : String := "java/util/ArrayList"
def TJx4a65c : u_T := fun k => match k with
  | 0 => ("java/util/AbstractList", "modCount", "I", false)
  | 1 => ("java/util/ArrayList", "elementData", "[Ljava/lang/Object;", false)
  | _ => ("java/util/ArrayList", "size", "I", false)
def tyJx4a65c : Nat → FieldType := fun k => match k with
  | 0 => .int
  | 1 => .array (.object "java/lang/Object")
  | _ => .int
abbrev wsJx4a65c0 : List Cond := u_ws RJx4a65c TJx4a65c 3
theorem nmJx4a65c : ∀ a, a < 3 → ∀ b, b < 3 → a ≠ b → (TJx4a65c a).2.1 ≠ (TJx4a65c b).2.1 := by decide +kernel
theorem tyJx4a65c_ok : ∀ k, k < 3 → parseFieldDescriptor (TJx4a65c k).2.2.1 = some (tyJx4a65c k) := by decide +kernel
abbrev cJx4a65c_init_da8c8 : ByteArray := prog_34_method_2_code
def yJx4a65c_init_da8c8 : MethodName := ⟨RJx4a65c, "<init>", "()V"⟩
abbrev cJx4a65c_grow_92f84 : ByteArray := prog_34_method_6_code
def yJx4a65c_grow_92f84 : MethodName := ⟨RJx4a65c, "grow", "(I)[Ljava/lang/Object;"⟩
abbrev cJx4a65c_grow_d5877 : ByteArray := prog_34_method_7_code
def yJx4a65c_grow_d5877 : MethodName := ⟨RJx4a65c, "grow", "()[Ljava/lang/Object;"⟩
abbrev cJx4a65c_size_8abf5 : ByteArray := prog_34_method_8_code
def yJx4a65c_size_8abf5 : MethodName := ⟨RJx4a65c, "size", "()I"⟩
abbrev cJx4a65c_isEmpty_aae02 : ByteArray := prog_34_method_9_code
def yJx4a65c_isEmpty_aae02 : MethodName := ⟨RJx4a65c, "isEmpty", "()Z"⟩
abbrev cJx4a65c_elementData_915e3 : ByteArray := prog_34_method_18_code
def yJx4a65c_elementData_915e3 : MethodName := ⟨RJx4a65c, "elementData", "(I)Ljava/lang/Object;"⟩
abbrev cJx4a65c_get_915e3 : ByteArray := prog_34_method_20_code
def yJx4a65c_get_915e3 : MethodName := ⟨RJx4a65c, "get", "(I)Ljava/lang/Object;"⟩
abbrev cJx4a65c_set_bcc79 : ByteArray := prog_34_method_23_code
def yJx4a65c_set_bcc79 : MethodName := ⟨RJx4a65c, "set", "(ILjava/lang/Object;)Ljava/lang/Object;"⟩
abbrev cJx4a65c_add_72be8 : ByteArray := prog_34_method_24_code
def yJx4a65c_add_72be8 : MethodName := ⟨RJx4a65c, "add", "(Ljava/lang/Object;[Ljava/lang/Object;I)V"⟩
abbrev cJx4a65c_add_9ea2d : ByteArray := prog_34_method_25_code
def yJx4a65c_add_9ea2d : MethodName := ⟨RJx4a65c, "add", "(Ljava/lang/Object;)Z"⟩
abbrev cJx4a65c_remove_915e3 : ByteArray := prog_34_method_29_code
def yJx4a65c_remove_915e3 : MethodName := ⟨RJx4a65c, "remove", "(I)Ljava/lang/Object;"⟩
abbrev cJx4a65c_fastRemove_b59b0 : ByteArray := prog_34_method_39_code
def yJx4a65c_fastRemove_b59b0 : MethodName := ⟨RJx4a65c, "fastRemove", "([Ljava/lang/Object;I)V"⟩
def RJ7 : String := "java/util/Arrays"
def TJ7 : u_T := fun k => match k with
  | _ => ("", "", "", false)
def tyJ7 : Nat → FieldType := fun k => match k with
  | _ => .int
abbrev wsJ70 : List Cond := u_ws RJ7 TJ7 0
theorem nmJ7 : ∀ a, a < 0 → ∀ b, b < 0 → a ≠ b → (TJ7 a).2.1 ≠ (TJ7 b).2.1 := by decide +kernel
theorem tyJ7_ok : ∀ k, k < 0 → parseFieldDescriptor (TJ7 k).2.2.1 = some (tyJ7 k) := by decide +kernel
abbrev cJ7_copyOf_1904c : ByteArray := prog_35_method_119_code
def yJ7_copyOf_1904c : MethodName := ⟨RJ7, "copyOf", "([Ljava/lang/Object;I)[Ljava/lang/Object;"⟩
abbrev cJ7_copyOf_6403c : ByteArray := prog_35_method_120_code
def yJ7_copyOf_6403c : MethodName := ⟨RJ7, "copyOf", "([Ljava/lang/Object;ILjava/lang/Class;)[Ljava/lang/Object;"⟩
def RJx5ef63 : String := "java/util/Collection"
def TJx5ef63 : u_T := fun k => match k with
  | _ => ("", "", "", false)
def tyJx5ef63 : Nat → FieldType := fun k => match k with
  | _ => .int
abbrev wsJx5ef630 : List Cond := u_ws RJx5ef63 TJx5ef63 0
theorem nmJx5ef63 : ∀ a, a < 0 → ∀ b, b < 0 → a ≠ b → (TJx5ef63 a).2.1 ≠ (TJx5ef63 b).2.1 := by decide +kernel
theorem tyJx5ef63_ok : ∀ k, k < 0 → parseFieldDescriptor (TJx5ef63 k).2.2.1 = some (tyJx5ef63 k) := by decide +kernel
def RJxbd725 : String := "java/util/List"
def TJxbd725 : u_T := fun k => match k with
  | _ => ("", "", "", false)
def tyJxbd725 : Nat → FieldType := fun k => match k with
  | _ => .int
abbrev wsJxbd7250 : List Cond := u_ws RJxbd725 TJxbd725 0
theorem nmJxbd725 : ∀ a, a < 0 → ∀ b, b < 0 → a ≠ b → (TJxbd725 a).2.1 ≠ (TJxbd725 b).2.1 := by decide +kernel
theorem tyJxbd725_ok : ∀ k, k < 0 → parseFieldDescriptor (TJxbd725 k).2.2.1 = some (tyJxbd725 k) := by decide +kernel
def RJ15 : String := "java/util/Objects"
def TJ15 : u_T := fun k => match k with
  | _ => ("", "", "", false)
def tyJ15 : Nat → FieldType := fun k => match k with
  | _ => .int
abbrev wsJ150 : List Cond := u_ws RJ15 TJ15 0
theorem nmJ15 : ∀ a, a < 0 → ∀ b, b < 0 → a ≠ b → (TJ15 a).2.1 ≠ (TJ15 b).2.1 := by decide +kernel
theorem tyJ15_ok : ∀ k, k < 0 → parseFieldDescriptor (TJ15 k).2.2.1 = some (tyJ15 k) := by decide +kernel
abbrev cJ15_checkIndex_7cf53 : ByteArray := prog_38_method_17_code
def yJ15_checkIndex_7cf53 : MethodName := ⟨RJ15, "checkIndex", "(II)I"⟩
def RJxf0a74 : String := "java/util/RandomAccess"
def TJxf0a74 : u_T := fun k => match k with
  | _ => ("", "", "", false)
def tyJxf0a74 : Nat → FieldType := fun k => match k with
  | _ => .int
abbrev wsJxf0a740 : List Cond := u_ws RJxf0a74 TJxf0a74 0
theorem nmJxf0a74 : ∀ a, a < 0 → ∀ b, b < 0 → a ≠ b → (TJxf0a74 a).2.1 ≠ (TJxf0a74 b).2.1 := by decide +kernel
theorem tyJxf0a74_ok : ∀ k, k < 0 → parseFieldDescriptor (TJxf0a74 k).2.2.1 = some (tyJxf0a74 k) := by decide +kernel
def RJxa66e6 : String := "java/util/SequencedCollection"
def TJxa66e6 : u_T := fun k => match k with
  | _ => ("", "", "", false)
def tyJxa66e6 : Nat → FieldType := fun k => match k with
  | _ => .int
abbrev wsJxa66e60 : List Cond := u_ws RJxa66e6 TJxa66e6 0
theorem nmJxa66e6 : ∀ a, a < 0 → ∀ b, b < 0 → a ≠ b → (TJxa66e6 a).2.1 ≠ (TJxa66e6 b).2.1 := by decide +kernel
theorem tyJxa66e6_ok : ∀ k, k < 0 → parseFieldDescriptor (TJxa66e6 k).2.2.1 = some (tyJxa66e6 k) := by decide +kernel
def RJ8 : String := "jdk/internal/util/ArraysSupport"
def TJ8 : u_T := fun k => match k with
  | _ => ("", "", "", false)
def tyJ8 : Nat → FieldType := fun k => match k with
  | _ => .int
abbrev wsJ80 : List Cond := u_ws RJ8 TJ8 0
theorem nmJ8 : ∀ a, a < 0 → ∀ b, b < 0 → a ≠ b → (TJ8 a).2.1 ≠ (TJ8 b).2.1 := by decide +kernel
theorem tyJ8_ok : ∀ k, k < 0 → parseFieldDescriptor (TJ8 k).2.2.1 = some (tyJ8 k) := by decide +kernel
abbrev cJ8_newLength_cabcc : ByteArray := prog_41_method_27_code
def yJ8_newLength_cabcc : MethodName := ⟨RJ8, "newLength", "(III)I"⟩
abbrev cJ8_hugeLength_7cf53 : ByteArray := prog_41_method_28_code
def yJ8_hugeLength_7cf53 : MethodName := ⟨RJ8, "hugeLength", "(II)I"⟩
def RJ3 : String := "jdk/internal/util/Preconditions"
def TJ3 : u_T := fun k => match k with
  | _ => ("", "", "", false)
def tyJ3 : Nat → FieldType := fun k => match k with
  | _ => .int
abbrev wsJ30 : List Cond := u_ws RJ3 TJ3 0
theorem nmJ3 : ∀ a, a < 0 → ∀ b, b < 0 → a ≠ b → (TJ3 a).2.1 ≠ (TJ3 b).2.1 := by decide +kernel
theorem tyJ3_ok : ∀ k, k < 0 → parseFieldDescriptor (TJ3 k).2.2.1 = some (tyJ3 k) := by decide +kernel
abbrev cJ3_checkIndex_8e157 : ByteArray := prog_42_method_11_code
def yJ3_checkIndex_8e157 : MethodName := ⟨RJ3, "checkIndex", "(IILjava/util/function/BiFunction;)I"⟩
def RL : String := "IronwoodLaw"
abbrev cL_variable : ByteArray := method_3_code
def yL_variable : MethodName := ⟨RL, "variable", "(LIronwood;IZ[J)I"⟩
abbrev cL_write : ByteArray := method_4_code
def yL_write : MethodName := ⟨RL, "write", "(LIronwood;II[J)I"⟩
abbrev cL_move : ByteArray := method_5_code
def yL_move : MethodName := ⟨RL, "move", "(LIronwood;III[J)I"⟩
abbrev cL_lend : ByteArray := method_6_code
def yL_lend : MethodName := ⟨RL, "lend", "(LIronwood;III[J)I"⟩
abbrev cL_relend : ByteArray := method_7_code
def yL_relend : MethodName := ⟨RL, "relend", "(LIronwood;II[J)I"⟩
abbrev cL_read : ByteArray := method_8_code
def yL_read : MethodName := ⟨RL, "read", "(LIronwood;II[J)I"⟩
abbrev cL_drop : ByteArray := method_9_code
def yL_drop : MethodName := ⟨RL, "drop", "(LIronwood;I[J)I"⟩
abbrev cL_call : ByteArray := method_10_code
def yL_call : MethodName := ⟨RL, "call", "(LIronwood;IIII[J)I"⟩
abbrev cL_branch : ByteArray := method_11_code
def yL_branch : MethodName := ⟨RL, "branch", "(LIronwood;ZI[J)I"⟩
abbrev cL_finish : ByteArray := method_12_code
def yL_finish : MethodName := ⟨RL, "finish", "(LIronwood;I[J)I"⟩
abbrev cL_setTarget : ByteArray := method_13_code
def yL_setTarget : MethodName := ⟨RL, "setTarget", "(LIronwood;II[J)I"⟩
abbrev cL_undo : ByteArray := method_14_code
def yL_undo : MethodName := ⟨RL, "undo", "(LIronwood;[J)I"⟩
abbrev cL_codeOf : ByteArray := method_15_code
def yL_codeOf : MethodName := ⟨RL, "codeOf", "(LIronwood;I[J)I"⟩
abbrev cL_isReached : ByteArray := method_16_code
def yL_isReached : MethodName := ⟨RL, "isReached", "(LIronwood;I[J)I"⟩
abbrev cL_canBe : ByteArray := method_17_code
def yL_canBe : MethodName := ⟨RL, "canBe", "(LIronwood;III[J)I"⟩
abbrev cL_holds : ByteArray := method_18_code
def yL_holds : MethodName := ⟨RL, "holds", "(LIronwood;II[J)I"⟩
abbrev cL_canHold : ByteArray := method_19_code
def yL_canHold : MethodName := ⟨RL, "canHold", "(LIronwood;III[J)I"⟩
abbrev cL_awaited : ByteArray := method_20_code
def yL_awaited : MethodName := ⟨RL, "awaited", "(LIronwood;I[J)I"⟩
abbrev cL_isLive : ByteArray := method_21_code
def yL_isLive : MethodName := ⟨RL, "isLive", "(LIronwood;II[J)I"⟩
abbrev cL_ofFault : ByteArray := method_22_code
def yL_ofFault : MethodName := ⟨RL, "ofFault", "(LIronwood;II[J)I"⟩
abbrev cL_faultsAt : ByteArray := method_23_code
def yL_faultsAt : MethodName := ⟨RL, "faultsAt", "(LIronwood;I[J)I"⟩
abbrev cL_faultsOf : ByteArray := method_24_code
def yL_faultsOf : MethodName := ⟨RL, "faultsOf", "(LIronwood;I[J)I"⟩
abbrev cL_without : ByteArray := method_25_code
def yL_without : MethodName := ⟨RL, "without", "(LIronwood;I[J)I"⟩
abbrev cL_copied : ByteArray := method_26_code
def yL_copied : MethodName := ⟨RL, "copied", "(LIronwood;I[J)I"⟩
abbrev cL_law : ByteArray := code
def yL_law : MethodName := ⟨RL, "law", "([I)Z"⟩
abbrev vwCl : List vw_C := [(RJx4a65c, TJx4a65c, 3), (RX0, TX0, 3), (RX1, TX1, 4), (RX2, TX2, 11), (RX3, TX3, 13), (RX4, TX4, 9), (RX5, TX5, 4), (RX6, TX6, 4), (RX7, TX7, 6), (RX8, TX8, 3), (RX9, TX9, 6), (RX10, TX10, 2), (RX11, TX11, 3)]
