def RX0 : String := "Ironwood$Check"
def TX0 : u_T := fun k => match k with
  | 0 => ("Ironwood$Check", "steps", "LIronwood$Steps;", true)
  | 1 => ("Ironwood$Check", "ways", "LIronwood$Ways;", true)
  | _ => ("Ironwood$Check", "noted", "LIronwood$Noted;", true)
def tyX0 : Nat → FieldType := fun k => match k with
  | 0 => .object "Ironwood$Steps"
  | 1 => .object "Ironwood$Ways"
  | _ => .object "Ironwood$Noted"
abbrev wsX00 : List Cond := u_ws RX0 TX0 3
theorem nmX0 : ∀ a, a < 3 → ∀ b, b < 3 → a ≠ b → (TX0 a).2.1 ≠ (TX0 b).2.1 := by decide +kernel
theorem tyX0_ok : ∀ k, k < 3 → parseFieldDescriptor (TX0 k).2.2.1 = some (tyX0 k) := by decide +kernel
abbrev cX0_init : ByteArray := prog_2_method_1_code
def yX0_init : MethodName := ⟨RX0, "<init>", "(I)V"⟩
abbrev cX0_run : ByteArray := prog_2_method_2_code
def yX0_run : MethodName := ⟨RX0, "run", "(LIronwood$Told;II)V"⟩
abbrev cX0_countLoans : ByteArray := prog_2_method_3_code
def yX0_countLoans : MethodName := ⟨RX0, "countLoans", "(LIronwood$Told;)I"⟩
abbrev cX0_sizeOfRegion : ByteArray := prog_2_method_4_code
def yX0_sizeOfRegion : MethodName := ⟨RX0, "sizeOfRegion", "(LIronwood$Told;I)I"⟩
abbrev cX0_detail : ByteArray := prog_2_method_5_code
def yX0_detail : MethodName := ⟨RX0, "detail", "(LIronwood$Told;II)I"⟩
abbrev cX0_reasonOf : ByteArray := prog_2_method_6_code
def yX0_reasonOf : MethodName := ⟨RX0, "reasonOf", "(LIronwood$Told;I)I"⟩
abbrev cX0_holderOf : ByteArray := prog_2_method_7_code
def yX0_holderOf : MethodName := ⟨RX0, "holderOf", "(LIronwood$Told;I)I"⟩
abbrev cX0_nextOf : ByteArray := prog_2_method_8_code
def yX0_nextOf : MethodName := ⟨RX0, "nextOf", "(LIronwood$Told;I)I"⟩
def RX1 : String := "Ironwood$Noted"
def TX1 : u_T := fun k => match k with
  | 0 => ("Ironwood$Noted", "slots", "[I", true)
  | 1 => ("Ironwood$Noted", "codes", "[I", true)
  | 2 => ("Ironwood$Noted", "reasons", "[I", true)
  | _ => ("Ironwood$Noted", "count", "I", false)
def tyX1 : Nat → FieldType := fun k => match k with
  | 0 => .array .int
  | 1 => .array .int
  | 2 => .array .int
  | _ => .int
abbrev wsX10 : List Cond := u_ws RX1 TX1 4
theorem nmX1 : ∀ a, a < 4 → ∀ b, b < 4 → a ≠ b → (TX1 a).2.1 ≠ (TX1 b).2.1 := by decide +kernel
theorem tyX1_ok : ∀ k, k < 4 → parseFieldDescriptor (TX1 k).2.2.1 = some (tyX1 k) := by decide +kernel
abbrev cX1_init : ByteArray := prog_3_method_1_code
def yX1_init : MethodName := ⟨RX1, "<init>", "(I)V"⟩
abbrev cX1_noteAll : ByteArray := prog_3_method_2_code
def yX1_noteAll : MethodName := ⟨RX1, "noteAll", "(LIronwood$Told;LIronwood$Steps;LIronwood$Ways;)V"⟩
abbrev cX1_noteCells : ByteArray := prog_3_method_3_code
def yX1_noteCells : MethodName := ⟨RX1, "noteCells", "(LIronwood$Told;LIronwood$Ways;II)V"⟩
abbrev cX1_noteLoan : ByteArray := prog_3_method_4_code
def yX1_noteLoan : MethodName := ⟨RX1, "noteLoan", "(LIronwood$Told;LIronwood$Ways;II)V"⟩
abbrev cX1_codeAgainst : ByteArray := prog_3_method_5_code
def yX1_codeAgainst : MethodName := ⟨RX1, "codeAgainst", "(I)I"⟩
abbrev cX1_noteEnd : ByteArray := prog_3_method_6_code
def yX1_noteEnd : MethodName := ⟨RX1, "noteEnd", "(LIronwood$Told;LIronwood$Ways;I)V"⟩
abbrev cX1_note : ByteArray := prog_3_method_7_code
def yX1_note : MethodName := ⟨RX1, "note", "(III)V"⟩
abbrev cX1_rowCount : ByteArray := prog_3_method_8_code
def yX1_rowCount : MethodName := ⟨RX1, "rowCount", "()I"⟩
abbrev cX1_countAt : ByteArray := prog_3_method_9_code
def yX1_countAt : MethodName := ⟨RX1, "countAt", "(I)I"⟩
abbrev cX1_countOf : ByteArray := prog_3_method_10_code
def yX1_countOf : MethodName := ⟨RX1, "countOf", "(I)I"⟩
def RX2 : String := "Ironwood$Steps"
def TX2 : u_T := fun k => match k with
  | 0 => ("Ironwood$Steps", "nexts", "[I", true)
  | 1 => ("Ironwood$Steps", "jumps", "[I", true)
  | 2 => ("Ironwood$Steps", "uses", "[I", true)
  | 3 => ("Ironwood$Steps", "sets", "[I", true)
  | 4 => ("Ironwood$Steps", "changes", "[J", true)
  | 5 => ("Ironwood$Steps", "toUnmade", "[J", true)
  | 6 => ("Ironwood$Steps", "toMade", "[J", true)
  | 7 => ("Ironwood$Steps", "toGone", "[J", true)
  | 8 => ("Ironwood$Steps", "count", "I", false)
  | 9 => ("Ironwood$Steps", "skipped", "I", false)
  | _ => ("Ironwood$Steps", "copy", "I", false)
def tyX2 : Nat → FieldType := fun k => match k with
  | 0 => .array .int
  | 1 => .array .int
  | 2 => .array .int
  | 3 => .array .int
  | 4 => .array .long
  | 5 => .array .long
  | 6 => .array .long
  | 7 => .array .long
  | 8 => .int
  | 9 => .int
  | _ => .int
abbrev wsX20 : List Cond := u_ws RX2 TX2 11
theorem nmX2 : ∀ a, a < 11 → ∀ b, b < 11 → a ≠ b → (TX2 a).2.1 ≠ (TX2 b).2.1 := by decide +kernel
theorem tyX2_ok : ∀ k, k < 11 → parseFieldDescriptor (TX2 k).2.2.1 = some (tyX2 k) := by decide +kernel
abbrev cX2_init : ByteArray := prog_4_method_1_code
def yX2_init : MethodName := ⟨RX2, "<init>", "()V"⟩
abbrev cX2_prepare : ByteArray := prog_4_method_2_code
def yX2_prepare : MethodName := ⟨RX2, "prepare", "(LIronwood$Told;II)V"⟩
abbrev cX2_prepareWays : ByteArray := prog_4_method_3_code
def yX2_prepareWays : MethodName := ⟨RX2, "prepareWays", "(LIronwood$Told;I)V"⟩
abbrev cX2_existing : ByteArray := prog_4_method_4_code
def yX2_existing : MethodName := ⟨RX2, "existing", "(I)I"⟩
abbrev cX2_prepareEffects : ByteArray := prog_4_method_5_code
def yX2_prepareEffects : MethodName := ⟨RX2, "prepareEffects", "(LIronwood$Told;I)V"⟩
abbrev cX2_addEffect : ByteArray := prog_4_method_6_code
def yX2_addEffect : MethodName := ⟨RX2, "addEffect", "(LIronwood$Told;II)V"⟩
abbrev cX2_accessesOf : ByteArray := prog_4_method_7_code
def yX2_accessesOf : MethodName := ⟨RX2, "accessesOf", "(LIronwood$Told;I)I"⟩
abbrev cX2_actAt : ByteArray := prog_4_method_8_code
def yX2_actAt : MethodName := ⟨RX2, "actAt", "(LIronwood$Told;II)I"⟩
def RX3 : String := "Ironwood$Told"
def TX3 : u_T := fun k => match k with
  | 0 => ("Ironwood$Told", "kinds", "[I", true)
  | 1 => ("Ironwood$Told", "variableCount", "I", false)
  | 2 => ("Ironwood$Told", "parameterCells", "J", false)
  | 3 => ("Ironwood$Told", "otherCells", "J", false)
  | 4 => ("Ironwood$Told", "codes", "[I", true)
  | 5 => ("Ironwood$Told", "targets", "[I", true)
  | 6 => ("Ironwood$Told", "settings", "[I", true)
  | 7 => ("Ironwood$Told", "sources", "[I", true)
  | 8 => ("Ironwood$Told", "accessCounts", "[I", true)
  | 9 => ("Ironwood$Told", "statementCount", "I", false)
  | 10 => ("Ironwood$Told", "acts", "[I", true)
  | 11 => ("Ironwood$Told", "actVariables", "[I", true)
  | _ => ("Ironwood$Told", "actPlaces", "[I", true)
def tyX3 : Nat → FieldType := fun k => match k with
  | 0 => .array .int
  | 1 => .int
  | 2 => .long
  | 3 => .long
  | 4 => .array .int
  | 5 => .array .int
  | 6 => .array .int
  | 7 => .array .int
  | 8 => .array .int
  | 9 => .int
  | 10 => .array .int
  | 11 => .array .int
  | _ => .array .int
abbrev wsX30 : List Cond := u_ws RX3 TX3 13
theorem nmX3 : ∀ a, a < 13 → ∀ b, b < 13 → a ≠ b → (TX3 a).2.1 ≠ (TX3 b).2.1 := by decide +kernel
theorem tyX3_ok : ∀ k, k < 13 → parseFieldDescriptor (TX3 k).2.2.1 = some (tyX3 k) := by decide +kernel
abbrev cX3_init : ByteArray := prog_5_method_1_code
def yX3_init : MethodName := ⟨RX3, "<init>", "()V"⟩
abbrev cX3_addVariable : ByteArray := prog_5_method_2_code
def yX3_addVariable : MethodName := ⟨RX3, "addVariable", "(IZ)I"⟩
abbrev cX3_addStatement : ByteArray := prog_5_method_3_code
def yX3_addStatement : MethodName := ⟨RX3, "addStatement", "(I)I"⟩
abbrev cX3_addAccess : ByteArray := prog_5_method_4_code
def yX3_addAccess : MethodName := ⟨RX3, "addAccess", "(IIII)V"⟩
abbrev cX3_addSetting : ByteArray := prog_5_method_5_code
def yX3_addSetting : MethodName := ⟨RX3, "addSetting", "(III)V"⟩
abbrev cX3_isLoan : ByteArray := prog_5_method_6_code
def yX3_isLoan : MethodName := ⟨RX3, "isLoan", "(I)Z"⟩
abbrev cX3_isField : ByteArray := prog_5_method_7_code
def yX3_isField : MethodName := ⟨RX3, "isField", "(II)Z"⟩
abbrev cX3_isBranch : ByteArray := prog_5_method_8_code
def yX3_isBranch : MethodName := ⟨RX3, "isBranch", "(I)Z"⟩
abbrev cX3_isMadeLoan : ByteArray := prog_5_method_9_code
def yX3_isMadeLoan : MethodName := ⟨RX3, "isMadeLoan", "(I)Z"⟩
abbrev cX3_isAloneLoan : ByteArray := prog_5_method_10_code
def yX3_isAloneLoan : MethodName := ⟨RX3, "isAloneLoan", "(I)Z"⟩
abbrev cX3_takingOf : ByteArray := prog_5_method_11_code
def yX3_takingOf : MethodName := ⟨RX3, "takingOf", "(I)I"⟩
abbrev cX3_lendingTo : ByteArray := prog_5_method_12_code
def yX3_lendingTo : MethodName := ⟨RX3, "lendingTo", "(I)I"⟩
abbrev cX3_cellsOf : ByteArray := prog_5_method_13_code
def yX3_cellsOf : MethodName := ⟨RX3, "cellsOf", "(II)J"⟩
abbrev cX3_cellsAt : ByteArray := prog_5_method_14_code
def yX3_cellsAt : MethodName := ⟨RX3, "cellsAt", "(I)J"⟩
abbrev cX3_isUse : ByteArray := prog_5_method_15_code
def yX3_isUse : MethodName := ⟨RX3, "isUse", "(II)Z"⟩
abbrev cX3_meets : ByteArray := prog_5_method_16_code
def yX3_meets : MethodName := ⟨RX3, "meets", "(III)Z"⟩
def RX4 : String := "Ironwood$Ways"
def TX4 : u_T := fun k => match k with
  | 0 => ("Ironwood$Ways", "reached", "J", false)
  | 1 => ("Ironwood$Ways", "unmade", "[J", true)
  | 2 => ("Ironwood$Ways", "made", "[J", true)
  | 3 => ("Ironwood$Ways", "gone", "[J", true)
  | 4 => ("Ironwood$Ways", "held", "[J", true)
  | 5 => ("Ironwood$Ways", "awaiting", "[I", true)
  | 6 => ("Ironwood$Ways", "living", "[J", true)
  | 7 => ("Ironwood$Ways", "heldBehind", "[J", true)
  | _ => ("Ironwood$Ways", "asked", "[J", true)
def tyX4 : Nat → FieldType := fun k => match k with
  | 0 => .long
  | 1 => .array .long
  | 2 => .array .long
  | 3 => .array .long
  | 4 => .array .long
  | 5 => .array .int
  | 6 => .array .long
  | 7 => .array .long
  | _ => .array .long
abbrev wsX40 : List Cond := u_ws RX4 TX4 9
theorem nmX4 : ∀ a, a < 9 → ∀ b, b < 9 → a ≠ b → (TX4 a).2.1 ≠ (TX4 b).2.1 := by decide +kernel
theorem tyX4_ok : ∀ k, k < 9 → parseFieldDescriptor (TX4 k).2.2.1 = some (tyX4 k) := by decide +kernel
abbrev cX4_init : ByteArray := prog_6_method_1_code
def yX4_init : MethodName := ⟨RX4, "<init>", "()V"⟩
abbrev cX4_begin : ByteArray := prog_6_method_2_code
def yX4_begin : MethodName := ⟨RX4, "begin", "(LIronwood$Told;LIronwood$Steps;)V"⟩
abbrev cX4_comesTo : ByteArray := prog_6_method_3_code
def yX4_comesTo : MethodName := ⟨RX4, "comesTo", "(I)Z"⟩
abbrev cX4_statesOf : ByteArray := prog_6_method_4_code
def yX4_statesOf : MethodName := ⟨RX4, "statesOf", "(IJ)I"⟩
abbrev cX4_loansIn : ByteArray := prog_6_method_5_code
def yX4_loansIn : MethodName := ⟨RX4, "loansIn", "(II)J"⟩
abbrev cX4_findAhead : ByteArray := prog_6_method_6_code
def yX4_findAhead : MethodName := ⟨RX4, "findAhead", "(LIronwood$Told;LIronwood$Steps;)V"⟩
abbrev cX4_pass : ByteArray := prog_6_method_7_code
def yX4_pass : MethodName := ⟨RX4, "pass", "(LIronwood$Told;LIronwood$Steps;I)Z"⟩
abbrev cX4_loansSet : ByteArray := prog_6_method_8_code
def yX4_loansSet : MethodName := ⟨RX4, "loansSet", "(LIronwood$Told;II)J"⟩
abbrev cX4_arrive : ByteArray := prog_6_method_9_code
def yX4_arrive : MethodName := ⟨RX4, "arrive", "(LIronwood$Told;LIronwood$Steps;II)Z"⟩
abbrev cX4_addTo : ByteArray := prog_6_method_10_code
def yX4_addTo : MethodName := ⟨RX4, "addTo", "([JIJ)Z"⟩
abbrev cX4_findAwaited : ByteArray := prog_6_method_11_code
def yX4_findAwaited : MethodName := ⟨RX4, "findAwaited", "(LIronwood$Steps;)V"⟩
abbrev cX4_await : ByteArray := prog_6_method_12_code
def yX4_await : MethodName := ⟨RX4, "await", "(LIronwood$Steps;I)Z"⟩
abbrev cX4_awaitedAt : ByteArray := prog_6_method_13_code
def yX4_awaitedAt : MethodName := ⟨RX4, "awaitedAt", "(I)I"⟩
abbrev cX4_findLiving : ByteArray := prog_6_method_14_code
def yX4_findLiving : MethodName := ⟨RX4, "findLiving", "(LIronwood$Told;LIronwood$Steps;)V"⟩
abbrev cX4_holderOf : ByteArray := prog_6_method_15_code
def yX4_holderOf : MethodName := ⟨RX4, "holderOf", "(LIronwood$Told;II)I"⟩
abbrev cX4_nextUse : ByteArray := prog_6_method_16_code
def yX4_nextUse : MethodName := ⟨RX4, "nextUse", "(LIronwood$Steps;II)I"⟩
abbrev cX4_bitOf : ByteArray := prog_6_method_17_code
def yX4_bitOf : MethodName := ⟨RX4, "bitOf", "(I)J"⟩
abbrev cX4_smallestMover : ByteArray := prog_6_method_18_code
def yX4_smallestMover : MethodName := ⟨RX4, "smallestMover", "(LIronwood$Steps;IJ)I"⟩
abbrev cX4_askedAt : ByteArray := prog_6_method_19_code
def yX4_askedAt : MethodName := ⟨RX4, "askedAt", "(I)J"⟩
def RX5 : String := "Ironwood"
def TX5 : u_T := fun k => match k with
  | 0 => ("Ironwood", "told", "LIronwood$Told;", true)
  | 1 => ("Ironwood", "now", "LIronwood$Check;", true)
  | 2 => ("Ironwood", "supposed", "LIronwood$Check;", true)
  | _ => ("Ironwood", "isChecked", "Z", false)
def tyX5 : Nat → FieldType := fun k => match k with
  | 0 => .object "Ironwood$Told"
  | 1 => .object "Ironwood$Check"
  | 2 => .object "Ironwood$Check"
  | _ => .boolean
abbrev wsX50 : List Cond := u_ws RX5 TX5 4
theorem nmX5 : ∀ a, a < 4 → ∀ b, b < 4 → a ≠ b → (TX5 a).2.1 ≠ (TX5 b).2.1 := by decide +kernel
theorem tyX5_ok : ∀ k, k < 4 → parseFieldDescriptor (TX5 k).2.2.1 = some (tyX5 k) := by decide +kernel
abbrev cX5_init : ByteArray := prog_1_method_1_code
def yX5_init : MethodName := ⟨RX5, "<init>", "()V"⟩
abbrev cX5_variable : ByteArray := prog_1_method_2_code
def yX5_variable : MethodName := ⟨RX5, "variable", "(IZ)I"⟩
abbrev cX5_write : ByteArray := prog_1_method_3_code
def yX5_write : MethodName := ⟨RX5, "write", "(II)I"⟩
abbrev cX5_move : ByteArray := prog_1_method_4_code
def yX5_move : MethodName := ⟨RX5, "move", "(III)I"⟩
abbrev cX5_lend : ByteArray := prog_1_method_5_code
def yX5_lend : MethodName := ⟨RX5, "lend", "(III)I"⟩
abbrev cX5_relend : ByteArray := prog_1_method_6_code
def yX5_relend : MethodName := ⟨RX5, "relend", "(II)I"⟩
abbrev cX5_read : ByteArray := prog_1_method_7_code
def yX5_read : MethodName := ⟨RX5, "read", "(II)I"⟩
abbrev cX5_drop : ByteArray := prog_1_method_8_code
def yX5_drop : MethodName := ⟨RX5, "drop", "(I)I"⟩
abbrev cX5_call : ByteArray := prog_1_method_9_code
def yX5_call : MethodName := ⟨RX5, "call", "(IIII)I"⟩
abbrev cX5_branch : ByteArray := prog_1_method_10_code
def yX5_branch : MethodName := ⟨RX5, "branch", "(ZI)I"⟩
abbrev cX5_finish : ByteArray := prog_1_method_11_code
def yX5_finish : MethodName := ⟨RX5, "finish", "(I)I"⟩
abbrev cX5_undo : ByteArray := prog_1_method_13_code
def yX5_undo : MethodName := ⟨RX5, "undo", "()I"⟩
abbrev cX5_statements : ByteArray := prog_1_method_15_code
def yX5_statements : MethodName := ⟨RX5, "statements", "()I"⟩
abbrev cX5_codeOf : ByteArray := prog_1_method_16_code
def yX5_codeOf : MethodName := ⟨RX5, "codeOf", "(I)I"⟩
abbrev cX5_isReached : ByteArray := prog_1_method_17_code
def yX5_isReached : MethodName := ⟨RX5, "isReached", "(I)Z"⟩
abbrev cX5_canBe : ByteArray := prog_1_method_18_code
def yX5_canBe : MethodName := ⟨RX5, "canBe", "(III)I"⟩
abbrev cX5_holds : ByteArray := prog_1_method_19_code
def yX5_holds : MethodName := ⟨RX5, "holds", "(II)I"⟩
abbrev cX5_canHold : ByteArray := prog_1_method_20_code
def yX5_canHold : MethodName := ⟨RX5, "canHold", "(III)Z"⟩
abbrev cX5_awaited : ByteArray := prog_1_method_21_code
def yX5_awaited : MethodName := ⟨RX5, "awaited", "(I)I"⟩
abbrev cX5_loans : ByteArray := prog_1_method_22_code
def yX5_loans : MethodName := ⟨RX5, "loans", "()I"⟩
abbrev cX5_isLive : ByteArray := prog_1_method_23_code
def yX5_isLive : MethodName := ⟨RX5, "isLive", "(II)Z"⟩
abbrev cX5_region : ByteArray := prog_1_method_24_code
def yX5_region : MethodName := ⟨RX5, "region", "(I)I"⟩
abbrev cX5_faults : ByteArray := prog_1_method_25_code
def yX5_faults : MethodName := ⟨RX5, "faults", "()I"⟩
abbrev cX5_ofFault : ByteArray := prog_1_method_26_code
def yX5_ofFault : MethodName := ⟨RX5, "ofFault", "(II)I"⟩
abbrev cX5_faultsAt : ByteArray := prog_1_method_27_code
def yX5_faultsAt : MethodName := ⟨RX5, "faultsAt", "(I)I"⟩
abbrev cX5_faultsOf : ByteArray := prog_1_method_28_code
def yX5_faultsOf : MethodName := ⟨RX5, "faultsOf", "(I)I"⟩
abbrev cX5_without : ByteArray := prog_1_method_29_code
def yX5_without : MethodName := ⟨RX5, "without", "(I)I"⟩
abbrev cX5_copied : ByteArray := prog_1_method_30_code
def yX5_copied : MethodName := ⟨RX5, "copied", "(I)I"⟩
abbrev cX5_culprit : ByteArray := prog_1_method_31_code
def yX5_culprit : MethodName := ⟨RX5, "culprit", "()I"⟩
abbrev cX5_density : ByteArray := prog_1_method_32_code
def yX5_density : MethodName := ⟨RX5, "density", "()D"⟩
abbrev cX5_digest : ByteArray := prog_1_method_33_code
def yX5_digest : MethodName := ⟨RX5, "digest", "()J"⟩
abbrev cX5_addStatement : ByteArray := prog_1_method_34_code
def yX5_addStatement : MethodName := ⟨RX5, "addStatement", "(JLIronwood$Check;I)J"⟩
abbrev cX5_begin : ByteArray := prog_1_method_35_code
def yX5_begin : MethodName := ⟨RX5, "begin", "(I)I"⟩
abbrev cX5_checked : ByteArray := prog_1_method_36_code
def yX5_checked : MethodName := ⟨RX5, "checked", "()LIronwood$Check;"⟩
abbrev cX5_countSupposing : ByteArray := prog_1_method_37_code
def yX5_countSupposing : MethodName := ⟨RX5, "countSupposing", "(II)I"⟩
abbrev cX5_requireVariable : ByteArray := prog_1_method_38_code
def yX5_requireVariable : MethodName := ⟨RX5, "requireVariable", "(I)V"⟩
abbrev cX5_requireVariableOrNone : ByteArray := prog_1_method_39_code
def yX5_requireVariableOrNone : MethodName := ⟨RX5, "requireVariableOrNone", "(I)V"⟩
abbrev cX5_requireStatement : ByteArray := prog_1_method_40_code
def yX5_requireStatement : MethodName := ⟨RX5, "requireStatement", "(I)V"⟩
abbrev cX5_requireTarget : ByteArray := prog_1_method_41_code
def yX5_requireTarget : MethodName := ⟨RX5, "requireTarget", "(I)V"⟩
abbrev cX5_requireRoom : ByteArray := prog_1_method_42_code
def yX5_requireRoom : MethodName := ⟨RX5, "requireRoom", "()V"⟩
abbrev cX5_isIn : ByteArray := prog_1_method_43_code
def yX5_isIn : MethodName := ⟨RX5, "isIn", "(JI)Z"⟩
abbrev cX5_smallestIn : ByteArray := prog_1_method_44_code
def yX5_smallestIn : MethodName := ⟨RX5, "smallestIn", "(J)I"⟩
def RX6 : String := "IronwoodModel$Access"
def TX6 : u_T := fun k => match k with
  | _ => ("", "", "", false)
def tyX6 : Nat → FieldType := fun k => match k with
  | _ => .int
abbrev wsX60 : List Cond := u_ws RX6 TX6 0
theorem nmX6 : ∀ a, a < 0 → ∀ b, b < 0 → a ≠ b → (TX6 a).2.1 ≠ (TX6 b).2.1 := by decide +kernel
theorem tyX6_ok : ∀ k, k < 0 → parseFieldDescriptor (TX6 k).2.2.1 = some (tyX6 k) := by decide +kernel
def RX7 : String := "IronwoodModel$Look"
def TX7 : u_T := fun k => match k with
  | _ => ("", "", "", false)
def tyX7 : Nat → FieldType := fun k => match k with
  | _ => .int
abbrev wsX70 : List Cond := u_ws RX7 TX7 0
theorem nmX7 : ∀ a, a < 0 → ∀ b, b < 0 → a ≠ b → (TX7 a).2.1 ≠ (TX7 b).2.1 := by decide +kernel
theorem tyX7_ok : ∀ k, k < 0 → parseFieldDescriptor (TX7 k).2.2.1 = some (tyX7 k) := by decide +kernel
def RX8 : String := "IronwoodModel$State"
def TX8 : u_T := fun k => match k with
  | _ => ("", "", "", false)
def tyX8 : Nat → FieldType := fun k => match k with
  | _ => .int
abbrev wsX80 : List Cond := u_ws RX8 TX8 0
theorem nmX8 : ∀ a, a < 0 → ∀ b, b < 0 → a ≠ b → (TX8 a).2.1 ≠ (TX8 b).2.1 := by decide +kernel
theorem tyX8_ok : ∀ k, k < 0 → parseFieldDescriptor (TX8 k).2.2.1 = some (tyX8 k) := by decide +kernel
def RX9 : String := "IronwoodModel$Statement"
def TX9 : u_T := fun k => match k with
  | _ => ("", "", "", false)
def tyX9 : Nat → FieldType := fun k => match k with
  | _ => .int
abbrev wsX90 : List Cond := u_ws RX9 TX9 0
theorem nmX9 : ∀ a, a < 0 → ∀ b, b < 0 → a ≠ b → (TX9 a).2.1 ≠ (TX9 b).2.1 := by decide +kernel
theorem tyX9_ok : ∀ k, k < 0 → parseFieldDescriptor (TX9 k).2.2.1 = some (tyX9 k) := by decide +kernel
def RX10 : String := "IronwoodModel$Variable"
def TX10 : u_T := fun k => match k with
  | _ => ("", "", "", false)
def tyX10 : Nat → FieldType := fun k => match k with
  | _ => .int
abbrev wsX100 : List Cond := u_ws RX10 TX10 0
theorem nmX10 : ∀ a, a < 0 → ∀ b, b < 0 → a ≠ b → (TX10 a).2.1 ≠ (TX10 b).2.1 := by decide +kernel
theorem tyX10_ok : ∀ k, k < 0 → parseFieldDescriptor (TX10 k).2.2.1 = some (tyX10 k) := by decide +kernel
def RX11 : String := "IronwoodModel"
def TX11 : u_T := fun k => match k with
  | _ => ("", "", "", false)
def tyX11 : Nat → FieldType := fun k => match k with
  | _ => .int
abbrev wsX110 : List Cond := u_ws RX11 TX11 0
theorem nmX11 : ∀ a, a < 0 → ∀ b, b < 0 → a ≠ b → (TX11 a).2.1 ≠ (TX11 b).2.1 := by decide +kernel
theorem tyX11_ok : ∀ k, k < 0 → parseFieldDescriptor (TX11 k).2.2.1 = some (tyX11 k) := by decide +kernel
def RJx145de : String := "java/io/Serializable"
def TJx145de : u_T := fun k => match k with
  | _ => ("", "", "", false)
def tyJx145de : Nat → FieldType := fun k => match k with
  | _ => .int
abbrev wsJx145de0 : List Cond := u_ws RJx145de TJx145de 0
theorem nmJx145de : ∀ a, a < 0 → ∀ b, b < 0 → a ≠ b → (TJx145de a).2.1 ≠ (TJx145de b).2.1 := by decide +kernel
theorem tyJx145de_ok : ∀ k, k < 0 → parseFieldDescriptor (TJx145de k).2.2.1 = some (tyJx145de k) := by decide +kernel
def RJ13 : String := "java/lang/Long"
def TJ13 : u_T := fun k => match k with
  | _ => ("", "", "", false)
def tyJ13 : Nat → FieldType := fun k => match k with
  | _ => .int
abbrev wsJ130 : List Cond := u_ws RJ13 TJ13 0
theorem nmJ13 : ∀ a, a < 0 → ∀ b, b < 0 → a ≠ b → (TJ13 a).2.1 ≠ (TJ13 b).2.1 := by decide +kernel
theorem tyJ13_ok : ∀ k, k < 0 → parseFieldDescriptor (TJ13 k).2.2.1 = some (tyJ13 k) := by decide +kernel
abbrev cJ13_bitCount_95d88 : ByteArray := prog_18_method_50_code
def yJ13_bitCount_95d88 : MethodName := ⟨RJ13, "bitCount", "(J)I"⟩
def RJ9 : String := "java/lang/Math"
def TJ9 : u_T := fun k => match k with
  | _ => ("", "", "", false)
def tyJ9 : Nat → FieldType := fun k => match k with
  | _ => .int
abbrev wsJ90 : List Cond := u_ws RJ9 TJ9 0
theorem nmJ9 : ∀ a, a < 0 → ∀ b, b < 0 → a ≠ b → (TJ9 a).2.1 ≠ (TJ9 b).2.1 := by decide +kernel
theorem tyJ9_ok : ∀ k, k < 0 → parseFieldDescriptor (TJ9 k).2.2.1 = some (tyJ9 k) := by decide +kernel
abbrev cJ9_min_7cf53 : ByteArray := prog_19_method_69_code
def yJ9_min_7cf53 : MethodName := ⟨RJ9, "min", "(II)I"⟩
def RJ0 : String := "java/lang/String"
def TJ0 : u_T := fun k => match k with
  | _ => ("", "", "", false)
def tyJ0 : Nat → FieldType := fun k => match k with
  | _ => .int
abbrev wsJ00 : List Cond := u_ws RJ0 TJ0 0
theorem nmJ0 : ∀ a, a < 0 → ∀ b, b < 0 → a ≠ b → (TJ0 a).2.1 ≠ (TJ0 b).2.1 := by decide +kernel
theorem tyJ0_ok : ∀ k, k < 0 → parseFieldDescriptor (TJ0 k).2.2.1 = some (tyJ0 k) := by decide +kernel
def RL : String := "IronwoodLaw"
abbrev cL_below : ByteArray := method_2_code
def yL_below : MethodName := ⟨RL, "below", "(II)I"⟩
abbrev cL_cell : ByteArray := method_3_code
def yL_cell : MethodName := ⟨RL, "cell", "([II)I"⟩
abbrev cL_build : ByteArray := method_4_code
def yL_build : MethodName := ⟨RL, "build", "(LIronwood;[II[I[Z)[[I"⟩
abbrev cL_isField : ByteArray := method_5_code
def yL_isField : MethodName := ⟨RL, "isField", "([III)Z"⟩
abbrev cL_canTell : ByteArray := method_6_code
def yL_canTell : MethodName := ⟨RL, "canTell", "([I[I)Z"⟩
abbrev cL_tell : ByteArray := method_7_code
def yL_tell : MethodName := ⟨RL, "tell", "(LIronwood;[I)I"⟩
abbrev cL_law : ByteArray := code
def yL_law : MethodName := ⟨RL, "law", "([I)Z"⟩
abbrev vwCl : List vw_C := [(RX0, TX0, 3), (RX1, TX1, 4), (RX2, TX2, 11), (RX3, TX3, 13), (RX4, TX4, 9), (RX5, TX5, 4)]
