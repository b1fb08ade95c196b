/-! ===== BEGIN printed: names, fields, word lists, decode rows ===== -/
def RX0 : String := "LedgeLevels$Body"
def TX0 : u_T := fun k => match k with
  | 0 => ("LedgeLevels$Body", "strengths", "[I", true)
  | 1 => ("LedgeLevels$Body", "cell", "I", false)
  | 2 => ("LedgeLevels$Body", "speed", "I", false)
  | 3 => ("LedgeLevels$Body", "taken", "I", false)
  | _ => ("LedgeLevels$Body", "fate", "I", false)
def tyX0 : Nat → FieldType := fun k => match k with
  | 0 => .array .int
  | 1 => .int
  | 2 => .int
  | 3 => .int
  | _ => .int
abbrev wsX00 : List Cond := u_ws RX0 TX0 5
theorem nmX0 : ∀ a, a < 5 → ∀ b, b < 5 → a ≠ b → (TX0 a).2.1 ≠ (TX0 b).2.1 := by decide +kernel
theorem tyX0_ok : ∀ k, k < 5 → parseFieldDescriptor (TX0 k).2.2.1 = some (tyX0 k) := by decide +kernel
abbrev cX0_init : ByteArray := prog_2_method_1_code
def yX0_init : MethodName := ⟨RX0, "<init>", "([I)V"⟩
abbrev cX0_placeAtStart : ByteArray := prog_2_method_2_code
def yX0_placeAtStart : MethodName := ⟨RX0, "placeAtStart", "(LLedgeLevels$Grid;I)V"⟩
abbrev cX0_packed : ByteArray := prog_2_method_3_code
def yX0_packed : MethodName := ⟨RX0, "packed", "()I"⟩
abbrev cX0_unpack : ByteArray := prog_2_method_4_code
def yX0_unpack : MethodName := ⟨RX0, "unpack", "(I)V"⟩
abbrev cX0_stands : ByteArray := prog_2_method_5_code
def yX0_stands : MethodName := ⟨RX0, "stands", "(LLedgeLevels$Grid;)Z"⟩
abbrev cX0_move : ByteArray := prog_2_method_6_code
def yX0_move : MethodName := ⟨RX0, "move", "(LLedgeLevels$Grid;I)V"⟩
abbrev cX0_goSideways : ByteArray := prog_2_method_7_code
def yX0_goSideways : MethodName := ⟨RX0, "goSideways", "(LLedgeLevels$Grid;I)V"⟩
abbrev cX0_goUpOrDown : ByteArray := prog_2_method_8_code
def yX0_goUpOrDown : MethodName := ⟨RX0, "goUpOrDown", "(LLedgeLevels$Grid;)V"⟩
abbrev cX0_isSolidIn : ByteArray := prog_2_method_9_code
def yX0_isSolidIn : MethodName := ⟨RX0, "isSolidIn", "(LLedgeLevels$Grid;I)Z"⟩
abbrev cX0_strengthOf : ByteArray := prog_2_method_10_code
def yX0_strengthOf : MethodName := ⟨RX0, "strengthOf", "(I)I"⟩
abbrev cX0_comeTo : ByteArray := prog_2_method_11_code
def yX0_comeTo : MethodName := ⟨RX0, "comeTo", "(LLedgeLevels$Grid;I)V"⟩
def RX1 : String := "LedgeLevels$Grid"
def TX1 : u_T := fun k => match k with
  | 0 => ("LedgeLevels$Grid", "kinds", "[I", true)
  | 1 => ("LedgeLevels$Grid", "keyCells", "[I", true)
  | _ => ("LedgeLevels$Grid", "allKeys", "I", false)
def tyX1 : Nat → FieldType := fun k => match k with
  | 0 => .array .int
  | 1 => .array .int
  | _ => .int
abbrev wsX10 : List Cond := u_ws RX1 TX1 3
theorem nmX1 : ∀ a, a < 3 → ∀ b, b < 3 → a ≠ b → (TX1 a).2.1 ≠ (TX1 b).2.1 := by decide +kernel
theorem tyX1_ok : ∀ k, k < 3 → parseFieldDescriptor (TX1 k).2.2.1 = some (tyX1 k) := by decide +kernel
abbrev cX1_init : ByteArray := prog_3_method_1_code
def yX1_init : MethodName := ⟨RX1, "<init>", "()V"⟩
abbrev cX1_kindAt : ByteArray := prog_3_method_2_code
def yX1_kindAt : MethodName := ⟨RX1, "kindAt", "(I)I"⟩
abbrev cX1_put : ByteArray := prog_3_method_3_code
def yX1_put : MethodName := ⟨RX1, "put", "(II)V"⟩
abbrev cX1_changeKey : ByteArray := prog_3_method_4_code
def yX1_changeKey : MethodName := ⟨RX1, "changeKey", "(II)V"⟩
abbrev cX1_putAllOf : ByteArray := prog_3_method_5_code
def yX1_putAllOf : MethodName := ⟨RX1, "putAllOf", "(LLedgeLevels$Grid;)V"⟩
abbrev cX1_has : ByteArray := prog_3_method_6_code
def yX1_has : MethodName := ⟨RX1, "has", "(I)Z"⟩
abbrev cX1_keyCount : ByteArray := prog_3_method_7_code
def yX1_keyCount : MethodName := ⟨RX1, "keyCount", "()I"⟩
abbrev cX1_keyBit : ByteArray := prog_3_method_8_code
def yX1_keyBit : MethodName := ⟨RX1, "keyBit", "(I)I"⟩
def RX2 : String := "LedgeLevels$History"
def TX2 : u_T := fun k => match k with
  | 0 => ("LedgeLevels$History", "cells", "[I", true)
  | 1 => ("LedgeLevels$History", "kindsBefore", "[I", true)
  | 2 => ("LedgeLevels$History", "kindsAfter", "[I", true)
  | 3 => ("LedgeLevels$History", "done", "I", false)
  | _ => ("LedgeLevels$History", "undone", "I", false)
def tyX2 : Nat → FieldType := fun k => match k with
  | 0 => .array .int
  | 1 => .array .int
  | 2 => .array .int
  | 3 => .int
  | _ => .int
abbrev wsX20 : List Cond := u_ws RX2 TX2 5
theorem nmX2 : ∀ a, a < 5 → ∀ b, b < 5 → a ≠ b → (TX2 a).2.1 ≠ (TX2 b).2.1 := by decide +kernel
theorem tyX2_ok : ∀ k, k < 5 → parseFieldDescriptor (TX2 k).2.2.1 = some (tyX2 k) := by decide +kernel
abbrev cX2_init : ByteArray := prog_4_method_1_code
def yX2_init : MethodName := ⟨RX2, "<init>", "()V"⟩
abbrev cX2_remember : ByteArray := prog_4_method_2_code
def yX2_remember : MethodName := ⟨RX2, "remember", "(III)V"⟩
abbrev cX2_forgetEarliest : ByteArray := prog_4_method_3_code
def yX2_forgetEarliest : MethodName := ⟨RX2, "forgetEarliest", "()V"⟩
abbrev cX2_stepBack : ByteArray := prog_4_method_4_code
def yX2_stepBack : MethodName := ⟨RX2, "stepBack", "()V"⟩
abbrev cX2_stepOn : ByteArray := prog_4_method_5_code
def yX2_stepOn : MethodName := ⟨RX2, "stepOn", "()V"⟩
abbrev cX2_hasNext : ByteArray := prog_4_method_6_code
def yX2_hasNext : MethodName := ⟨RX2, "hasNext", "()Z"⟩
abbrev cX2_cellOfNext : ByteArray := prog_4_method_7_code
def yX2_cellOfNext : MethodName := ⟨RX2, "cellOfNext", "()I"⟩
abbrev cX2_kindBeforeNext : ByteArray := prog_4_method_8_code
def yX2_kindBeforeNext : MethodName := ⟨RX2, "kindBeforeNext", "()I"⟩
abbrev cX2_kindAfterNext : ByteArray := prog_4_method_9_code
def yX2_kindAfterNext : MethodName := ⟨RX2, "kindAfterNext", "()I"⟩
def RX3 : String := "LedgeLevels$Level"
def TX3 : u_T := fun k => match k with
  | 0 => ("LedgeLevels$Level", "author", "I", true)
  | 1 => ("LedgeLevels$Level", "parent", "LLedgeLevels$Work;", true)
  | 2 => ("LedgeLevels$Level", "grid", "LLedgeLevels$Grid;", true)
  | 3 => ("LedgeLevels$Level", "history", "LLedgeLevels$History;", true)
  | 4 => ("LedgeLevels$Level", "start", "I", false)
  | _ => ("LedgeLevels$Level", "proof", "I", false)
def tyX3 : Nat → FieldType := fun k => match k with
  | 0 => .int
  | 1 => .object "LedgeLevels$Work"
  | 2 => .object "LedgeLevels$Grid"
  | 3 => .object "LedgeLevels$History"
  | 4 => .int
  | _ => .int
abbrev wsX30 : List Cond := u_ws RX3 TX3 6
theorem nmX3 : ∀ a, a < 6 → ∀ b, b < 6 → a ≠ b → (TX3 a).2.1 ≠ (TX3 b).2.1 := by decide +kernel
theorem tyX3_ok : ∀ k, k < 6 → parseFieldDescriptor (TX3 k).2.2.1 = some (tyX3 k) := by decide +kernel
abbrev cX3_init : ByteArray := prog_5_method_1_code
def yX3_init : MethodName := ⟨RX3, "<init>", "(ILLedgeLevels$Work;)V"⟩
abbrev cX3_putAnew : ByteArray := prog_5_method_2_code
def yX3_putAnew : MethodName := ⟨RX3, "putAnew", "(II)V"⟩
def RX4 : String := "LedgeLevels$Run"
def TX4 : u_T := fun k => match k with
  | 0 => ("LedgeLevels$Run", "body", "LLedgeLevels$Body;", true)
  | 1 => ("LedgeLevels$Run", "work", "LLedgeLevels$Work;", false)
  | 2 => ("LedgeLevels$Run", "state", "I", false)
  | _ => ("LedgeLevels$Run", "steps", "I", false)
def tyX4 : Nat → FieldType := fun k => match k with
  | 0 => .object "LedgeLevels$Body"
  | 1 => .object "LedgeLevels$Work"
  | 2 => .int
  | _ => .int
abbrev wsX40 : List Cond := u_ws RX4 TX4 4
theorem nmX4 : ∀ a, a < 4 → ∀ b, b < 4 → a ≠ b → (TX4 a).2.1 ≠ (TX4 b).2.1 := by decide +kernel
theorem tyX4_ok : ∀ k, k < 4 → parseFieldDescriptor (TX4 k).2.2.1 = some (tyX4 k) := by decide +kernel
abbrev cX4_init : ByteArray := prog_6_method_1_code
def yX4_init : MethodName := ⟨RX4, "<init>", "([I)V"⟩
abbrev cX4_beginOn : ByteArray := prog_6_method_2_code
def yX4_beginOn : MethodName := ⟨RX4, "beginOn", "(LLedgeLevels$Work;)V"⟩
abbrev cX4_goOn : ByteArray := prog_6_method_3_code
def yX4_goOn : MethodName := ⟨RX4, "goOn", "(I)V"⟩
abbrev cX4_takeStateOfBody : ByteArray := prog_6_method_4_code
def yX4_takeStateOfBody : MethodName := ⟨RX4, "takeStateOfBody", "()V"⟩
abbrev cX4_answer : ByteArray := prog_6_method_5_code
def yX4_answer : MethodName := ⟨RX4, "answer", "()I"⟩
def RX5 : String := "LedgeLevels$Search"
def TX5 : u_T := fun k => match k with
  | 0 => ("LedgeLevels$Search", "body", "LLedgeLevels$Body;", true)
  | 1 => ("LedgeLevels$Search", "queue", "[I", true)
  | 2 => ("LedgeLevels$Search", "seenIn", "[I", true)
  | 3 => ("LedgeLevels$Search", "reached", "[Z", true)
  | 4 => ("LedgeLevels$Search", "number", "I", false)
  | 5 => ("LedgeLevels$Search", "tail", "I", false)
  | _ => ("LedgeLevels$Search", "won", "I", false)
def tyX5 : Nat → FieldType := fun k => match k with
  | 0 => .object "LedgeLevels$Body"
  | 1 => .array .int
  | 2 => .array .int
  | 3 => .array .boolean
  | 4 => .int
  | 5 => .int
  | _ => .int
abbrev wsX50 : List Cond := u_ws RX5 TX5 7
theorem nmX5 : ∀ a, a < 7 → ∀ b, b < 7 → a ≠ b → (TX5 a).2.1 ≠ (TX5 b).2.1 := by decide +kernel
theorem tyX5_ok : ∀ k, k < 7 → parseFieldDescriptor (TX5 k).2.2.1 = some (tyX5 k) := by decide +kernel
abbrev cX5_init : ByteArray := prog_7_method_1_code
def yX5_init : MethodName := ⟨RX5, "<init>", "([I)V"⟩
abbrev cX5_explore : ByteArray := prog_7_method_2_code
def yX5_explore : MethodName := ⟨RX5, "explore", "(LLedgeLevels$Grid;IZ)I"⟩
abbrev cX5_restart : ByteArray := prog_7_method_3_code
def yX5_restart : MethodName := ⟨RX5, "restart", "()V"⟩
abbrev cX5_tryInputsFrom : ByteArray := prog_7_method_4_code
def yX5_tryInputsFrom : MethodName := ⟨RX5, "tryInputsFrom", "(LLedgeLevels$Grid;II)V"⟩
abbrev cX5_noteBody : ByteArray := prog_7_method_5_code
def yX5_noteBody : MethodName := ⟨RX5, "noteBody", "(I)V"⟩
abbrev cX5_enqueueNew : ByteArray := prog_7_method_6_code
def yX5_enqueueNew : MethodName := ⟨RX5, "enqueueNew", "(I)V"⟩
abbrev cX5_enqueue : ByteArray := prog_7_method_7_code
def yX5_enqueue : MethodName := ⟨RX5, "enqueue", "(I)V"⟩
abbrev cX5_queuedAt : ByteArray := prog_7_method_8_code
def yX5_queuedAt : MethodName := ⟨RX5, "queuedAt", "(I)I"⟩
abbrev cX5_fewestStepsByRows : ByteArray := prog_7_method_9_code
def yX5_fewestStepsByRows : MethodName := ⟨RX5, "fewestStepsByRows", "(LLedgeLevels$Grid;II)I"⟩
abbrev cX5_winsByOneMore : ByteArray := prog_7_method_10_code
def yX5_winsByOneMore : MethodName := ⟨RX5, "winsByOneMore", "(LLedgeLevels$Grid;IZ)Z"⟩
abbrev cX5_reachedCount : ByteArray := prog_7_method_11_code
def yX5_reachedCount : MethodName := ⟨RX5, "reachedCount", "()I"⟩
abbrev cX5_farthestReached : ByteArray := prog_7_method_12_code
def yX5_farthestReached : MethodName := ⟨RX5, "farthestReached", "()I"⟩
def RX6 : String := "LedgeLevels$Work"
def TX6 : u_T := fun k => match k with
  | 0 => ("LedgeLevels$Work", "number", "I", true)
  | 1 => ("LedgeLevels$Work", "author", "I", true)
  | 2 => ("LedgeLevels$Work", "parent", "LLedgeLevels$Work;", true)
  | 3 => ("LedgeLevels$Work", "grid", "LLedgeLevels$Grid;", true)
  | 4 => ("LedgeLevels$Work", "start", "I", true)
  | 5 => ("LedgeLevels$Work", "given", "[I", true)
  | 6 => ("LedgeLevels$Work", "best", "I", false)
  | _ => ("LedgeLevels$Work", "record", "I", false)
def tyX6 : Nat → FieldType := fun k => match k with
  | 0 => .int
  | 1 => .int
  | 2 => .object "LedgeLevels$Work"
  | 3 => .object "LedgeLevels$Grid"
  | 4 => .int
  | 5 => .array .int
  | 6 => .int
  | _ => .int
abbrev wsX60 : List Cond := u_ws RX6 TX6 8
theorem nmX6 : ∀ a, a < 8 → ∀ b, b < 8 → a ≠ b → (TX6 a).2.1 ≠ (TX6 b).2.1 := by decide +kernel
theorem tyX6_ok : ∀ k, k < 8 → parseFieldDescriptor (TX6 k).2.2.1 = some (tyX6 k) := by decide +kernel
abbrev cX6_init : ByteArray := prog_8_method_1_code
def yX6_init : MethodName := ⟨RX6, "<init>", "(ILLedgeLevels$Level;)V"⟩
abbrev cX6_starSum : ByteArray := prog_8_method_2_code
def yX6_starSum : MethodName := ⟨RX6, "starSum", "()I"⟩
abbrev cX6_comesFrom : ByteArray := prog_8_method_3_code
def yX6_comesFrom : MethodName := ⟨RX6, "comesFrom", "(LLedgeLevels$Work;)Z"⟩
abbrev cX6_comesFromWorkBy : ByteArray := prog_8_method_4_code
def yX6_comesFromWorkBy : MethodName := ⟨RX6, "comesFromWorkBy", "(I)Z"⟩
abbrev cX6_noteWin : ByteArray := prog_8_method_5_code
def yX6_noteWin : MethodName := ⟨RX6, "noteWin", "(I)V"⟩
def RX7 : String := "LedgeLevels"
def TX7 : u_T := fun k => match k with
  | 0 => ("LedgeLevels", "strengths", "[I", true)
  | 1 => ("LedgeLevels", "levels", "[LLedgeLevels$Level;", true)
  | 2 => ("LedgeLevels", "works", "[LLedgeLevels$Work;", true)
  | 3 => ("LedgeLevels", "runs", "[LLedgeLevels$Run;", true)
  | 4 => ("LedgeLevels", "search", "LLedgeLevels$Search;", true)
  | 5 => ("LedgeLevels", "levelCount", "I", false)
  | _ => ("LedgeLevels", "workCount", "I", false)
def tyX7 : Nat → FieldType := fun k => match k with
  | 0 => .array .int
  | 1 => .array (.object "LedgeLevels$Level")
  | 2 => .array (.object "LedgeLevels$Work")
  | 3 => .array (.object "LedgeLevels$Run")
  | 4 => .object "LedgeLevels$Search"
  | 5 => .int
  | _ => .int
abbrev wsX70 : List Cond := u_ws RX7 TX7 7
theorem nmX7 : ∀ a, a < 7 → ∀ b, b < 7 → a ≠ b → (TX7 a).2.1 ≠ (TX7 b).2.1 := by decide +kernel
theorem tyX7_ok : ∀ k, k < 7 → parseFieldDescriptor (TX7 k).2.2.1 = some (tyX7 k) := by decide +kernel
abbrev cX7_init : ByteArray := prog_1_method_1_code
def yX7_init : MethodName := ⟨RX7, "<init>", "()V"⟩
abbrev cX7_begin : ByteArray := prog_1_method_2_code
def yX7_begin : MethodName := ⟨RX7, "begin", "(I)I"⟩
abbrev cX7_set : ByteArray := prog_1_method_3_code
def yX7_set : MethodName := ⟨RX7, "set", "(III)I"⟩
abbrev cX7_setStart : ByteArray := prog_1_method_4_code
def yX7_setStart : MethodName := ⟨RX7, "setStart", "(II)I"⟩
abbrev cX7_undo : ByteArray := prog_1_method_5_code
def yX7_undo : MethodName := ⟨RX7, "undo", "(I)I"⟩
abbrev cX7_redo : ByteArray := prog_1_method_6_code
def yX7_redo : MethodName := ⟨RX7, "redo", "(I)I"⟩
abbrev cX7_setSpring : ByteArray := prog_1_method_7_code
def yX7_setSpring : MethodName := ⟨RX7, "setSpring", "(II)I"⟩
abbrev cX7_prove : ByteArray := prog_1_method_8_code
def yX7_prove : MethodName := ⟨RX7, "prove", "(I)I"⟩
abbrev cX7_offer : ByteArray := prog_1_method_9_code
def yX7_offer : MethodName := ⟨RX7, "offer", "(I)I"⟩
abbrev cX7_copy : ByteArray := prog_1_method_10_code
def yX7_copy : MethodName := ⟨RX7, "copy", "(II)I"⟩
abbrev cX7_star : ByteArray := prog_1_method_11_code
def yX7_star : MethodName := ⟨RX7, "star", "(III)I"⟩
abbrev cX7_run : ByteArray := prog_1_method_12_code
def yX7_run : MethodName := ⟨RX7, "run", "(II)I"⟩
abbrev cX7_step : ByteArray := prog_1_method_13_code
def yX7_step : MethodName := ⟨RX7, "step", "(II)I"⟩
abbrev cX7_levels : ByteArray := prog_1_method_14_code
def yX7_levels : MethodName := ⟨RX7, "levels", "()I"⟩
abbrev cX7_at : ByteArray := prog_1_method_15_code
def yX7_at : MethodName := ⟨RX7, "at", "(II)I"⟩
abbrev cX7_start : ByteArray := prog_1_method_16_code
def yX7_start : MethodName := ⟨RX7, "start", "(I)I"⟩
abbrev cX7_edits : ByteArray := prog_1_method_17_code
def yX7_edits : MethodName := ⟨RX7, "edits", "(IZ)I"⟩
abbrev cX7_proof : ByteArray := prog_1_method_18_code
def yX7_proof : MethodName := ⟨RX7, "proof", "(I)I"⟩
abbrev cX7_shortest : ByteArray := prog_1_method_19_code
def yX7_shortest : MethodName := ⟨RX7, "shortest", "(II)I"⟩
abbrev cX7_reach : ByteArray := prog_1_method_20_code
def yX7_reach : MethodName := ⟨RX7, "reach", "(I)I"⟩
abbrev cX7_farthest : ByteArray := prog_1_method_21_code
def yX7_farthest : MethodName := ⟨RX7, "farthest", "(I)I"⟩
abbrev cX7_strength : ByteArray := prog_1_method_22_code
def yX7_strength : MethodName := ⟨RX7, "strength", "(I)I"⟩
abbrev cX7_works : ByteArray := prog_1_method_23_code
def yX7_works : MethodName := ⟨RX7, "works", "()I"⟩
abbrev cX7_author : ByteArray := prog_1_method_24_code
def yX7_author : MethodName := ⟨RX7, "author", "(I)I"⟩
abbrev cX7_best : ByteArray := prog_1_method_25_code
def yX7_best : MethodName := ⟨RX7, "best", "(I)I"⟩
abbrev cX7_parent : ByteArray := prog_1_method_26_code
def yX7_parent : MethodName := ⟨RX7, "parent", "(I)I"⟩
abbrev cX7_line : ByteArray := prog_1_method_27_code
def yX7_line : MethodName := ⟨RX7, "line", "(I)I"⟩
abbrev cX7_stars : ByteArray := prog_1_method_28_code
def yX7_stars : MethodName := ⟨RX7, "stars", "(I)I"⟩
abbrev cX7_credit : ByteArray := prog_1_method_29_code
def yX7_credit : MethodName := ⟨RX7, "credit", "(I)I"⟩
abbrev cX7_record : ByteArray := prog_1_method_30_code
def yX7_record : MethodName := ⟨RX7, "record", "(I)I"⟩
abbrev cX7_runState : ByteArray := prog_1_method_31_code
def yX7_runState : MethodName := ⟨RX7, "runState", "(I)I"⟩
abbrev cX7_body : ByteArray := prog_1_method_32_code
def yX7_body : MethodName := ⟨RX7, "body", "(I)I"⟩
abbrev cX7_speed : ByteArray := prog_1_method_33_code
def yX7_speed : MethodName := ⟨RX7, "speed", "(I)I"⟩
abbrev cX7_keys : ByteArray := prog_1_method_34_code
def yX7_keys : MethodName := ⟨RX7, "keys", "(I)I"⟩
abbrev cX7_stepsOf : ByteArray := prog_1_method_35_code
def yX7_stepsOf : MethodName := ⟨RX7, "stepsOf", "(I)I"⟩
abbrev cX7_checkPerson : ByteArray := prog_1_method_36_code
def yX7_checkPerson : MethodName := ⟨RX7, "checkPerson", "(I)V"⟩
abbrev cX7_checkCell : ByteArray := prog_1_method_37_code
def yX7_checkCell : MethodName := ⟨RX7, "checkCell", "(I)V"⟩
abbrev cX7_checkSpring : ByteArray := prog_1_method_38_code
def yX7_checkSpring : MethodName := ⟨RX7, "checkSpring", "(I)V"⟩
abbrev cX7_checkNotWithdrawn : ByteArray := prog_1_method_39_code
def yX7_checkNotWithdrawn : MethodName := ⟨RX7, "checkNotWithdrawn", "(LLedgeLevels$Work;)V"⟩
abbrev cX7_levelOf : ByteArray := prog_1_method_40_code
def yX7_levelOf : MethodName := ⟨RX7, "levelOf", "(I)LLedgeLevels$Level;"⟩
abbrev cX7_workOf : ByteArray := prog_1_method_41_code
def yX7_workOf : MethodName := ⟨RX7, "workOf", "(I)LLedgeLevels$Work;"⟩
abbrev cX7_runOf : ByteArray := prog_1_method_42_code
def yX7_runOf : MethodName := ⟨RX7, "runOf", "(I)LLedgeLevels$Run;"⟩
abbrev cX7_addLevel : ByteArray := prog_1_method_43_code
def yX7_addLevel : MethodName := ⟨RX7, "addLevel", "(ILLedgeLevels$Work;)LLedgeLevels$Level;"⟩
abbrev cX7_endRunsIfWithdrawn : ByteArray := prog_1_method_44_code
def yX7_endRunsIfWithdrawn : MethodName := ⟨RX7, "endRunsIfWithdrawn", "(LLedgeLevels$Work;)V"⟩
abbrev cX7_voidProofsWith : ByteArray := prog_1_method_45_code
def yX7_voidProofsWith : MethodName := ⟨RX7, "voidProofsWith", "(I)I"⟩
abbrev cX7_isCell : ByteArray := prog_1_method_46_code
def yX7_isCell : MethodName := ⟨RX7, "isCell", "(I)Z"⟩
def RX8 : String := "LedgeLevelsModel"
def TX8 : u_T := fun k => match k with
  | 0 => ("LedgeLevelsModel", "thrown", "I", false)
  | 1 => ("LedgeLevelsModel", "strength", "[I", true)
  | 2 => ("LedgeLevelsModel", "levels", "I", false)
  | 3 => ("LedgeLevelsModel", "maker", "[I", true)
  | 4 => ("LedgeLevelsModel", "grid", "[I", true)
  | 5 => ("LedgeLevelsModel", "begins", "[I", true)
  | 6 => ("LedgeLevelsModel", "proofs", "[I", true)
  | 7 => ("LedgeLevelsModel", "origin", "[I", true)
  | 8 => ("LedgeLevelsModel", "undos", "[I", true)
  | 9 => ("LedgeLevelsModel", "undoCell", "[I", true)
  | 10 => ("LedgeLevelsModel", "undoKind", "[I", true)
  | 11 => ("LedgeLevelsModel", "redos", "[I", true)
  | 12 => ("LedgeLevelsModel", "redoCell", "[I", true)
  | 13 => ("LedgeLevelsModel", "redoKind", "[I", true)
  | 14 => ("LedgeLevelsModel", "works", "I", false)
  | 15 => ("LedgeLevelsModel", "author", "[I", true)
  | 16 => ("LedgeLevelsModel", "shape", "[I", true)
  | 17 => ("LedgeLevelsModel", "from", "[I", true)
  | 18 => ("LedgeLevelsModel", "best", "[I", true)
  | 19 => ("LedgeLevelsModel", "parent", "[I", true)
  | 20 => ("LedgeLevelsModel", "record", "[I", true)
  | 21 => ("LedgeLevelsModel", "stars", "[I", true)
  | 22 => ("LedgeLevelsModel", "runState", "[I", true)
  | 23 => ("LedgeLevelsModel", "runWork", "[I", true)
  | 24 => ("LedgeLevelsModel", "runCell", "[I", true)
  | 25 => ("LedgeLevelsModel", "runSpeed", "[I", true)
  | 26 => ("LedgeLevelsModel", "runTaken", "[I", true)
  | 27 => ("LedgeLevelsModel", "runSteps", "[I", true)
  | 28 => ("LedgeLevelsModel", "ground", "[I", true)
  | 29 => ("LedgeLevelsModel", "keyBit", "[I", true)
  | 30 => ("LedgeLevelsModel", "allKeys", "I", false)
  | 31 => ("LedgeLevelsModel", "cell", "I", false)
  | 32 => ("LedgeLevelsModel", "speed", "I", false)
  | 33 => ("LedgeLevelsModel", "taken", "I", false)
  | 34 => ("LedgeLevelsModel", "state", "I", false)
  | 35 => ("LedgeLevelsModel", "queue", "[I", true)
  | 36 => ("LedgeLevelsModel", "far", "[I", true)
  | _ => ("LedgeLevelsModel", "reached", "[Z", true)
def tyX8 : Nat → FieldType := fun k => match k with
  | 0 => .int
  | 1 => .array .int
  | 2 => .int
  | 3 => .array .int
  | 4 => .array .int
  | 5 => .array .int
  | 6 => .array .int
  | 7 => .array .int
  | 8 => .array .int
  | 9 => .array .int
  | 10 => .array .int
  | 11 => .array .int
  | 12 => .array .int
  | 13 => .array .int
  | 14 => .int
  | 15 => .array .int
  | 16 => .array .int
  | 17 => .array .int
  | 18 => .array .int
  | 19 => .array .int
  | 20 => .array .int
  | 21 => .array .int
  | 22 => .array .int
  | 23 => .array .int
  | 24 => .array .int
  | 25 => .array .int
  | 26 => .array .int
  | 27 => .array .int
  | 28 => .array .int
  | 29 => .array .int
  | 30 => .int
  | 31 => .int
  | 32 => .int
  | 33 => .int
  | 34 => .int
  | 35 => .array .int
  | 36 => .array .int
  | _ => .array .boolean
abbrev wsX80 : List Cond := u_ws RX8 TX8 38
theorem nmX8 : ∀ a, a < 38 → ∀ b, b < 38 → a ≠ b → (TX8 a).2.1 ≠ (TX8 b).2.1 := by decide +kernel
theorem tyX8_ok : ∀ k, k < 38 → parseFieldDescriptor (TX8 k).2.2.1 = some (tyX8 k) := by decide +kernel
abbrev cX8_init : ByteArray := prog_10_method_1_code
def yX8_init : MethodName := ⟨RX8, "<init>", "()V"⟩
abbrev cX8_thrown : ByteArray := prog_10_method_2_code
def yX8_thrown : MethodName := ⟨RX8, "thrown", "()I"⟩
abbrev cX8_fails : ByteArray := prog_10_method_3_code
def yX8_fails : MethodName := ⟨RX8, "fails", "(I)I"⟩
abbrev cX8_in : ByteArray := prog_10_method_4_code
def yX8_in : MethodName := ⟨RX8, "in", "(III)Z"⟩
abbrev cX8_isCell : ByteArray := prog_10_method_5_code
def yX8_isCell : MethodName := ⟨RX8, "isCell", "(I)Z"⟩
abbrev cX8_isPerson : ByteArray := prog_10_method_6_code
def yX8_isPerson : MethodName := ⟨RX8, "isPerson", "(I)Z"⟩
abbrev cX8_isLevel : ByteArray := prog_10_method_7_code
def yX8_isLevel : MethodName := ⟨RX8, "isLevel", "(I)Z"⟩
abbrev cX8_isWork : ByteArray := prog_10_method_8_code
def yX8_isWork : MethodName := ⟨RX8, "isWork", "(I)Z"⟩
abbrev cX8_lays : ByteArray := prog_10_method_9_code
def yX8_lays : MethodName := ⟨RX8, "lays", "(ZI)V"⟩
abbrev cX8_isSolid : ByteArray := prog_10_method_10_code
def yX8_isSolid : MethodName := ⟨RX8, "isSolid", "(II)Z"⟩
abbrev cX8_comes : ByteArray := prog_10_method_11_code
def yX8_comes : MethodName := ⟨RX8, "comes", "(II)V"⟩
abbrev cX8_starts : ByteArray := prog_10_method_12_code
def yX8_starts : MethodName := ⟨RX8, "starts", "(I)V"⟩
abbrev cX8_moves : ByteArray := prog_10_method_13_code
def yX8_moves : MethodName := ⟨RX8, "moves", "(I)V"⟩
abbrev cX8_code : ByteArray := prog_10_method_14_code
def yX8_code : MethodName := ⟨RX8, "code", "()I"⟩
abbrev cX8_searches : ByteArray := prog_10_method_15_code
def yX8_searches : MethodName := ⟨RX8, "searches", "(I)I"⟩
abbrev cX8_opens : ByteArray := prog_10_method_16_code
def yX8_opens : MethodName := ⟨RX8, "opens", "(III)I"⟩
abbrev cX8_begin : ByteArray := prog_10_method_17_code
def yX8_begin : MethodName := ⟨RX8, "begin", "(I)I"⟩
abbrev cX8_keysOf : ByteArray := prog_10_method_18_code
def yX8_keysOf : MethodName := ⟨RX8, "keysOf", "(I)I"⟩
abbrev cX8_remembers : ByteArray := prog_10_method_19_code
def yX8_remembers : MethodName := ⟨RX8, "remembers", "(III)V"⟩
abbrev cX8_set : ByteArray := prog_10_method_20_code
def yX8_set : MethodName := ⟨RX8, "set", "(III)I"⟩
abbrev cX8_setStart : ByteArray := prog_10_method_21_code
def yX8_setStart : MethodName := ⟨RX8, "setStart", "(II)I"⟩
abbrev cX8_undo : ByteArray := prog_10_method_22_code
def yX8_undo : MethodName := ⟨RX8, "undo", "(I)I"⟩
abbrev cX8_redo : ByteArray := prog_10_method_23_code
def yX8_redo : MethodName := ⟨RX8, "redo", "(I)I"⟩
abbrev cX8_isInLevel : ByteArray := prog_10_method_24_code
def yX8_isInLevel : MethodName := ⟨RX8, "isInLevel", "(II)Z"⟩
abbrev cX8_isInWork : ByteArray := prog_10_method_25_code
def yX8_isInWork : MethodName := ⟨RX8, "isInWork", "(II)Z"⟩
abbrev cX8_tries : ByteArray := prog_10_method_26_code
def yX8_tries : MethodName := ⟨RX8, "tries", "(I)V"⟩
abbrev cX8_setSpring : ByteArray := prog_10_method_27_code
def yX8_setSpring : MethodName := ⟨RX8, "setSpring", "(II)I"⟩
abbrev cX8_prove : ByteArray := prog_10_method_28_code
def yX8_prove : MethodName := ⟨RX8, "prove", "(I)I"⟩
abbrev cX8_offer : ByteArray := prog_10_method_29_code
def yX8_offer : MethodName := ⟨RX8, "offer", "(I)I"⟩
abbrev cX8_copy : ByteArray := prog_10_method_30_code
def yX8_copy : MethodName := ⟨RX8, "copy", "(II)I"⟩
abbrev cX8_star : ByteArray := prog_10_method_31_code
def yX8_star : MethodName := ⟨RX8, "star", "(III)I"⟩
abbrev cX8_keeps : ByteArray := prog_10_method_32_code
def yX8_keeps : MethodName := ⟨RX8, "keeps", "(I)I"⟩
abbrev cX8_run : ByteArray := prog_10_method_33_code
def yX8_run : MethodName := ⟨RX8, "run", "(II)I"⟩
abbrev cX8_step : ByteArray := prog_10_method_34_code
def yX8_step : MethodName := ⟨RX8, "step", "(II)I"⟩
abbrev cX8_levels : ByteArray := prog_10_method_35_code
def yX8_levels : MethodName := ⟨RX8, "levels", "()I"⟩
abbrev cX8_at : ByteArray := prog_10_method_36_code
def yX8_at : MethodName := ⟨RX8, "at", "(II)I"⟩
abbrev cX8_start : ByteArray := prog_10_method_37_code
def yX8_start : MethodName := ⟨RX8, "start", "(I)I"⟩
abbrev cX8_edits : ByteArray := prog_10_method_38_code
def yX8_edits : MethodName := ⟨RX8, "edits", "(IZ)I"⟩
abbrev cX8_proof : ByteArray := prog_10_method_39_code
def yX8_proof : MethodName := ⟨RX8, "proof", "(I)I"⟩
abbrev cX8_shortest : ByteArray := prog_10_method_40_code
def yX8_shortest : MethodName := ⟨RX8, "shortest", "(II)I"⟩
abbrev cX8_reach : ByteArray := prog_10_method_41_code
def yX8_reach : MethodName := ⟨RX8, "reach", "(I)I"⟩
abbrev cX8_farthest : ByteArray := prog_10_method_42_code
def yX8_farthest : MethodName := ⟨RX8, "farthest", "(I)I"⟩
abbrev cX8_strength : ByteArray := prog_10_method_43_code
def yX8_strength : MethodName := ⟨RX8, "strength", "(I)I"⟩
abbrev cX8_works : ByteArray := prog_10_method_44_code
def yX8_works : MethodName := ⟨RX8, "works", "()I"⟩
abbrev cX8_author : ByteArray := prog_10_method_45_code
def yX8_author : MethodName := ⟨RX8, "author", "(I)I"⟩
abbrev cX8_best : ByteArray := prog_10_method_46_code
def yX8_best : MethodName := ⟨RX8, "best", "(I)I"⟩
abbrev cX8_parent : ByteArray := prog_10_method_47_code
def yX8_parent : MethodName := ⟨RX8, "parent", "(I)I"⟩
abbrev cX8_isInLine : ByteArray := prog_10_method_48_code
def yX8_isInLine : MethodName := ⟨RX8, "isInLine", "(II)Z"⟩
abbrev cX8_line : ByteArray := prog_10_method_49_code
def yX8_line : MethodName := ⟨RX8, "line", "(I)I"⟩
abbrev cX8_sumOf : ByteArray := prog_10_method_50_code
def yX8_sumOf : MethodName := ⟨RX8, "sumOf", "(I)I"⟩
abbrev cX8_stars : ByteArray := prog_10_method_51_code
def yX8_stars : MethodName := ⟨RX8, "stars", "(I)I"⟩
abbrev cX8_credit : ByteArray := prog_10_method_52_code
def yX8_credit : MethodName := ⟨RX8, "credit", "(I)I"⟩
abbrev cX8_record : ByteArray := prog_10_method_53_code
def yX8_record : MethodName := ⟨RX8, "record", "(I)I"⟩
abbrev cX8_runState : ByteArray := prog_10_method_54_code
def yX8_runState : MethodName := ⟨RX8, "runState", "(I)I"⟩
abbrev cX8_body : ByteArray := prog_10_method_55_code
def yX8_body : MethodName := ⟨RX8, "body", "(I)I"⟩
abbrev cX8_speed : ByteArray := prog_10_method_56_code
def yX8_speed : MethodName := ⟨RX8, "speed", "(I)I"⟩
abbrev cX8_keys : ByteArray := prog_10_method_57_code
def yX8_keys : MethodName := ⟨RX8, "keys", "(I)I"⟩
abbrev cX8_stepsOf : ByteArray := prog_10_method_58_code
def yX8_stepsOf : MethodName := ⟨RX8, "stepsOf", "(I)I"⟩
def RJ6 : String := "java/lang/Integer"
def TJ6 : u_T := fun k => match k with
  | _ => ("", "", "", false)
def tyJ6 : Nat → FieldType := fun k => match k with
  | _ => .int
abbrev wsJ60 : List Cond := u_ws RJ6 TJ6 0
theorem nmJ6 : ∀ a, a < 0 → ∀ b, b < 0 → a ≠ b → (TJ6 a).2.1 ≠ (TJ6 b).2.1 := by decide +kernel
theorem tyJ6_ok : ∀ k, k < 0 → parseFieldDescriptor (TJ6 k).2.2.1 = some (tyJ6 k) := by decide +kernel
abbrev cJ6_bitCount_0f7a4 : ByteArray := prog_15_method_49_code
def yJ6_bitCount_0f7a4 : MethodName := ⟨RJ6, "bitCount", "(I)I"⟩
def RJ0 : String := "java/lang/String"
def TJ0 : u_T := fun k => match k with
  | _ => ("", "", "", false)
def tyJ0 : Nat → FieldType := fun k => match k with
  | _ => .int
abbrev wsJ00 : List Cond := u_ws RJ0 TJ0 0
theorem nmJ0 : ∀ a, a < 0 → ∀ b, b < 0 → a ≠ b → (TJ0 a).2.1 ≠ (TJ0 b).2.1 := by decide +kernel
theorem tyJ0_ok : ∀ k, k < 0 → parseFieldDescriptor (TJ0 k).2.2.1 = some (tyJ0 k) := by decide +kernel
def RL : String := "LedgeLevelsLaw"
abbrev cL_begin : ByteArray := method_3_code
def yL_begin : MethodName := ⟨RL, "begin", "(LLedgeLevels;I[J)I"⟩
abbrev cL_set : ByteArray := method_4_code
def yL_set : MethodName := ⟨RL, "set", "(LLedgeLevels;III[J)I"⟩
abbrev cL_setStart : ByteArray := method_5_code
def yL_setStart : MethodName := ⟨RL, "setStart", "(LLedgeLevels;II[J)I"⟩
abbrev cL_undo : ByteArray := method_6_code
def yL_undo : MethodName := ⟨RL, "undo", "(LLedgeLevels;I[J)I"⟩
abbrev cL_redo : ByteArray := method_7_code
def yL_redo : MethodName := ⟨RL, "redo", "(LLedgeLevels;I[J)I"⟩
abbrev cL_setSpring : ByteArray := method_8_code
def yL_setSpring : MethodName := ⟨RL, "setSpring", "(LLedgeLevels;II[J)I"⟩
abbrev cL_prove : ByteArray := method_9_code
def yL_prove : MethodName := ⟨RL, "prove", "(LLedgeLevels;I[J)I"⟩
abbrev cL_offer : ByteArray := method_10_code
def yL_offer : MethodName := ⟨RL, "offer", "(LLedgeLevels;I[J)I"⟩
abbrev cL_copy : ByteArray := method_11_code
def yL_copy : MethodName := ⟨RL, "copy", "(LLedgeLevels;II[J)I"⟩
abbrev cL_star : ByteArray := method_12_code
def yL_star : MethodName := ⟨RL, "star", "(LLedgeLevels;III[J)I"⟩
abbrev cL_run : ByteArray := method_13_code
def yL_run : MethodName := ⟨RL, "run", "(LLedgeLevels;II[J)I"⟩
abbrev cL_step : ByteArray := method_14_code
def yL_step : MethodName := ⟨RL, "step", "(LLedgeLevels;II[J)I"⟩
abbrev cL_at : ByteArray := method_15_code
def yL_at : MethodName := ⟨RL, "at", "(LLedgeLevels;II[J)I"⟩
abbrev cL_start : ByteArray := method_16_code
def yL_start : MethodName := ⟨RL, "start", "(LLedgeLevels;I[J)I"⟩
abbrev cL_edits : ByteArray := method_17_code
def yL_edits : MethodName := ⟨RL, "edits", "(LLedgeLevels;IZ[J)I"⟩
abbrev cL_proof : ByteArray := method_18_code
def yL_proof : MethodName := ⟨RL, "proof", "(LLedgeLevels;I[J)I"⟩
abbrev cL_shortest : ByteArray := method_19_code
def yL_shortest : MethodName := ⟨RL, "shortest", "(LLedgeLevels;II[J)I"⟩
abbrev cL_reach : ByteArray := method_20_code
def yL_reach : MethodName := ⟨RL, "reach", "(LLedgeLevels;I[J)I"⟩
abbrev cL_farthest : ByteArray := method_21_code
def yL_farthest : MethodName := ⟨RL, "farthest", "(LLedgeLevels;I[J)I"⟩
abbrev cL_strength : ByteArray := method_22_code
def yL_strength : MethodName := ⟨RL, "strength", "(LLedgeLevels;I[J)I"⟩
abbrev cL_author : ByteArray := method_23_code
def yL_author : MethodName := ⟨RL, "author", "(LLedgeLevels;I[J)I"⟩
abbrev cL_best : ByteArray := method_24_code
def yL_best : MethodName := ⟨RL, "best", "(LLedgeLevels;I[J)I"⟩
abbrev cL_parent : ByteArray := method_25_code
def yL_parent : MethodName := ⟨RL, "parent", "(LLedgeLevels;I[J)I"⟩
abbrev cL_line : ByteArray := method_26_code
def yL_line : MethodName := ⟨RL, "line", "(LLedgeLevels;I[J)I"⟩
abbrev cL_stars : ByteArray := method_27_code
def yL_stars : MethodName := ⟨RL, "stars", "(LLedgeLevels;I[J)I"⟩
abbrev cL_credit : ByteArray := method_28_code
def yL_credit : MethodName := ⟨RL, "credit", "(LLedgeLevels;I[J)I"⟩
abbrev cL_record : ByteArray := method_29_code
def yL_record : MethodName := ⟨RL, "record", "(LLedgeLevels;I[J)I"⟩
abbrev cL_runState : ByteArray := method_30_code
def yL_runState : MethodName := ⟨RL, "runState", "(LLedgeLevels;I[J)I"⟩
abbrev cL_body : ByteArray := method_31_code
def yL_body : MethodName := ⟨RL, "body", "(LLedgeLevels;I[J)I"⟩
abbrev cL_speed : ByteArray := method_32_code
def yL_speed : MethodName := ⟨RL, "speed", "(LLedgeLevels;I[J)I"⟩
abbrev cL_keys : ByteArray := method_33_code
def yL_keys : MethodName := ⟨RL, "keys", "(LLedgeLevels;I[J)I"⟩
abbrev cL_stepsOf : ByteArray := method_34_code
def yL_stepsOf : MethodName := ⟨RL, "stepsOf", "(LLedgeLevels;I[J)I"⟩
abbrev cL_law : ByteArray := code
def yL_law : MethodName := ⟨RL, "law", "([I)Z"⟩
def wsX0_init : List Cond := .code yX0_init cX0_init 2 none :: ([.methodLink RX0 3 objectInit, .instanceMethod objectInit, .code objectInit ⟨#[0xb1]⟩ 1 none, .fieldLink RX0 9 "LedgeLevels$Body" "cell" "I", .fieldLink RX0 15 "LedgeLevels$Body" "speed" "I", .fieldLink RX0 18 "LedgeLevels$Body" "taken" "I", .fieldLink RX0 21 "LedgeLevels$Body" "fate" "I", .fieldLink RX0 24 "LedgeLevels$Body" "strengths" "[I"] ++ wsX00)
def wsX7_isCell : List Cond := .code yX7_isCell cX7_isCell 1 (some .boolean) :: ([])
def wsX1_kindAt : List Cond := .code yX1_kindAt cX1_kindAt 2 (some .int) :: ([.fieldLink RX1 9 "LedgeLevels$Grid" "kinds" "[I"] ++ wsX10)
def wsX1_keyBit : List Cond := .code yX1_keyBit cX1_keyBit 3 (some .int) :: ([.fieldLink RX1 15 "LedgeLevels$Grid" "keyCells" "[I"] ++ wsX10)
def wsX0_comeTo : List Cond := .code yX0_comeTo cX0_comeTo 4 none :: ([.fieldLink RX0 21 "LedgeLevels$Body" "fate" "I", .fieldLink RX0 9 "LedgeLevels$Body" "cell" "I", .fieldLink RX0 18 "LedgeLevels$Body" "taken" "I", .static yX7_isCell, .initialized RX7, .code yX7_isCell cX7_isCell 1 (some .boolean), .methodLink RX0 47 yX1_kindAt, .instanceMethod yX1_kindAt, .selects RX1 yX1_kindAt yX1_kindAt, .initialized RX1, .code yX1_kindAt cX1_kindAt 2 (some .int), .fieldLink RX1 9 "LedgeLevels$Grid" "kinds" "[I", .methodLink RX0 63 yX1_keyBit, .instanceMethod yX1_keyBit, .selects RX1 yX1_keyBit yX1_keyBit, .code yX1_keyBit cX1_keyBit 3 (some .int), .fieldLink RX1 15 "LedgeLevels$Grid" "keyCells" "[I"] ++ wsX00 ++ wsX10)
def wsX0_placeAtStart : List Cond := .code yX0_placeAtStart cX0_placeAtStart 3 none :: ([.fieldLink RX0 15 "LedgeLevels$Body" "speed" "I", .fieldLink RX0 18 "LedgeLevels$Body" "taken" "I", .fieldLink RX0 21 "LedgeLevels$Body" "fate" "I", .methodLink RX0 28 yX0_comeTo, .instanceMethod yX0_comeTo, .selects RX0 yX0_comeTo yX0_comeTo, .initialized RX0, .code yX0_comeTo cX0_comeTo 4 none, .fieldLink RX0 9 "LedgeLevels$Body" "cell" "I", .static yX7_isCell, .initialized RX7, .code yX7_isCell cX7_isCell 1 (some .boolean), .methodLink RX0 47 yX1_kindAt, .instanceMethod yX1_kindAt, .selects RX1 yX1_kindAt yX1_kindAt, .initialized RX1, .code yX1_kindAt cX1_kindAt 2 (some .int), .fieldLink RX1 9 "LedgeLevels$Grid" "kinds" "[I", .methodLink RX0 63 yX1_keyBit, .instanceMethod yX1_keyBit, .selects RX1 yX1_keyBit yX1_keyBit, .code yX1_keyBit cX1_keyBit 3 (some .int), .fieldLink RX1 15 "LedgeLevels$Grid" "keyCells" "[I"] ++ wsX00 ++ wsX10)
def wsX0_packed : List Cond := .code yX0_packed cX0_packed 1 (some .int) :: ([.fieldLink RX0 9 "LedgeLevels$Body" "cell" "I", .fieldLink RX0 15 "LedgeLevels$Body" "speed" "I", .fieldLink RX0 18 "LedgeLevels$Body" "taken" "I"] ++ wsX00)
def wsX0_unpack : List Cond := .code yX0_unpack cX0_unpack 2 none :: ([.fieldLink RX0 9 "LedgeLevels$Body" "cell" "I", .fieldLink RX0 15 "LedgeLevels$Body" "speed" "I", .fieldLink RX0 18 "LedgeLevels$Body" "taken" "I", .fieldLink RX0 21 "LedgeLevels$Body" "fate" "I"] ++ wsX00)
def wsX0_isSolidIn : List Cond := .code yX0_isSolidIn cX0_isSolidIn 4 (some .boolean) :: ([.fieldLink RX0 18 "LedgeLevels$Body" "taken" "I", .methodLink RX0 47 yX1_kindAt, .instanceMethod yX1_kindAt, .selects RX1 yX1_kindAt yX1_kindAt, .initialized RX1, .code yX1_kindAt cX1_kindAt 2 (some .int), .fieldLink RX1 9 "LedgeLevels$Grid" "kinds" "[I"] ++ wsX00 ++ wsX10)
def wsX0_stands : List Cond := .code yX0_stands cX0_stands 2 (some .boolean) :: ([.fieldLink RX0 15 "LedgeLevels$Body" "speed" "I", .fieldLink RX0 9 "LedgeLevels$Body" "cell" "I", .methodLink RX0 32 yX0_isSolidIn, .instanceMethod yX0_isSolidIn, .selects RX0 yX0_isSolidIn yX0_isSolidIn, .initialized RX0, .code yX0_isSolidIn cX0_isSolidIn 4 (some .boolean), .fieldLink RX0 18 "LedgeLevels$Body" "taken" "I", .methodLink RX0 47 yX1_kindAt, .instanceMethod yX1_kindAt, .selects RX1 yX1_kindAt yX1_kindAt, .initialized RX1, .code yX1_kindAt cX1_kindAt 2 (some .int), .fieldLink RX1 9 "LedgeLevels$Grid" "kinds" "[I"] ++ wsX00 ++ wsX10)
def wsX0_goSideways_r1 : List Cond := [Cond.fieldLink RX0 9 "LedgeLevels$Body" "cell" "I", Cond.methodLink RX0 32 yX0_isSolidIn, Cond.instanceMethod yX0_isSolidIn, Cond.selects RX0 yX0_isSolidIn yX0_isSolidIn, Cond.initialized RX0, Cond.code yX0_isSolidIn cX0_isSolidIn 4 (some .boolean), Cond.fieldLink RX0 18 "LedgeLevels$Body" "taken" "I", Cond.methodLink RX0 47 yX1_kindAt, Cond.instanceMethod yX1_kindAt, Cond.selects RX1 yX1_kindAt yX1_kindAt, Cond.initialized RX1, Cond.code yX1_kindAt cX1_kindAt 2 (some .int), Cond.fieldLink RX1 9 "LedgeLevels$Grid" "kinds" "[I", Cond.methodLink RX0 28 yX0_comeTo, Cond.instanceMethod yX0_comeTo, Cond.selects RX0 yX0_comeTo yX0_comeTo, Cond.code yX0_comeTo cX0_comeTo 4 none, Cond.fieldLink RX0 21 "LedgeLevels$Body" "fate" "I", Cond.static yX7_isCell, Cond.initialized RX7, Cond.code yX7_isCell cX7_isCell 1 (some .boolean), Cond.methodLink RX0 63 yX1_keyBit, Cond.instanceMethod yX1_keyBit, Cond.selects RX1 yX1_keyBit yX1_keyBit]
def wsX0_goSideways_r2 : List Cond := [Cond.code yX1_keyBit cX1_keyBit 3 (some .int), Cond.fieldLink RX1 15 "LedgeLevels$Grid" "keyCells" "[I"]
def wsX0_goSideways : List Cond := .code yX0_goSideways cX0_goSideways 5 none :: ((wsX0_goSideways_r1 ++ wsX0_goSideways_r2) ++ wsX00 ++ wsX10)
def wsX0_strengthOf : List Cond := .code yX0_strengthOf cX0_strengthOf 3 (some .int) :: ([.fieldLink RX0 24 "LedgeLevels$Body" "strengths" "[I"] ++ wsX00)
def wsX0_goUpOrDown_r1 : List Cond := [Cond.fieldLink RX0 15 "LedgeLevels$Body" "speed" "I", Cond.fieldLink RX0 9 "LedgeLevels$Body" "cell" "I", Cond.fieldLink RX0 21 "LedgeLevels$Body" "fate" "I", Cond.methodLink RX0 32 yX0_isSolidIn, Cond.instanceMethod yX0_isSolidIn, Cond.selects RX0 yX0_isSolidIn yX0_isSolidIn, Cond.initialized RX0, Cond.code yX0_isSolidIn cX0_isSolidIn 4 (some .boolean), Cond.fieldLink RX0 18 "LedgeLevels$Body" "taken" "I", Cond.methodLink RX0 47 yX1_kindAt, Cond.instanceMethod yX1_kindAt, Cond.selects RX1 yX1_kindAt yX1_kindAt, Cond.initialized RX1, Cond.code yX1_kindAt cX1_kindAt 2 (some .int), Cond.fieldLink RX1 9 "LedgeLevels$Grid" "kinds" "[I", Cond.methodLink RX0 53 yX0_strengthOf, Cond.instanceMethod yX0_strengthOf, Cond.selects RX0 yX0_strengthOf yX0_strengthOf, Cond.code yX0_strengthOf cX0_strengthOf 3 (some .int), Cond.fieldLink RX0 24 "LedgeLevels$Body" "strengths" "[I", Cond.methodLink RX0 28 yX0_comeTo, Cond.instanceMethod yX0_comeTo, Cond.selects RX0 yX0_comeTo yX0_comeTo, Cond.code yX0_comeTo cX0_comeTo 4 none]
def wsX0_goUpOrDown_r2 : List Cond := [Cond.static yX7_isCell, Cond.initialized RX7, Cond.code yX7_isCell cX7_isCell 1 (some .boolean), Cond.methodLink RX0 63 yX1_keyBit, Cond.instanceMethod yX1_keyBit, Cond.selects RX1 yX1_keyBit yX1_keyBit, Cond.code yX1_keyBit cX1_keyBit 3 (some .int), Cond.fieldLink RX1 15 "LedgeLevels$Grid" "keyCells" "[I"]
def wsX0_goUpOrDown : List Cond := .code yX0_goUpOrDown cX0_goUpOrDown 5 none :: ((wsX0_goUpOrDown_r1 ++ wsX0_goUpOrDown_r2) ++ wsX00 ++ wsX10)
def wsX0_move_r1 : List Cond := [Cond.fieldLink RX0 15 "LedgeLevels$Body" "speed" "I", Cond.fieldLink RX0 21 "LedgeLevels$Body" "fate" "I", Cond.methodLink RX0 36 yX0_stands, Cond.instanceMethod yX0_stands, Cond.selects RX0 yX0_stands yX0_stands, Cond.initialized RX0, Cond.code yX0_stands cX0_stands 2 (some .boolean), Cond.fieldLink RX0 9 "LedgeLevels$Body" "cell" "I", Cond.methodLink RX0 32 yX0_isSolidIn, Cond.instanceMethod yX0_isSolidIn, Cond.selects RX0 yX0_isSolidIn yX0_isSolidIn, Cond.code yX0_isSolidIn cX0_isSolidIn 4 (some .boolean), Cond.fieldLink RX0 18 "LedgeLevels$Body" "taken" "I", Cond.methodLink RX0 47 yX1_kindAt, Cond.instanceMethod yX1_kindAt, Cond.selects RX1 yX1_kindAt yX1_kindAt, Cond.initialized RX1, Cond.code yX1_kindAt cX1_kindAt 2 (some .int), Cond.fieldLink RX1 9 "LedgeLevels$Grid" "kinds" "[I", Cond.methodLink RX0 40 yX0_goSideways, Cond.instanceMethod yX0_goSideways, Cond.selects RX0 yX0_goSideways yX0_goSideways, Cond.code yX0_goSideways cX0_goSideways 5 none, Cond.methodLink RX0 28 yX0_comeTo]
def wsX0_move_r2 : List Cond := [Cond.instanceMethod yX0_comeTo, Cond.selects RX0 yX0_comeTo yX0_comeTo, Cond.code yX0_comeTo cX0_comeTo 4 none, Cond.static yX7_isCell, Cond.initialized RX7, Cond.code yX7_isCell cX7_isCell 1 (some .boolean), Cond.methodLink RX0 63 yX1_keyBit, Cond.instanceMethod yX1_keyBit, Cond.selects RX1 yX1_keyBit yX1_keyBit, Cond.code yX1_keyBit cX1_keyBit 3 (some .int), Cond.fieldLink RX1 15 "LedgeLevels$Grid" "keyCells" "[I", Cond.methodLink RX0 43 yX0_goUpOrDown, Cond.instanceMethod yX0_goUpOrDown, Cond.selects RX0 yX0_goUpOrDown yX0_goUpOrDown, Cond.code yX0_goUpOrDown cX0_goUpOrDown 5 none, Cond.methodLink RX0 53 yX0_strengthOf, Cond.instanceMethod yX0_strengthOf, Cond.selects RX0 yX0_strengthOf yX0_strengthOf, Cond.code yX0_strengthOf cX0_strengthOf 3 (some .int), Cond.fieldLink RX0 24 "LedgeLevels$Body" "strengths" "[I"]
def wsX0_move : List Cond := .code yX0_move cX0_move 3 none :: ((wsX0_move_r1 ++ wsX0_move_r2) ++ wsX00 ++ wsX10)
def wsX1_init : List Cond := .code yX1_init cX1_init 1 none :: ([.methodLink RX1 3 objectInit, .instanceMethod objectInit, .code objectInit ⟨#[0xb1]⟩ 1 none, .arrayClass .int, .fieldLink RX1 9 "LedgeLevels$Grid" "kinds" "[I", .fieldLink RX1 15 "LedgeLevels$Grid" "keyCells" "[I", .fieldLink RX1 18 "LedgeLevels$Grid" "allKeys" "I"] ++ wsX10)
def wsX1_changeKey : List Cond := .code yX1_changeKey cX1_changeKey 4 none :: ([.fieldLink RX1 15 "LedgeLevels$Grid" "keyCells" "[I", .fieldLink RX1 18 "LedgeLevels$Grid" "allKeys" "I"] ++ wsX10)
def wsX1_put : List Cond := .code yX1_put cX1_put 3 none :: ([.fieldLink RX1 9 "LedgeLevels$Grid" "kinds" "[I", .static yX7_isCell, .initialized RX7, .code yX7_isCell cX7_isCell 1 (some .boolean), .methodLink RX1 26 yX1_changeKey, .instanceMethod yX1_changeKey, .selects RX1 yX1_changeKey yX1_changeKey, .initialized RX1, .code yX1_changeKey cX1_changeKey 4 none, .fieldLink RX1 15 "LedgeLevels$Grid" "keyCells" "[I", .fieldLink RX1 18 "LedgeLevels$Grid" "allKeys" "I"] ++ wsX10)
def wsX1_putAllOf : List Cond := .code yX1_putAllOf cX1_putAllOf 3 none :: ([.methodLink RX1 30 yX1_kindAt, .instanceMethod yX1_kindAt, .selects RX1 yX1_kindAt yX1_kindAt, .initialized RX1, .code yX1_kindAt cX1_kindAt 2 (some .int), .fieldLink RX1 9 "LedgeLevels$Grid" "kinds" "[I", .methodLink RX1 34 yX1_put, .instanceMethod yX1_put, .selects RX1 yX1_put yX1_put, .code yX1_put cX1_put 3 none, .static yX7_isCell, .initialized RX7, .code yX7_isCell cX7_isCell 1 (some .boolean), .methodLink RX1 26 yX1_changeKey, .instanceMethod yX1_changeKey, .selects RX1 yX1_changeKey yX1_changeKey, .code yX1_changeKey cX1_changeKey 4 none, .fieldLink RX1 15 "LedgeLevels$Grid" "keyCells" "[I", .fieldLink RX1 18 "LedgeLevels$Grid" "allKeys" "I"] ++ wsX10)
def wsX1_has : List Cond := .code yX1_has cX1_has 3 (some .boolean) :: ([.fieldLink RX1 9 "LedgeLevels$Grid" "kinds" "[I"] ++ wsX10)
def wsJ6_bitCount_0f7a4 : List Cond := .code yJ6_bitCount_0f7a4 cJ6_bitCount_0f7a4 1 (some .int) :: ([.constant RJ6 265 (1431655765), .constant RJ6 266 (858993459), .constant RJ6 267 (252645135)])
def wsX1_keyCount : List Cond := .code yX1_keyCount cX1_keyCount 1 (some .int) :: ([.fieldLink RX1 18 "LedgeLevels$Grid" "allKeys" "I", .methodLink RX1 37 yJ6_bitCount_0f7a4, .static yJ6_bitCount_0f7a4, .initialized RJ6, .code yJ6_bitCount_0f7a4 cJ6_bitCount_0f7a4 1 (some .int), .constant RJ6 265 (1431655765), .constant RJ6 266 (858993459), .constant RJ6 267 (252645135)] ++ wsX10)
def wsX2_init : List Cond := .code yX2_init cX2_init 1 none :: ([.methodLink RX2 3 objectInit, .instanceMethod objectInit, .code objectInit ⟨#[0xb1]⟩ 1 none, .arrayClass .int, .fieldLink RX2 9 "LedgeLevels$History" "cells" "[I", .fieldLink RX2 15 "LedgeLevels$History" "kindsBefore" "[I", .fieldLink RX2 18 "LedgeLevels$History" "kindsAfter" "[I", .fieldLink RX2 21 "LedgeLevels$History" "done" "I", .fieldLink RX2 25 "LedgeLevels$History" "undone" "I"] ++ wsX20)
def wsX2_forgetEarliest : List Cond := .code yX2_forgetEarliest cX2_forgetEarliest 2 none :: ([.fieldLink RX2 9 "LedgeLevels$History" "cells" "[I", .fieldLink RX2 15 "LedgeLevels$History" "kindsBefore" "[I", .fieldLink RX2 18 "LedgeLevels$History" "kindsAfter" "[I", .fieldLink RX2 21 "LedgeLevels$History" "done" "I"] ++ wsX20)
def wsX2_remember : List Cond := .code yX2_remember cX2_remember 4 none :: ([.fieldLink RX2 21 "LedgeLevels$History" "done" "I", .fieldLink RX2 9 "LedgeLevels$History" "cells" "[I", .fieldLink RX2 15 "LedgeLevels$History" "kindsBefore" "[I", .fieldLink RX2 18 "LedgeLevels$History" "kindsAfter" "[I", .fieldLink RX2 25 "LedgeLevels$History" "undone" "I", .methodLink RX2 28 yX2_forgetEarliest, .instanceMethod yX2_forgetEarliest, .selects RX2 yX2_forgetEarliest yX2_forgetEarliest, .initialized RX2, .code yX2_forgetEarliest cX2_forgetEarliest 2 none] ++ wsX20)
def wsX2_stepBack : List Cond := .code yX2_stepBack cX2_stepBack 1 none :: ([.fieldLink RX2 21 "LedgeLevels$History" "done" "I", .fieldLink RX2 25 "LedgeLevels$History" "undone" "I"] ++ wsX20)
def wsX2_stepOn : List Cond := .code yX2_stepOn cX2_stepOn 1 none :: ([.fieldLink RX2 21 "LedgeLevels$History" "done" "I", .fieldLink RX2 25 "LedgeLevels$History" "undone" "I"] ++ wsX20)
def wsX2_hasNext : List Cond := .code yX2_hasNext cX2_hasNext 1 (some .boolean) :: ([.fieldLink RX2 21 "LedgeLevels$History" "done" "I"] ++ wsX20)
def wsX2_cellOfNext : List Cond := .code yX2_cellOfNext cX2_cellOfNext 1 (some .int) :: ([.fieldLink RX2 9 "LedgeLevels$History" "cells" "[I", .fieldLink RX2 21 "LedgeLevels$History" "done" "I", .methodLink RX2 31 yX2_hasNext, .instanceMethod yX2_hasNext, .selects RX2 yX2_hasNext yX2_hasNext, .initialized RX2, .code yX2_hasNext cX2_hasNext 1 (some .boolean)] ++ wsX20)
def wsX2_kindBeforeNext : List Cond := .code yX2_kindBeforeNext cX2_kindBeforeNext 1 (some .int) :: ([.fieldLink RX2 15 "LedgeLevels$History" "kindsBefore" "[I", .fieldLink RX2 21 "LedgeLevels$History" "done" "I", .methodLink RX2 31 yX2_hasNext, .instanceMethod yX2_hasNext, .selects RX2 yX2_hasNext yX2_hasNext, .initialized RX2, .code yX2_hasNext cX2_hasNext 1 (some .boolean)] ++ wsX20)
def wsX2_kindAfterNext : List Cond := .code yX2_kindAfterNext cX2_kindAfterNext 1 (some .int) :: ([.fieldLink RX2 18 "LedgeLevels$History" "kindsAfter" "[I", .fieldLink RX2 21 "LedgeLevels$History" "done" "I", .methodLink RX2 31 yX2_hasNext, .instanceMethod yX2_hasNext, .selects RX2 yX2_hasNext yX2_hasNext, .initialized RX2, .code yX2_hasNext cX2_hasNext 1 (some .boolean)] ++ wsX20)
def wsX3_init_r1 : List Cond := [Cond.methodLink RX3 3 objectInit, Cond.instanceMethod objectInit, Cond.code objectInit ⟨#[0xb1]⟩ 1 none, Cond.classLink RX3 9 RX1, Cond.instantiable RX1 3, Cond.initialized RX1, Cond.fieldLink RX3 12 "LedgeLevels$Level" "grid" "LLedgeLevels$Grid;", Cond.classLink RX3 18 RX2, Cond.instantiable RX2 5, Cond.initialized RX2, Cond.fieldLink RX3 21 "LedgeLevels$Level" "history" "LLedgeLevels$History;", Cond.fieldLink RX3 25 "LedgeLevels$Level" "start" "I", Cond.fieldLink RX3 29 "LedgeLevels$Level" "proof" "I", Cond.fieldLink RX3 32 "LedgeLevels$Level" "author" "I", Cond.fieldLink RX3 35 "LedgeLevels$Level" "parent" "LLedgeLevels$Work;", Cond.instanceMethod yX1_init, Cond.code yX1_init cX1_init 1 none, Cond.methodLink RX1 3 objectInit, Cond.arrayClass .int, Cond.fieldLink RX1 9 "LedgeLevels$Grid" "kinds" "[I", Cond.fieldLink RX1 15 "LedgeLevels$Grid" "keyCells" "[I", Cond.fieldLink RX1 18 "LedgeLevels$Grid" "allKeys" "I", Cond.instanceMethod yX2_init, Cond.code yX2_init cX2_init 1 none]
def wsX3_init_r2 : List Cond := [Cond.methodLink RX2 3 objectInit, Cond.fieldLink RX2 9 "LedgeLevels$History" "cells" "[I", Cond.fieldLink RX2 15 "LedgeLevels$History" "kindsBefore" "[I", Cond.fieldLink RX2 18 "LedgeLevels$History" "kindsAfter" "[I", Cond.fieldLink RX2 21 "LedgeLevels$History" "done" "I", Cond.fieldLink RX2 25 "LedgeLevels$History" "undone" "I"]
def wsX3_init : List Cond := .code yX3_init cX3_init 3 none :: ((wsX3_init_r1 ++ wsX3_init_r2) ++ wsX10 ++ wsX30 ++ wsX20)
def wsX3_putAnew : List Cond := .code yX3_putAnew cX3_putAnew 3 none :: ([.fieldLink RX3 12 "LedgeLevels$Level" "grid" "LLedgeLevels$Grid;", .fieldLink RX3 29 "LedgeLevels$Level" "proof" "I", .methodLink RX3 39 yX1_put, .instanceMethod yX1_put, .selects RX1 yX1_put yX1_put, .initialized RX1, .code yX1_put cX1_put 3 none, .fieldLink RX1 9 "LedgeLevels$Grid" "kinds" "[I", .static yX7_isCell, .initialized RX7, .code yX7_isCell cX7_isCell 1 (some .boolean), .methodLink RX1 26 yX1_changeKey, .instanceMethod yX1_changeKey, .selects RX1 yX1_changeKey yX1_changeKey, .code yX1_changeKey cX1_changeKey 4 none, .fieldLink RX1 15 "LedgeLevels$Grid" "keyCells" "[I", .fieldLink RX1 18 "LedgeLevels$Grid" "allKeys" "I"] ++ wsX30 ++ wsX10)
def wsX4_init : List Cond := .code yX4_init cX4_init 2 none :: ([.methodLink RX4 3 objectInit, .instanceMethod objectInit, .code objectInit ⟨#[0xb1]⟩ 1 none, .fieldLink RX4 9 "LedgeLevels$Run" "work" "LLedgeLevels$Work;", .fieldLink RX4 15 "LedgeLevels$Run" "state" "I", .fieldLink RX4 19 "LedgeLevels$Run" "steps" "I", .classLink RX4 22 RX0, .instantiable RX0 5, .initialized RX0, .fieldLink RX4 27 "LedgeLevels$Run" "body" "LLedgeLevels$Body;", .methodLink RX4 24 yX0_init, .instanceMethod yX0_init, .code yX0_init cX0_init 2 none, .methodLink RX0 3 objectInit, .fieldLink RX0 9 "LedgeLevels$Body" "cell" "I", .fieldLink RX0 15 "LedgeLevels$Body" "speed" "I", .fieldLink RX0 18 "LedgeLevels$Body" "taken" "I", .fieldLink RX0 21 "LedgeLevels$Body" "fate" "I", .fieldLink RX0 24 "LedgeLevels$Body" "strengths" "[I"] ++ wsX40 ++ wsX00)
def wsX6_noteWin : List Cond := .code yX6_noteWin cX6_noteWin 2 none :: ([.fieldLink RX6 22 "LedgeLevels$Work" "record" "I"] ++ wsX60)
def wsX4_takeStateOfBody : List Cond := .code yX4_takeStateOfBody cX4_takeStateOfBody 1 none :: ([.fieldLink RX4 27 "LedgeLevels$Run" "body" "LLedgeLevels$Body;", .fieldLink RX4 15 "LedgeLevels$Run" "state" "I", .fieldLink RX4 9 "LedgeLevels$Run" "work" "LLedgeLevels$Work;", .fieldLink RX4 19 "LedgeLevels$Run" "steps" "I", .methodLink RX4 53 yX6_noteWin, .instanceMethod yX6_noteWin, .selects RX6 yX6_noteWin yX6_noteWin, .initialized RX6, .code yX6_noteWin cX6_noteWin 2 none, .fieldLink RX6 22 "LedgeLevels$Work" "record" "I"] ++ wsX40 ++ wsX00 ++ wsX60)
def wsX4_beginOn_r1 : List Cond := [Cond.fieldLink RX4 9 "LedgeLevels$Run" "work" "LLedgeLevels$Work;", Cond.fieldLink RX4 19 "LedgeLevels$Run" "steps" "I", Cond.fieldLink RX4 27 "LedgeLevels$Run" "body" "LLedgeLevels$Body;", Cond.methodLink RX4 40 yX0_placeAtStart, Cond.instanceMethod yX0_placeAtStart, Cond.selects RX0 yX0_placeAtStart yX0_placeAtStart, Cond.initialized RX0, Cond.code yX0_placeAtStart cX0_placeAtStart 3 none, Cond.fieldLink RX0 15 "LedgeLevels$Body" "speed" "I", Cond.fieldLink RX0 18 "LedgeLevels$Body" "taken" "I", Cond.fieldLink RX0 21 "LedgeLevels$Body" "fate" "I", Cond.methodLink RX0 28 yX0_comeTo, Cond.instanceMethod yX0_comeTo, Cond.selects RX0 yX0_comeTo yX0_comeTo, Cond.code yX0_comeTo cX0_comeTo 4 none, Cond.fieldLink RX0 9 "LedgeLevels$Body" "cell" "I", Cond.static yX7_isCell, Cond.initialized RX7, Cond.code yX7_isCell cX7_isCell 1 (some .boolean), Cond.methodLink RX0 47 yX1_kindAt, Cond.instanceMethod yX1_kindAt, Cond.selects RX1 yX1_kindAt yX1_kindAt, Cond.initialized RX1, Cond.code yX1_kindAt cX1_kindAt 2 (some .int)]
def wsX4_beginOn_r2 : List Cond := [Cond.fieldLink RX1 9 "LedgeLevels$Grid" "kinds" "[I", Cond.methodLink RX0 63 yX1_keyBit, Cond.instanceMethod yX1_keyBit, Cond.selects RX1 yX1_keyBit yX1_keyBit, Cond.code yX1_keyBit cX1_keyBit 3 (some .int), Cond.fieldLink RX1 15 "LedgeLevels$Grid" "keyCells" "[I", Cond.methodLink RX4 44 yX4_takeStateOfBody, Cond.instanceMethod yX4_takeStateOfBody, Cond.selects RX4 yX4_takeStateOfBody yX4_takeStateOfBody, Cond.initialized RX4, Cond.code yX4_takeStateOfBody cX4_takeStateOfBody 1 none, Cond.fieldLink RX4 15 "LedgeLevels$Run" "state" "I", Cond.methodLink RX4 53 yX6_noteWin, Cond.instanceMethod yX6_noteWin, Cond.selects RX6 yX6_noteWin yX6_noteWin, Cond.initialized RX6, Cond.code yX6_noteWin cX6_noteWin 2 none, Cond.fieldLink RX6 22 "LedgeLevels$Work" "record" "I"]
def wsX4_beginOn : List Cond := .code yX4_beginOn cX4_beginOn 2 none :: ((wsX4_beginOn_r1 ++ wsX4_beginOn_r2) ++ wsX40 ++ wsX60 ++ wsX00 ++ wsX10)
def wsX4_goOn_r1 : List Cond := [Cond.fieldLink RX4 9 "LedgeLevels$Run" "work" "LLedgeLevels$Work;", Cond.fieldLink RX4 19 "LedgeLevels$Run" "steps" "I", Cond.fieldLink RX4 27 "LedgeLevels$Run" "body" "LLedgeLevels$Body;", Cond.methodLink RX4 47 yX0_move, Cond.instanceMethod yX0_move, Cond.selects RX0 yX0_move yX0_move, Cond.initialized RX0, Cond.code yX0_move cX0_move 3 none, Cond.fieldLink RX0 15 "LedgeLevels$Body" "speed" "I", Cond.fieldLink RX0 21 "LedgeLevels$Body" "fate" "I", Cond.methodLink RX0 36 yX0_stands, Cond.instanceMethod yX0_stands, Cond.selects RX0 yX0_stands yX0_stands, Cond.code yX0_stands cX0_stands 2 (some .boolean), Cond.fieldLink RX0 9 "LedgeLevels$Body" "cell" "I", Cond.methodLink RX0 32 yX0_isSolidIn, Cond.instanceMethod yX0_isSolidIn, Cond.selects RX0 yX0_isSolidIn yX0_isSolidIn, Cond.code yX0_isSolidIn cX0_isSolidIn 4 (some .boolean), Cond.fieldLink RX0 18 "LedgeLevels$Body" "taken" "I", Cond.methodLink RX0 47 yX1_kindAt, Cond.instanceMethod yX1_kindAt, Cond.selects RX1 yX1_kindAt yX1_kindAt, Cond.initialized RX1]
def wsX4_goOn_r2 : List Cond := [Cond.code yX1_kindAt cX1_kindAt 2 (some .int), Cond.fieldLink RX1 9 "LedgeLevels$Grid" "kinds" "[I", Cond.methodLink RX0 40 yX0_goSideways, Cond.instanceMethod yX0_goSideways, Cond.selects RX0 yX0_goSideways yX0_goSideways, Cond.code yX0_goSideways cX0_goSideways 5 none, Cond.methodLink RX0 28 yX0_comeTo, Cond.instanceMethod yX0_comeTo, Cond.selects RX0 yX0_comeTo yX0_comeTo, Cond.code yX0_comeTo cX0_comeTo 4 none, Cond.static yX7_isCell, Cond.initialized RX7, Cond.code yX7_isCell cX7_isCell 1 (some .boolean), Cond.methodLink RX0 63 yX1_keyBit, Cond.instanceMethod yX1_keyBit, Cond.selects RX1 yX1_keyBit yX1_keyBit, Cond.code yX1_keyBit cX1_keyBit 3 (some .int), Cond.fieldLink RX1 15 "LedgeLevels$Grid" "keyCells" "[I", Cond.methodLink RX0 43 yX0_goUpOrDown, Cond.instanceMethod yX0_goUpOrDown, Cond.selects RX0 yX0_goUpOrDown yX0_goUpOrDown, Cond.code yX0_goUpOrDown cX0_goUpOrDown 5 none, Cond.methodLink RX0 53 yX0_strengthOf, Cond.instanceMethod yX0_strengthOf]
def wsX4_goOn_r3 : List Cond := [Cond.selects RX0 yX0_strengthOf yX0_strengthOf, Cond.code yX0_strengthOf cX0_strengthOf 3 (some .int), Cond.fieldLink RX0 24 "LedgeLevels$Body" "strengths" "[I", Cond.methodLink RX4 44 yX4_takeStateOfBody, Cond.instanceMethod yX4_takeStateOfBody, Cond.selects RX4 yX4_takeStateOfBody yX4_takeStateOfBody, Cond.initialized RX4, Cond.code yX4_takeStateOfBody cX4_takeStateOfBody 1 none, Cond.fieldLink RX4 15 "LedgeLevels$Run" "state" "I", Cond.methodLink RX4 53 yX6_noteWin, Cond.instanceMethod yX6_noteWin, Cond.selects RX6 yX6_noteWin yX6_noteWin, Cond.initialized RX6, Cond.code yX6_noteWin cX6_noteWin 2 none, Cond.fieldLink RX6 22 "LedgeLevels$Work" "record" "I"]
def wsX4_goOn : List Cond := .code yX4_goOn cX4_goOn 2 none :: ((wsX4_goOn_r1 ++ (wsX4_goOn_r2 ++ wsX4_goOn_r3)) ++ wsX40 ++ wsX60 ++ wsX00 ++ wsX10)
def wsX4_answer : List Cond := .code yX4_answer cX4_answer 1 (some .int) :: ([.fieldLink RX4 15 "LedgeLevels$Run" "state" "I", .fieldLink RX4 27 "LedgeLevels$Run" "body" "LLedgeLevels$Body;"] ++ wsX40 ++ wsX00)
def wsX5_init : List Cond := .code yX5_init cX5_init 2 none :: ([.methodLink RX5 3 objectInit, .instanceMethod objectInit, .code objectInit ⟨#[0xb1]⟩ 1 none, .arrayClass .int, .fieldLink RX5 9 "LedgeLevels$Search" "queue" "[I", .fieldLink RX5 15 "LedgeLevels$Search" "seenIn" "[I", .arrayClass .boolean, .fieldLink RX5 18 "LedgeLevels$Search" "reached" "[Z", .fieldLink RX5 22 "LedgeLevels$Search" "number" "I", .fieldLink RX5 26 "LedgeLevels$Search" "tail" "I", .fieldLink RX5 29 "LedgeLevels$Search" "won" "I", .classLink RX5 32 RX0, .instantiable RX0 5, .initialized RX0, .fieldLink RX5 37 "LedgeLevels$Search" "body" "LLedgeLevels$Body;", .methodLink RX5 34 yX0_init, .instanceMethod yX0_init, .code yX0_init cX0_init 2 none, .methodLink RX0 3 objectInit, .fieldLink RX0 9 "LedgeLevels$Body" "cell" "I", .fieldLink RX0 15 "LedgeLevels$Body" "speed" "I", .fieldLink RX0 18 "LedgeLevels$Body" "taken" "I", .fieldLink RX0 21 "LedgeLevels$Body" "fate" "I", .fieldLink RX0 24 "LedgeLevels$Body" "strengths" "[I"] ++ wsX50 ++ wsX00)
def wsX5_restart : List Cond := .code yX5_restart cX5_restart 2 none :: ([.fieldLink RX5 22 "LedgeLevels$Search" "number" "I", .fieldLink RX5 26 "LedgeLevels$Search" "tail" "I", .fieldLink RX5 29 "LedgeLevels$Search" "won" "I", .fieldLink RX5 18 "LedgeLevels$Search" "reached" "[Z"] ++ wsX50)
def wsX5_enqueue : List Cond := .code yX5_enqueue cX5_enqueue 2 none :: ([.fieldLink RX5 26 "LedgeLevels$Search" "tail" "I", .fieldLink RX5 9 "LedgeLevels$Search" "queue" "[I"] ++ wsX50)
def wsX5_enqueueNew : List Cond := .code yX5_enqueueNew cX5_enqueueNew 2 none :: ([.fieldLink RX5 15 "LedgeLevels$Search" "seenIn" "[I", .fieldLink RX5 22 "LedgeLevels$Search" "number" "I", .methodLink RX5 87 yX5_enqueue, .instanceMethod yX5_enqueue, .selects RX5 yX5_enqueue yX5_enqueue, .initialized RX5, .code yX5_enqueue cX5_enqueue 2 none, .fieldLink RX5 26 "LedgeLevels$Search" "tail" "I", .fieldLink RX5 9 "LedgeLevels$Search" "queue" "[I"] ++ wsX50)
def wsX5_noteBody_r1 : List Cond := [Cond.fieldLink RX5 37 "LedgeLevels$Search" "body" "LLedgeLevels$Body;", Cond.fieldLink RX5 18 "LedgeLevels$Search" "reached" "[Z", Cond.fieldLink RX5 29 "LedgeLevels$Search" "won" "I", Cond.static yX7_isCell, Cond.initialized RX7, Cond.code yX7_isCell cX7_isCell 1 (some .boolean), Cond.methodLink RX5 80 yX0_packed, Cond.instanceMethod yX0_packed, Cond.selects RX0 yX0_packed yX0_packed, Cond.initialized RX0, Cond.code yX0_packed cX0_packed 1 (some .int), Cond.fieldLink RX0 9 "LedgeLevels$Body" "cell" "I", Cond.fieldLink RX0 15 "LedgeLevels$Body" "speed" "I", Cond.fieldLink RX0 18 "LedgeLevels$Body" "taken" "I", Cond.methodLink RX5 84 yX5_enqueueNew, Cond.instanceMethod yX5_enqueueNew, Cond.selects RX5 yX5_enqueueNew yX5_enqueueNew, Cond.initialized RX5, Cond.code yX5_enqueueNew cX5_enqueueNew 2 none, Cond.fieldLink RX5 15 "LedgeLevels$Search" "seenIn" "[I", Cond.fieldLink RX5 22 "LedgeLevels$Search" "number" "I", Cond.methodLink RX5 87 yX5_enqueue, Cond.instanceMethod yX5_enqueue, Cond.selects RX5 yX5_enqueue yX5_enqueue]
def wsX5_noteBody_r2 : List Cond := [Cond.code yX5_enqueue cX5_enqueue 2 none, Cond.fieldLink RX5 26 "LedgeLevels$Search" "tail" "I", Cond.fieldLink RX5 9 "LedgeLevels$Search" "queue" "[I"]
def wsX5_noteBody : List Cond := .code yX5_noteBody cX5_noteBody 2 none :: ((wsX5_noteBody_r1 ++ wsX5_noteBody_r2) ++ wsX50 ++ wsX00)
def wsX5_queuedAt : List Cond := .code yX5_queuedAt cX5_queuedAt 2 (some .int) :: ([.fieldLink RX5 9 "LedgeLevels$Search" "queue" "[I"] ++ wsX50)
def wsX5_tryInputsFrom_r1 : List Cond := [Cond.fieldLink RX5 37 "LedgeLevels$Search" "body" "LLedgeLevels$Body;", Cond.methodLink RX5 60 yX0_unpack, Cond.instanceMethod yX0_unpack, Cond.selects RX0 yX0_unpack yX0_unpack, Cond.initialized RX0, Cond.code yX0_unpack cX0_unpack 2 none, Cond.fieldLink RX0 9 "LedgeLevels$Body" "cell" "I", Cond.fieldLink RX0 15 "LedgeLevels$Body" "speed" "I", Cond.fieldLink RX0 18 "LedgeLevels$Body" "taken" "I", Cond.fieldLink RX0 21 "LedgeLevels$Body" "fate" "I", Cond.methodLink RX5 63 yX0_stands, Cond.instanceMethod yX0_stands, Cond.selects RX0 yX0_stands yX0_stands, Cond.code yX0_stands cX0_stands 2 (some .boolean), Cond.methodLink RX0 32 yX0_isSolidIn, Cond.instanceMethod yX0_isSolidIn, Cond.selects RX0 yX0_isSolidIn yX0_isSolidIn, Cond.code yX0_isSolidIn cX0_isSolidIn 4 (some .boolean), Cond.methodLink RX0 47 yX1_kindAt, Cond.instanceMethod yX1_kindAt, Cond.selects RX1 yX1_kindAt yX1_kindAt, Cond.initialized RX1, Cond.code yX1_kindAt cX1_kindAt 2 (some .int), Cond.fieldLink RX1 9 "LedgeLevels$Grid" "kinds" "[I"]
def wsX5_tryInputsFrom_r2 : List Cond := [Cond.methodLink RX5 67 yX0_move, Cond.instanceMethod yX0_move, Cond.selects RX0 yX0_move yX0_move, Cond.code yX0_move cX0_move 3 none, Cond.methodLink RX0 36 yX0_stands, Cond.methodLink RX0 40 yX0_goSideways, Cond.instanceMethod yX0_goSideways, Cond.selects RX0 yX0_goSideways yX0_goSideways, Cond.code yX0_goSideways cX0_goSideways 5 none, Cond.methodLink RX0 28 yX0_comeTo, Cond.instanceMethod yX0_comeTo, Cond.selects RX0 yX0_comeTo yX0_comeTo, Cond.code yX0_comeTo cX0_comeTo 4 none, Cond.static yX7_isCell, Cond.initialized RX7, Cond.code yX7_isCell cX7_isCell 1 (some .boolean), Cond.methodLink RX0 63 yX1_keyBit, Cond.instanceMethod yX1_keyBit, Cond.selects RX1 yX1_keyBit yX1_keyBit, Cond.code yX1_keyBit cX1_keyBit 3 (some .int), Cond.fieldLink RX1 15 "LedgeLevels$Grid" "keyCells" "[I", Cond.methodLink RX0 43 yX0_goUpOrDown, Cond.instanceMethod yX0_goUpOrDown, Cond.selects RX0 yX0_goUpOrDown yX0_goUpOrDown]
def wsX5_tryInputsFrom_r3 : List Cond := [Cond.code yX0_goUpOrDown cX0_goUpOrDown 5 none, Cond.methodLink RX0 53 yX0_strengthOf, Cond.instanceMethod yX0_strengthOf, Cond.selects RX0 yX0_strengthOf yX0_strengthOf, Cond.code yX0_strengthOf cX0_strengthOf 3 (some .int), Cond.fieldLink RX0 24 "LedgeLevels$Body" "strengths" "[I", Cond.methodLink RX5 48 yX5_noteBody, Cond.instanceMethod yX5_noteBody, Cond.selects RX5 yX5_noteBody yX5_noteBody, Cond.initialized RX5, Cond.code yX5_noteBody cX5_noteBody 2 none, Cond.fieldLink RX5 18 "LedgeLevels$Search" "reached" "[Z", Cond.fieldLink RX5 29 "LedgeLevels$Search" "won" "I", Cond.methodLink RX5 80 yX0_packed, Cond.instanceMethod yX0_packed, Cond.selects RX0 yX0_packed yX0_packed, Cond.code yX0_packed cX0_packed 1 (some .int), Cond.methodLink RX5 84 yX5_enqueueNew, Cond.instanceMethod yX5_enqueueNew, Cond.selects RX5 yX5_enqueueNew yX5_enqueueNew, Cond.code yX5_enqueueNew cX5_enqueueNew 2 none, Cond.fieldLink RX5 15 "LedgeLevels$Search" "seenIn" "[I", Cond.fieldLink RX5 22 "LedgeLevels$Search" "number" "I", Cond.methodLink RX5 87 yX5_enqueue]
def wsX5_tryInputsFrom_r4 : List Cond := [Cond.instanceMethod yX5_enqueue, Cond.selects RX5 yX5_enqueue yX5_enqueue, Cond.code yX5_enqueue cX5_enqueue 2 none, Cond.fieldLink RX5 26 "LedgeLevels$Search" "tail" "I", Cond.fieldLink RX5 9 "LedgeLevels$Search" "queue" "[I"]
def wsX5_tryInputsFrom : List Cond := .code yX5_tryInputsFrom cX5_tryInputsFrom 6 none :: ((wsX5_tryInputsFrom_r1 ++ (wsX5_tryInputsFrom_r2 ++ (wsX5_tryInputsFrom_r3 ++ wsX5_tryInputsFrom_r4))) ++ wsX50 ++ wsX00 ++ wsX10)
def wsX5_explore_r1 : List Cond := [Cond.fieldLink RX5 37 "LedgeLevels$Search" "body" "LLedgeLevels$Body;", Cond.fieldLink RX5 26 "LedgeLevels$Search" "tail" "I", Cond.fieldLink RX5 29 "LedgeLevels$Search" "won" "I", Cond.methodLink RX5 41 yX5_restart, Cond.instanceMethod yX5_restart, Cond.selects RX5 yX5_restart yX5_restart, Cond.initialized RX5, Cond.code yX5_restart cX5_restart 2 none, Cond.fieldLink RX5 22 "LedgeLevels$Search" "number" "I", Cond.fieldLink RX5 18 "LedgeLevels$Search" "reached" "[Z", Cond.methodLink RX5 44 yX0_placeAtStart, Cond.instanceMethod yX0_placeAtStart, Cond.selects RX0 yX0_placeAtStart yX0_placeAtStart, Cond.initialized RX0, Cond.code yX0_placeAtStart cX0_placeAtStart 3 none, Cond.fieldLink RX0 15 "LedgeLevels$Body" "speed" "I", Cond.fieldLink RX0 18 "LedgeLevels$Body" "taken" "I", Cond.fieldLink RX0 21 "LedgeLevels$Body" "fate" "I", Cond.methodLink RX0 28 yX0_comeTo, Cond.instanceMethod yX0_comeTo, Cond.selects RX0 yX0_comeTo yX0_comeTo, Cond.code yX0_comeTo cX0_comeTo 4 none, Cond.fieldLink RX0 9 "LedgeLevels$Body" "cell" "I", Cond.static yX7_isCell]
def wsX5_explore_r2 : List Cond := [Cond.initialized RX7, Cond.code yX7_isCell cX7_isCell 1 (some .boolean), Cond.methodLink RX0 47 yX1_kindAt, Cond.instanceMethod yX1_kindAt, Cond.selects RX1 yX1_kindAt yX1_kindAt, Cond.initialized RX1, Cond.code yX1_kindAt cX1_kindAt 2 (some .int), Cond.fieldLink RX1 9 "LedgeLevels$Grid" "kinds" "[I", Cond.methodLink RX0 63 yX1_keyBit, Cond.instanceMethod yX1_keyBit, Cond.selects RX1 yX1_keyBit yX1_keyBit, Cond.code yX1_keyBit cX1_keyBit 3 (some .int), Cond.fieldLink RX1 15 "LedgeLevels$Grid" "keyCells" "[I", Cond.methodLink RX5 48 yX5_noteBody, Cond.instanceMethod yX5_noteBody, Cond.selects RX5 yX5_noteBody yX5_noteBody, Cond.code yX5_noteBody cX5_noteBody 2 none, Cond.methodLink RX5 80 yX0_packed, Cond.instanceMethod yX0_packed, Cond.selects RX0 yX0_packed yX0_packed, Cond.code yX0_packed cX0_packed 1 (some .int), Cond.methodLink RX5 84 yX5_enqueueNew, Cond.instanceMethod yX5_enqueueNew, Cond.selects RX5 yX5_enqueueNew yX5_enqueueNew]
def wsX5_explore_r3 : List Cond := [Cond.code yX5_enqueueNew cX5_enqueueNew 2 none, Cond.fieldLink RX5 15 "LedgeLevels$Search" "seenIn" "[I", Cond.methodLink RX5 87 yX5_enqueue, Cond.instanceMethod yX5_enqueue, Cond.selects RX5 yX5_enqueue yX5_enqueue, Cond.code yX5_enqueue cX5_enqueue 2 none, Cond.fieldLink RX5 9 "LedgeLevels$Search" "queue" "[I", Cond.methodLink RX5 52 yX5_queuedAt, Cond.instanceMethod yX5_queuedAt, Cond.selects RX5 yX5_queuedAt yX5_queuedAt, Cond.code yX5_queuedAt cX5_queuedAt 2 (some .int), Cond.methodLink RX5 56 yX5_tryInputsFrom, Cond.instanceMethod yX5_tryInputsFrom, Cond.selects RX5 yX5_tryInputsFrom yX5_tryInputsFrom, Cond.code yX5_tryInputsFrom cX5_tryInputsFrom 6 none, Cond.methodLink RX5 60 yX0_unpack, Cond.instanceMethod yX0_unpack, Cond.selects RX0 yX0_unpack yX0_unpack, Cond.code yX0_unpack cX0_unpack 2 none, Cond.methodLink RX5 63 yX0_stands, Cond.instanceMethod yX0_stands, Cond.selects RX0 yX0_stands yX0_stands, Cond.code yX0_stands cX0_stands 2 (some .boolean), Cond.methodLink RX0 32 yX0_isSolidIn]
def wsX5_explore_r4 : List Cond := [Cond.instanceMethod yX0_isSolidIn, Cond.selects RX0 yX0_isSolidIn yX0_isSolidIn, Cond.code yX0_isSolidIn cX0_isSolidIn 4 (some .boolean), Cond.methodLink RX5 67 yX0_move, Cond.instanceMethod yX0_move, Cond.selects RX0 yX0_move yX0_move, Cond.code yX0_move cX0_move 3 none, Cond.methodLink RX0 36 yX0_stands, Cond.methodLink RX0 40 yX0_goSideways, Cond.instanceMethod yX0_goSideways, Cond.selects RX0 yX0_goSideways yX0_goSideways, Cond.code yX0_goSideways cX0_goSideways 5 none, Cond.methodLink RX0 43 yX0_goUpOrDown, Cond.instanceMethod yX0_goUpOrDown, Cond.selects RX0 yX0_goUpOrDown yX0_goUpOrDown, Cond.code yX0_goUpOrDown cX0_goUpOrDown 5 none, Cond.methodLink RX0 53 yX0_strengthOf, Cond.instanceMethod yX0_strengthOf, Cond.selects RX0 yX0_strengthOf yX0_strengthOf, Cond.code yX0_strengthOf cX0_strengthOf 3 (some .int), Cond.fieldLink RX0 24 "LedgeLevels$Body" "strengths" "[I"]
def wsX5_explore : List Cond := .code yX5_explore cX5_explore 8 (some .int) :: ((wsX5_explore_r1 ++ (wsX5_explore_r2 ++ (wsX5_explore_r3 ++ wsX5_explore_r4))) ++ wsX50 ++ wsX00 ++ wsX10)
def wsX5_winsByOneMore_r1 : List Cond := [Cond.fieldLink RX5 37 "LedgeLevels$Search" "body" "LLedgeLevels$Body;", Cond.methodLink RX5 60 yX0_unpack, Cond.instanceMethod yX0_unpack, Cond.selects RX0 yX0_unpack yX0_unpack, Cond.initialized RX0, Cond.code yX0_unpack cX0_unpack 2 none, Cond.fieldLink RX0 9 "LedgeLevels$Body" "cell" "I", Cond.fieldLink RX0 15 "LedgeLevels$Body" "speed" "I", Cond.fieldLink RX0 18 "LedgeLevels$Body" "taken" "I", Cond.fieldLink RX0 21 "LedgeLevels$Body" "fate" "I", Cond.methodLink RX5 67 yX0_move, Cond.instanceMethod yX0_move, Cond.selects RX0 yX0_move yX0_move, Cond.code yX0_move cX0_move 3 none, Cond.methodLink RX0 36 yX0_stands, Cond.instanceMethod yX0_stands, Cond.selects RX0 yX0_stands yX0_stands, Cond.code yX0_stands cX0_stands 2 (some .boolean), Cond.methodLink RX0 32 yX0_isSolidIn, Cond.instanceMethod yX0_isSolidIn, Cond.selects RX0 yX0_isSolidIn yX0_isSolidIn, Cond.code yX0_isSolidIn cX0_isSolidIn 4 (some .boolean), Cond.methodLink RX0 47 yX1_kindAt, Cond.instanceMethod yX1_kindAt]
def wsX5_winsByOneMore_r2 : List Cond := [Cond.selects RX1 yX1_kindAt yX1_kindAt, Cond.initialized RX1, Cond.code yX1_kindAt cX1_kindAt 2 (some .int), Cond.fieldLink RX1 9 "LedgeLevels$Grid" "kinds" "[I", Cond.methodLink RX0 40 yX0_goSideways, Cond.instanceMethod yX0_goSideways, Cond.selects RX0 yX0_goSideways yX0_goSideways, Cond.code yX0_goSideways cX0_goSideways 5 none, Cond.methodLink RX0 28 yX0_comeTo, Cond.instanceMethod yX0_comeTo, Cond.selects RX0 yX0_comeTo yX0_comeTo, Cond.code yX0_comeTo cX0_comeTo 4 none, Cond.static yX7_isCell, Cond.initialized RX7, Cond.code yX7_isCell cX7_isCell 1 (some .boolean), Cond.methodLink RX0 63 yX1_keyBit, Cond.instanceMethod yX1_keyBit, Cond.selects RX1 yX1_keyBit yX1_keyBit, Cond.code yX1_keyBit cX1_keyBit 3 (some .int), Cond.fieldLink RX1 15 "LedgeLevels$Grid" "keyCells" "[I", Cond.methodLink RX0 43 yX0_goUpOrDown, Cond.instanceMethod yX0_goUpOrDown, Cond.selects RX0 yX0_goUpOrDown yX0_goUpOrDown, Cond.code yX0_goUpOrDown cX0_goUpOrDown 5 none]
def wsX5_winsByOneMore_r3 : List Cond := [Cond.methodLink RX0 53 yX0_strengthOf, Cond.instanceMethod yX0_strengthOf, Cond.selects RX0 yX0_strengthOf yX0_strengthOf, Cond.code yX0_strengthOf cX0_strengthOf 3 (some .int), Cond.fieldLink RX0 24 "LedgeLevels$Body" "strengths" "[I", Cond.methodLink RX5 80 yX0_packed, Cond.instanceMethod yX0_packed, Cond.selects RX0 yX0_packed yX0_packed, Cond.code yX0_packed cX0_packed 1 (some .int), Cond.methodLink RX5 87 yX5_enqueue, Cond.instanceMethod yX5_enqueue, Cond.selects RX5 yX5_enqueue yX5_enqueue, Cond.initialized RX5, Cond.code yX5_enqueue cX5_enqueue 2 none, Cond.fieldLink RX5 26 "LedgeLevels$Search" "tail" "I", Cond.fieldLink RX5 9 "LedgeLevels$Search" "queue" "[I"]
def wsX5_winsByOneMore : List Cond := .code yX5_winsByOneMore cX5_winsByOneMore 5 (some .boolean) :: ((wsX5_winsByOneMore_r1 ++ (wsX5_winsByOneMore_r2 ++ wsX5_winsByOneMore_r3)) ++ wsX50 ++ wsX00 ++ wsX10)
def wsX5_fewestStepsByRows_r1 : List Cond := [Cond.fieldLink RX5 37 "LedgeLevels$Search" "body" "LLedgeLevels$Body;", Cond.fieldLink RX5 26 "LedgeLevels$Search" "tail" "I", Cond.methodLink RX5 41 yX5_restart, Cond.instanceMethod yX5_restart, Cond.selects RX5 yX5_restart yX5_restart, Cond.initialized RX5, Cond.code yX5_restart cX5_restart 2 none, Cond.fieldLink RX5 22 "LedgeLevels$Search" "number" "I", Cond.fieldLink RX5 29 "LedgeLevels$Search" "won" "I", Cond.fieldLink RX5 18 "LedgeLevels$Search" "reached" "[Z", Cond.methodLink RX5 44 yX0_placeAtStart, Cond.instanceMethod yX0_placeAtStart, Cond.selects RX0 yX0_placeAtStart yX0_placeAtStart, Cond.initialized RX0, Cond.code yX0_placeAtStart cX0_placeAtStart 3 none, Cond.fieldLink RX0 15 "LedgeLevels$Body" "speed" "I", Cond.fieldLink RX0 18 "LedgeLevels$Body" "taken" "I", Cond.fieldLink RX0 21 "LedgeLevels$Body" "fate" "I", Cond.methodLink RX0 28 yX0_comeTo, Cond.instanceMethod yX0_comeTo, Cond.selects RX0 yX0_comeTo yX0_comeTo, Cond.code yX0_comeTo cX0_comeTo 4 none, Cond.fieldLink RX0 9 "LedgeLevels$Body" "cell" "I", Cond.static yX7_isCell]
def wsX5_fewestStepsByRows_r2 : List Cond := [Cond.initialized RX7, Cond.code yX7_isCell cX7_isCell 1 (some .boolean), Cond.methodLink RX0 47 yX1_kindAt, Cond.instanceMethod yX1_kindAt, Cond.selects RX1 yX1_kindAt yX1_kindAt, Cond.initialized RX1, Cond.code yX1_kindAt cX1_kindAt 2 (some .int), Cond.fieldLink RX1 9 "LedgeLevels$Grid" "kinds" "[I", Cond.methodLink RX0 63 yX1_keyBit, Cond.instanceMethod yX1_keyBit, Cond.selects RX1 yX1_keyBit yX1_keyBit, Cond.code yX1_keyBit cX1_keyBit 3 (some .int), Cond.fieldLink RX1 15 "LedgeLevels$Grid" "keyCells" "[I", Cond.methodLink RX5 80 yX0_packed, Cond.instanceMethod yX0_packed, Cond.selects RX0 yX0_packed yX0_packed, Cond.code yX0_packed cX0_packed 1 (some .int), Cond.methodLink RX5 87 yX5_enqueue, Cond.instanceMethod yX5_enqueue, Cond.selects RX5 yX5_enqueue yX5_enqueue, Cond.code yX5_enqueue cX5_enqueue 2 none, Cond.fieldLink RX5 9 "LedgeLevels$Search" "queue" "[I", Cond.methodLink RX5 52 yX5_queuedAt, Cond.instanceMethod yX5_queuedAt]
def wsX5_fewestStepsByRows_r3 : List Cond := [Cond.selects RX5 yX5_queuedAt yX5_queuedAt, Cond.code yX5_queuedAt cX5_queuedAt 2 (some .int), Cond.methodLink RX5 90 yX5_winsByOneMore, Cond.instanceMethod yX5_winsByOneMore, Cond.selects RX5 yX5_winsByOneMore yX5_winsByOneMore, Cond.code yX5_winsByOneMore cX5_winsByOneMore 5 (some .boolean), Cond.methodLink RX5 60 yX0_unpack, Cond.instanceMethod yX0_unpack, Cond.selects RX0 yX0_unpack yX0_unpack, Cond.code yX0_unpack cX0_unpack 2 none, Cond.methodLink RX5 67 yX0_move, Cond.instanceMethod yX0_move, Cond.selects RX0 yX0_move yX0_move, Cond.code yX0_move cX0_move 3 none, Cond.methodLink RX0 36 yX0_stands, Cond.instanceMethod yX0_stands, Cond.selects RX0 yX0_stands yX0_stands, Cond.code yX0_stands cX0_stands 2 (some .boolean), Cond.methodLink RX0 32 yX0_isSolidIn, Cond.instanceMethod yX0_isSolidIn, Cond.selects RX0 yX0_isSolidIn yX0_isSolidIn, Cond.code yX0_isSolidIn cX0_isSolidIn 4 (some .boolean), Cond.methodLink RX0 40 yX0_goSideways, Cond.instanceMethod yX0_goSideways]
def wsX5_fewestStepsByRows_r4 : List Cond := [Cond.selects RX0 yX0_goSideways yX0_goSideways, Cond.code yX0_goSideways cX0_goSideways 5 none, Cond.methodLink RX0 43 yX0_goUpOrDown, Cond.instanceMethod yX0_goUpOrDown, Cond.selects RX0 yX0_goUpOrDown yX0_goUpOrDown, Cond.code yX0_goUpOrDown cX0_goUpOrDown 5 none, Cond.methodLink RX0 53 yX0_strengthOf, Cond.instanceMethod yX0_strengthOf, Cond.selects RX0 yX0_strengthOf yX0_strengthOf, Cond.code yX0_strengthOf cX0_strengthOf 3 (some .int), Cond.fieldLink RX0 24 "LedgeLevels$Body" "strengths" "[I"]
def wsX5_fewestStepsByRows : List Cond := .code yX5_fewestStepsByRows cX5_fewestStepsByRows 8 (some .int) :: ((wsX5_fewestStepsByRows_r1 ++ (wsX5_fewestStepsByRows_r2 ++ (wsX5_fewestStepsByRows_r3 ++ wsX5_fewestStepsByRows_r4))) ++ wsX50 ++ wsX00 ++ wsX10)
def wsX5_reachedCount : List Cond := .code yX5_reachedCount cX5_reachedCount 6 (some .int) :: ([.fieldLink RX5 18 "LedgeLevels$Search" "reached" "[Z"] ++ wsX50)
def wsX5_farthestReached : List Cond := .code yX5_farthestReached cX5_farthestReached 4 (some .int) :: ([.fieldLink RX5 18 "LedgeLevels$Search" "reached" "[Z", .static yX7_isCell, .initialized RX7, .code yX7_isCell cX7_isCell 1 (some .boolean)] ++ wsX50)
def wsX6_init_r1 : List Cond := [Cond.methodLink RX6 3 objectInit, Cond.instanceMethod objectInit, Cond.code objectInit ⟨#[0xb1]⟩ 1 none, Cond.classLink RX6 9 RX1, Cond.instantiable RX1 3, Cond.initialized RX1, Cond.fieldLink RX6 12 "LedgeLevels$Work" "grid" "LLedgeLevels$Grid;", Cond.arrayClass .int, Cond.fieldLink RX6 18 "LedgeLevels$Work" "given" "[I", Cond.fieldLink RX6 22 "LedgeLevels$Work" "record" "I", Cond.fieldLink RX6 26 "LedgeLevels$Work" "number" "I", Cond.fieldLink RX6 34 "LedgeLevels$Work" "author" "I", Cond.fieldLink RX6 39 "LedgeLevels$Work" "parent" "LLedgeLevels$Work;", Cond.fieldLink RX6 48 "LedgeLevels$Work" "start" "I", Cond.fieldLink RX6 52 "LedgeLevels$Work" "best" "I", Cond.instanceMethod yX1_init, Cond.code yX1_init cX1_init 1 none, Cond.methodLink RX1 3 objectInit, Cond.fieldLink RX1 9 "LedgeLevels$Grid" "kinds" "[I", Cond.fieldLink RX1 15 "LedgeLevels$Grid" "keyCells" "[I", Cond.fieldLink RX1 18 "LedgeLevels$Grid" "allKeys" "I", Cond.methodLink RX6 41 yX1_putAllOf, Cond.instanceMethod yX1_putAllOf, Cond.selects RX1 yX1_putAllOf yX1_putAllOf]
def wsX6_init_r2 : List Cond := [Cond.code yX1_putAllOf cX1_putAllOf 3 none, Cond.methodLink RX1 30 yX1_kindAt, Cond.instanceMethod yX1_kindAt, Cond.selects RX1 yX1_kindAt yX1_kindAt, Cond.code yX1_kindAt cX1_kindAt 2 (some .int), Cond.methodLink RX1 34 yX1_put, Cond.instanceMethod yX1_put, Cond.selects RX1 yX1_put yX1_put, Cond.code yX1_put cX1_put 3 none, Cond.static yX7_isCell, Cond.initialized RX7, Cond.code yX7_isCell cX7_isCell 1 (some .boolean), Cond.methodLink RX1 26 yX1_changeKey, Cond.instanceMethod yX1_changeKey, Cond.selects RX1 yX1_changeKey yX1_changeKey, Cond.code yX1_changeKey cX1_changeKey 4 none]
def wsX6_init : List Cond := .code yX6_init cX6_init 3 none :: ((wsX6_init_r1 ++ wsX6_init_r2) ++ wsX10 ++ wsX60 ++ wsX30)
def wsX6_starSum : List Cond := .code yX6_starSum cX6_starSum 6 (some .int) :: ([.fieldLink RX6 18 "LedgeLevels$Work" "given" "[I"] ++ wsX60)
def wsX6_comesFrom : List Cond := .code yX6_comesFrom cX6_comesFrom 3 (some .boolean) :: ([.fieldLink RX6 39 "LedgeLevels$Work" "parent" "LLedgeLevels$Work;"] ++ wsX60)
def wsX6_comesFromWorkBy : List Cond := .code yX6_comesFromWorkBy cX6_comesFromWorkBy 3 (some .boolean) :: ([.fieldLink RX6 34 "LedgeLevels$Work" "author" "I", .fieldLink RX6 39 "LedgeLevels$Work" "parent" "LLedgeLevels$Work;"] ++ wsX60)
def wsX7_init_r1 : List Cond := [Cond.methodLink RX7 1 objectInit, Cond.instanceMethod objectInit, Cond.code objectInit ⟨#[0xb1]⟩ 1 none, Cond.arrayClass .int, Cond.fieldLink RX7 7 "LedgeLevels" "strengths" "[I", Cond.classLink RX7 13 RX3, Cond.fieldLink RX7 15 "LedgeLevels" "levels" "[LLedgeLevels$Level;", Cond.classLink RX7 19 RX6, Cond.fieldLink RX7 21 "LedgeLevels" "works" "[LLedgeLevels$Work;", Cond.classLink RX7 25 RX4, Cond.fieldLink RX7 27 "LedgeLevels" "runs" "[LLedgeLevels$Run;", Cond.classLink RX7 31 RX5, Cond.instantiable RX5 7, Cond.initialized RX5, Cond.fieldLink RX7 36 "LedgeLevels" "search" "LLedgeLevels$Search;", Cond.fieldLink RX7 40 "LedgeLevels" "levelCount" "I", Cond.fieldLink RX7 44 "LedgeLevels" "workCount" "I", Cond.instantiable RX4 4, Cond.initialized RX4, Cond.methodLink RX7 33 yX5_init, Cond.instanceMethod yX5_init, Cond.code yX5_init cX5_init 2 none, Cond.methodLink RX5 3 objectInit, Cond.fieldLink RX5 9 "LedgeLevels$Search" "queue" "[I"]
def wsX7_init_r2 : List Cond := [Cond.fieldLink RX5 15 "LedgeLevels$Search" "seenIn" "[I", Cond.arrayClass .boolean, Cond.fieldLink RX5 18 "LedgeLevels$Search" "reached" "[Z", Cond.fieldLink RX5 22 "LedgeLevels$Search" "number" "I", Cond.fieldLink RX5 26 "LedgeLevels$Search" "tail" "I", Cond.fieldLink RX5 29 "LedgeLevels$Search" "won" "I", Cond.classLink RX5 32 RX0, Cond.instantiable RX0 5, Cond.initialized RX0, Cond.fieldLink RX5 37 "LedgeLevels$Search" "body" "LLedgeLevels$Body;", Cond.methodLink RX5 34 yX0_init, Cond.instanceMethod yX0_init, Cond.code yX0_init cX0_init 2 none, Cond.methodLink RX0 3 objectInit, Cond.fieldLink RX0 9 "LedgeLevels$Body" "cell" "I", Cond.fieldLink RX0 15 "LedgeLevels$Body" "speed" "I", Cond.fieldLink RX0 18 "LedgeLevels$Body" "taken" "I", Cond.fieldLink RX0 21 "LedgeLevels$Body" "fate" "I", Cond.fieldLink RX0 24 "LedgeLevels$Body" "strengths" "[I", Cond.methodLink RX7 47 yX4_init, Cond.instanceMethod yX4_init, Cond.code yX4_init cX4_init 2 none, Cond.methodLink RX4 3 objectInit, Cond.fieldLink RX4 9 "LedgeLevels$Run" "work" "LLedgeLevels$Work;"]
def wsX7_init_r3 : List Cond := [Cond.fieldLink RX4 15 "LedgeLevels$Run" "state" "I", Cond.fieldLink RX4 19 "LedgeLevels$Run" "steps" "I", Cond.classLink RX4 22 RX0, Cond.fieldLink RX4 27 "LedgeLevels$Run" "body" "LLedgeLevels$Body;", Cond.methodLink RX4 24 yX0_init]
def wsX7_init : List Cond := .code yX7_init cX7_init 2 none :: ((wsX7_init_r1 ++ (wsX7_init_r2 ++ wsX7_init_r3)) ++ wsX70 ++ wsX50 ++ wsX40 ++ wsX00)
def wsX7_checkPerson : List Cond := .code yX7_checkPerson cX7_checkPerson 1 none :: ([.classLink RX7 267 "java/lang/IndexOutOfBoundsException", .initialized "java/lang/IndexOutOfBoundsException"] ++ (vx_atS RX7 271 "java/lang/IndexOutOfBoundsException" ["java/lang/RuntimeException", "java/lang/Exception"]).filter goodWord)
def wsX7_addLevel_r1 : List Cond := [Cond.classLink RX7 88 "java/lang/IllegalStateException", Cond.initialized "java/lang/IllegalStateException", Cond.fieldLink RX7 40 "LedgeLevels" "levelCount" "I", Cond.fieldLink RX7 15 "LedgeLevels" "levels" "[LLedgeLevels$Level;", Cond.classLink RX7 13 RX3, Cond.instantiable RX3 6, Cond.initialized RX3, Cond.methodLink RX7 287 yX3_init, Cond.instanceMethod yX3_init, Cond.code yX3_init cX3_init 3 none, Cond.methodLink RX3 3 objectInit, Cond.instanceMethod objectInit, Cond.code objectInit ⟨#[0xb1]⟩ 1 none, Cond.classLink RX3 9 RX1, Cond.instantiable RX1 3, Cond.initialized RX1, Cond.fieldLink RX3 12 "LedgeLevels$Level" "grid" "LLedgeLevels$Grid;", Cond.classLink RX3 18 RX2, Cond.instantiable RX2 5, Cond.initialized RX2, Cond.fieldLink RX3 21 "LedgeLevels$Level" "history" "LLedgeLevels$History;", Cond.fieldLink RX3 25 "LedgeLevels$Level" "start" "I", Cond.fieldLink RX3 29 "LedgeLevels$Level" "proof" "I", Cond.fieldLink RX3 32 "LedgeLevels$Level" "author" "I"]
def wsX7_addLevel_r2 : List Cond := [Cond.fieldLink RX3 35 "LedgeLevels$Level" "parent" "LLedgeLevels$Work;", Cond.instanceMethod yX1_init, Cond.code yX1_init cX1_init 1 none, Cond.methodLink RX1 3 objectInit, Cond.arrayClass .int, Cond.fieldLink RX1 9 "LedgeLevels$Grid" "kinds" "[I", Cond.fieldLink RX1 15 "LedgeLevels$Grid" "keyCells" "[I", Cond.fieldLink RX1 18 "LedgeLevels$Grid" "allKeys" "I", Cond.instanceMethod yX2_init, Cond.code yX2_init cX2_init 1 none, Cond.methodLink RX2 3 objectInit, Cond.fieldLink RX2 9 "LedgeLevels$History" "cells" "[I", Cond.fieldLink RX2 15 "LedgeLevels$History" "kindsBefore" "[I", Cond.fieldLink RX2 18 "LedgeLevels$History" "kindsAfter" "[I", Cond.fieldLink RX2 21 "LedgeLevels$History" "done" "I", Cond.fieldLink RX2 25 "LedgeLevels$History" "undone" "I"]
def wsX7_addLevel : List Cond := .code yX7_addLevel cX7_addLevel 4 (some (.object "LedgeLevels$Level")) :: ((wsX7_addLevel_r1 ++ wsX7_addLevel_r2) ++ wsX70 ++ wsX30 ++ wsX10 ++ wsX20 ++ (vx_atS RX7 92 "java/lang/IllegalStateException" ["java/lang/RuntimeException", "java/lang/Exception"]).filter goodWord)
def wsX7_begin_r1 : List Cond := [Cond.fieldLink RX7 40 "LedgeLevels" "levelCount" "I", Cond.methodLink RX7 48 yX7_checkPerson, Cond.static yX7_checkPerson, Cond.initialized RX7, Cond.code yX7_checkPerson cX7_checkPerson 1 none, Cond.classLink RX7 267 "java/lang/IndexOutOfBoundsException", Cond.initialized "java/lang/IndexOutOfBoundsException", Cond.methodLink RX7 52 yX7_addLevel, Cond.instanceMethod yX7_addLevel, Cond.selects RX7 yX7_addLevel yX7_addLevel, Cond.code yX7_addLevel cX7_addLevel 4 (some (.object "LedgeLevels$Level")), Cond.classLink RX7 88 "java/lang/IllegalStateException", Cond.initialized "java/lang/IllegalStateException", Cond.fieldLink RX7 15 "LedgeLevels" "levels" "[LLedgeLevels$Level;", Cond.classLink RX7 13 RX3, Cond.instantiable RX3 6, Cond.initialized RX3, Cond.methodLink RX7 287 yX3_init, Cond.instanceMethod yX3_init, Cond.code yX3_init cX3_init 3 none, Cond.methodLink RX3 3 objectInit, Cond.instanceMethod objectInit, Cond.code objectInit ⟨#[0xb1]⟩ 1 none, Cond.classLink RX3 9 RX1]
def wsX7_begin_r2 : List Cond := [Cond.instantiable RX1 3, Cond.initialized RX1, Cond.fieldLink RX3 12 "LedgeLevels$Level" "grid" "LLedgeLevels$Grid;", Cond.classLink RX3 18 RX2, Cond.instantiable RX2 5, Cond.initialized RX2, Cond.fieldLink RX3 21 "LedgeLevels$Level" "history" "LLedgeLevels$History;", Cond.fieldLink RX3 25 "LedgeLevels$Level" "start" "I", Cond.fieldLink RX3 29 "LedgeLevels$Level" "proof" "I", Cond.fieldLink RX3 32 "LedgeLevels$Level" "author" "I", Cond.fieldLink RX3 35 "LedgeLevels$Level" "parent" "LLedgeLevels$Work;", Cond.instanceMethod yX1_init, Cond.code yX1_init cX1_init 1 none, Cond.methodLink RX1 3 objectInit, Cond.arrayClass .int, Cond.fieldLink RX1 9 "LedgeLevels$Grid" "kinds" "[I", Cond.fieldLink RX1 15 "LedgeLevels$Grid" "keyCells" "[I", Cond.fieldLink RX1 18 "LedgeLevels$Grid" "allKeys" "I", Cond.instanceMethod yX2_init, Cond.code yX2_init cX2_init 1 none, Cond.methodLink RX2 3 objectInit, Cond.fieldLink RX2 9 "LedgeLevels$History" "cells" "[I", Cond.fieldLink RX2 15 "LedgeLevels$History" "kindsBefore" "[I", Cond.fieldLink RX2 18 "LedgeLevels$History" "kindsAfter" "[I"]
def wsX7_begin_r3 : List Cond := [Cond.fieldLink RX2 21 "LedgeLevels$History" "done" "I", Cond.fieldLink RX2 25 "LedgeLevels$History" "undone" "I", Cond.methodLink RX7 60 yX1_put, Cond.instanceMethod yX1_put, Cond.selects RX1 yX1_put yX1_put, Cond.code yX1_put cX1_put 3 none, Cond.static yX7_isCell, Cond.code yX7_isCell cX7_isCell 1 (some .boolean), Cond.methodLink RX1 26 yX1_changeKey, Cond.instanceMethod yX1_changeKey, Cond.selects RX1 yX1_changeKey yX1_changeKey, Cond.code yX1_changeKey cX1_changeKey 4 none]
def wsX7_begin : List Cond := .code yX7_begin cX7_begin 4 (some .int) :: ((wsX7_begin_r1 ++ (wsX7_begin_r2 ++ wsX7_begin_r3)) ++ wsX30 ++ wsX70 ++ wsX10 ++ wsX20 ++ (vx_atS RX7 271 "java/lang/IndexOutOfBoundsException" ["java/lang/RuntimeException", "java/lang/Exception"]).filter goodWord ++ (vx_atS RX7 92 "java/lang/IllegalStateException" ["java/lang/RuntimeException", "java/lang/Exception"]).filter goodWord)
def wsX7_levelOf : List Cond := .code yX7_levelOf cX7_levelOf 3 (some (.object "LedgeLevels$Level")) :: ([.classLink RX7 267 "java/lang/IndexOutOfBoundsException", .initialized "java/lang/IndexOutOfBoundsException", .fieldLink RX7 15 "LedgeLevels" "levels" "[LLedgeLevels$Level;"] ++ wsX70 ++ (vx_atS RX7 271 "java/lang/IndexOutOfBoundsException" ["java/lang/RuntimeException", "java/lang/Exception"]).filter goodWord)
def wsX7_checkCell : List Cond := .code yX7_checkCell cX7_checkCell 1 none :: ([.classLink RX7 267 "java/lang/IndexOutOfBoundsException", .initialized "java/lang/IndexOutOfBoundsException", .methodLink RX7 272 yX7_isCell, .static yX7_isCell, .initialized RX7, .code yX7_isCell cX7_isCell 1 (some .boolean)] ++ (vx_atS RX7 271 "java/lang/IndexOutOfBoundsException" ["java/lang/RuntimeException", "java/lang/Exception"]).filter goodWord)
def wsX7_set_r1 : List Cond := [Cond.classLink RX7 73 "java/lang/IllegalArgumentException", Cond.initialized "java/lang/IllegalArgumentException", Cond.classLink RX7 88 "java/lang/IllegalStateException", Cond.initialized "java/lang/IllegalStateException", Cond.methodLink RX7 66 yX7_levelOf, Cond.instanceMethod yX7_levelOf, Cond.selects RX7 yX7_levelOf yX7_levelOf, Cond.initialized RX7, Cond.code yX7_levelOf cX7_levelOf 3 (some (.object "LedgeLevels$Level")), Cond.classLink RX7 267 "java/lang/IndexOutOfBoundsException", Cond.initialized "java/lang/IndexOutOfBoundsException", Cond.fieldLink RX7 15 "LedgeLevels" "levels" "[LLedgeLevels$Level;", Cond.methodLink RX7 70 yX7_checkCell, Cond.static yX7_checkCell, Cond.code yX7_checkCell cX7_checkCell 1 none, Cond.methodLink RX7 272 yX7_isCell, Cond.static yX7_isCell, Cond.code yX7_isCell cX7_isCell 1 (some .boolean), Cond.methodLink RX7 80 yX1_kindAt, Cond.instanceMethod yX1_kindAt, Cond.selects RX1 yX1_kindAt yX1_kindAt, Cond.initialized RX1, Cond.code yX1_kindAt cX1_kindAt 2 (some .int), Cond.fieldLink RX1 9 "LedgeLevels$Grid" "kinds" "[I"]
def wsX7_set_r2 : List Cond := [Cond.methodLink RX7 84 yX1_keyCount, Cond.instanceMethod yX1_keyCount, Cond.selects RX1 yX1_keyCount yX1_keyCount, Cond.code yX1_keyCount cX1_keyCount 1 (some .int), Cond.fieldLink RX1 18 "LedgeLevels$Grid" "allKeys" "I", Cond.methodLink RX1 37 yJ6_bitCount_0f7a4, Cond.static yJ6_bitCount_0f7a4, Cond.initialized RJ6, Cond.code yJ6_bitCount_0f7a4 cJ6_bitCount_0f7a4 1 (some .int), Cond.constant RJ6 265 (1431655765), Cond.constant RJ6 266 (858993459), Cond.constant RJ6 267 (252645135), Cond.methodLink RX7 97 yX2_remember, Cond.instanceMethod yX2_remember, Cond.selects RX2 yX2_remember yX2_remember, Cond.initialized RX2, Cond.code yX2_remember cX2_remember 4 none, Cond.fieldLink RX2 21 "LedgeLevels$History" "done" "I", Cond.fieldLink RX2 9 "LedgeLevels$History" "cells" "[I", Cond.fieldLink RX2 15 "LedgeLevels$History" "kindsBefore" "[I", Cond.fieldLink RX2 18 "LedgeLevels$History" "kindsAfter" "[I", Cond.fieldLink RX2 25 "LedgeLevels$History" "undone" "I", Cond.methodLink RX2 28 yX2_forgetEarliest, Cond.instanceMethod yX2_forgetEarliest]
def wsX7_set_r3 : List Cond := [Cond.selects RX2 yX2_forgetEarliest yX2_forgetEarliest, Cond.code yX2_forgetEarliest cX2_forgetEarliest 2 none, Cond.methodLink RX7 103 yX3_putAnew, Cond.instanceMethod yX3_putAnew, Cond.selects RX3 yX3_putAnew yX3_putAnew, Cond.initialized RX3, Cond.code yX3_putAnew cX3_putAnew 3 none, Cond.fieldLink RX3 12 "LedgeLevels$Level" "grid" "LLedgeLevels$Grid;", Cond.fieldLink RX3 29 "LedgeLevels$Level" "proof" "I", Cond.methodLink RX3 39 yX1_put, Cond.instanceMethod yX1_put, Cond.selects RX1 yX1_put yX1_put, Cond.code yX1_put cX1_put 3 none, Cond.methodLink RX1 26 yX1_changeKey, Cond.instanceMethod yX1_changeKey, Cond.selects RX1 yX1_changeKey yX1_changeKey, Cond.code yX1_changeKey cX1_changeKey 4 none, Cond.fieldLink RX1 15 "LedgeLevels$Grid" "keyCells" "[I"]
def wsX7_set : List Cond := .code yX7_set cX7_set 6 (some .int) :: ((wsX7_set_r1 ++ (wsX7_set_r2 ++ wsX7_set_r3)) ++ wsX30 ++ wsX70 ++ wsX10 ++ wsX20 ++ (vx_atS RX7 77 "java/lang/IllegalArgumentException" ["java/lang/RuntimeException", "java/lang/Exception"]).filter goodWord ++ (vx_atS RX7 92 "java/lang/IllegalStateException" ["java/lang/RuntimeException", "java/lang/Exception"]).filter goodWord ++ (vx_atS RX7 271 "java/lang/IndexOutOfBoundsException" ["java/lang/RuntimeException", "java/lang/Exception"]).filter goodWord)
def wsX7_setStart : List Cond := .code yX7_setStart cX7_setStart 5 (some .int) :: ([.methodLink RX7 66 yX7_levelOf, .instanceMethod yX7_levelOf, .selects RX7 yX7_levelOf yX7_levelOf, .initialized RX7, .code yX7_levelOf cX7_levelOf 3 (some (.object "LedgeLevels$Level")), .classLink RX7 267 "java/lang/IndexOutOfBoundsException", .initialized "java/lang/IndexOutOfBoundsException", .fieldLink RX7 15 "LedgeLevels" "levels" "[LLedgeLevels$Level;", .methodLink RX7 70 yX7_checkCell, .static yX7_checkCell, .code yX7_checkCell cX7_checkCell 1 none, .methodLink RX7 272 yX7_isCell, .static yX7_isCell, .code yX7_isCell cX7_isCell 1 (some .boolean)] ++ wsX30 ++ wsX70 ++ (vx_atS RX7 271 "java/lang/IndexOutOfBoundsException" ["java/lang/RuntimeException", "java/lang/Exception"]).filter goodWord)
def wsX7_undo_r1 : List Cond := [Cond.classLink RX7 88 "java/lang/IllegalStateException", Cond.initialized "java/lang/IllegalStateException", Cond.methodLink RX7 66 yX7_levelOf, Cond.instanceMethod yX7_levelOf, Cond.selects RX7 yX7_levelOf yX7_levelOf, Cond.initialized RX7, Cond.code yX7_levelOf cX7_levelOf 3 (some (.object "LedgeLevels$Level")), Cond.classLink RX7 267 "java/lang/IndexOutOfBoundsException", Cond.initialized "java/lang/IndexOutOfBoundsException", Cond.fieldLink RX7 15 "LedgeLevels" "levels" "[LLedgeLevels$Level;", Cond.methodLink RX7 117 yX2_stepBack, Cond.instanceMethod yX2_stepBack, Cond.selects RX2 yX2_stepBack yX2_stepBack, Cond.initialized RX2, Cond.code yX2_stepBack cX2_stepBack 1 none, Cond.fieldLink RX2 21 "LedgeLevels$History" "done" "I", Cond.fieldLink RX2 25 "LedgeLevels$History" "undone" "I", Cond.methodLink RX7 120 yX2_cellOfNext, Cond.instanceMethod yX2_cellOfNext, Cond.selects RX2 yX2_cellOfNext yX2_cellOfNext, Cond.code yX2_cellOfNext cX2_cellOfNext 1 (some .int), Cond.fieldLink RX2 9 "LedgeLevels$History" "cells" "[I", Cond.methodLink RX2 31 yX2_hasNext, Cond.instanceMethod yX2_hasNext]
def wsX7_undo_r2 : List Cond := [Cond.selects RX2 yX2_hasNext yX2_hasNext, Cond.code yX2_hasNext cX2_hasNext 1 (some .boolean), Cond.methodLink RX7 123 yX2_kindBeforeNext, Cond.instanceMethod yX2_kindBeforeNext, Cond.selects RX2 yX2_kindBeforeNext yX2_kindBeforeNext, Cond.code yX2_kindBeforeNext cX2_kindBeforeNext 1 (some .int), Cond.fieldLink RX2 15 "LedgeLevels$History" "kindsBefore" "[I", Cond.methodLink RX7 103 yX3_putAnew, Cond.instanceMethod yX3_putAnew, Cond.selects RX3 yX3_putAnew yX3_putAnew, Cond.initialized RX3, Cond.code yX3_putAnew cX3_putAnew 3 none, Cond.fieldLink RX3 12 "LedgeLevels$Level" "grid" "LLedgeLevels$Grid;", Cond.fieldLink RX3 29 "LedgeLevels$Level" "proof" "I", Cond.methodLink RX3 39 yX1_put, Cond.instanceMethod yX1_put, Cond.selects RX1 yX1_put yX1_put, Cond.initialized RX1, Cond.code yX1_put cX1_put 3 none, Cond.fieldLink RX1 9 "LedgeLevels$Grid" "kinds" "[I", Cond.static yX7_isCell, Cond.code yX7_isCell cX7_isCell 1 (some .boolean), Cond.methodLink RX1 26 yX1_changeKey, Cond.instanceMethod yX1_changeKey]
def wsX7_undo_r3 : List Cond := [Cond.selects RX1 yX1_changeKey yX1_changeKey, Cond.code yX1_changeKey cX1_changeKey 4 none, Cond.fieldLink RX1 15 "LedgeLevels$Grid" "keyCells" "[I", Cond.fieldLink RX1 18 "LedgeLevels$Grid" "allKeys" "I"]
def wsX7_undo : List Cond := .code yX7_undo cX7_undo 5 (some .int) :: ((wsX7_undo_r1 ++ (wsX7_undo_r2 ++ wsX7_undo_r3)) ++ wsX30 ++ wsX20 ++ wsX70 ++ wsX10 ++ (vx_atS RX7 92 "java/lang/IllegalStateException" ["java/lang/RuntimeException", "java/lang/Exception"]).filter goodWord ++ (vx_atS RX7 271 "java/lang/IndexOutOfBoundsException" ["java/lang/RuntimeException", "java/lang/Exception"]).filter goodWord)
def wsX7_redo_r1 : List Cond := [Cond.classLink RX7 88 "java/lang/IllegalStateException", Cond.initialized "java/lang/IllegalStateException", Cond.methodLink RX7 66 yX7_levelOf, Cond.instanceMethod yX7_levelOf, Cond.selects RX7 yX7_levelOf yX7_levelOf, Cond.initialized RX7, Cond.code yX7_levelOf cX7_levelOf 3 (some (.object "LedgeLevels$Level")), Cond.classLink RX7 267 "java/lang/IndexOutOfBoundsException", Cond.initialized "java/lang/IndexOutOfBoundsException", Cond.fieldLink RX7 15 "LedgeLevels" "levels" "[LLedgeLevels$Level;", Cond.methodLink RX7 120 yX2_cellOfNext, Cond.instanceMethod yX2_cellOfNext, Cond.selects RX2 yX2_cellOfNext yX2_cellOfNext, Cond.initialized RX2, Cond.code yX2_cellOfNext cX2_cellOfNext 1 (some .int), Cond.fieldLink RX2 9 "LedgeLevels$History" "cells" "[I", Cond.fieldLink RX2 21 "LedgeLevels$History" "done" "I", Cond.methodLink RX2 31 yX2_hasNext, Cond.instanceMethod yX2_hasNext, Cond.selects RX2 yX2_hasNext yX2_hasNext, Cond.code yX2_hasNext cX2_hasNext 1 (some .boolean), Cond.methodLink RX7 131 yX2_kindAfterNext, Cond.instanceMethod yX2_kindAfterNext, Cond.selects RX2 yX2_kindAfterNext yX2_kindAfterNext]
def wsX7_redo_r2 : List Cond := [Cond.code yX2_kindAfterNext cX2_kindAfterNext 1 (some .int), Cond.fieldLink RX2 18 "LedgeLevels$History" "kindsAfter" "[I", Cond.methodLink RX7 103 yX3_putAnew, Cond.instanceMethod yX3_putAnew, Cond.selects RX3 yX3_putAnew yX3_putAnew, Cond.initialized RX3, Cond.code yX3_putAnew cX3_putAnew 3 none, Cond.fieldLink RX3 12 "LedgeLevels$Level" "grid" "LLedgeLevels$Grid;", Cond.fieldLink RX3 29 "LedgeLevels$Level" "proof" "I", Cond.methodLink RX3 39 yX1_put, Cond.instanceMethod yX1_put, Cond.selects RX1 yX1_put yX1_put, Cond.initialized RX1, Cond.code yX1_put cX1_put 3 none, Cond.fieldLink RX1 9 "LedgeLevels$Grid" "kinds" "[I", Cond.static yX7_isCell, Cond.code yX7_isCell cX7_isCell 1 (some .boolean), Cond.methodLink RX1 26 yX1_changeKey, Cond.instanceMethod yX1_changeKey, Cond.selects RX1 yX1_changeKey yX1_changeKey, Cond.code yX1_changeKey cX1_changeKey 4 none, Cond.fieldLink RX1 15 "LedgeLevels$Grid" "keyCells" "[I", Cond.fieldLink RX1 18 "LedgeLevels$Grid" "allKeys" "I", Cond.methodLink RX7 134 yX2_stepOn]
def wsX7_redo_r3 : List Cond := [Cond.instanceMethod yX2_stepOn, Cond.selects RX2 yX2_stepOn yX2_stepOn, Cond.code yX2_stepOn cX2_stepOn 1 none, Cond.fieldLink RX2 25 "LedgeLevels$History" "undone" "I"]
def wsX7_redo : List Cond := .code yX7_redo cX7_redo 5 (some .int) :: ((wsX7_redo_r1 ++ (wsX7_redo_r2 ++ wsX7_redo_r3)) ++ wsX30 ++ wsX20 ++ wsX70 ++ wsX10 ++ (vx_atS RX7 92 "java/lang/IllegalStateException" ["java/lang/RuntimeException", "java/lang/Exception"]).filter goodWord ++ (vx_atS RX7 271 "java/lang/IndexOutOfBoundsException" ["java/lang/RuntimeException", "java/lang/Exception"]).filter goodWord)
def wsX7_checkSpring : List Cond := .code yX7_checkSpring cX7_checkSpring 1 none :: ([.classLink RX7 267 "java/lang/IndexOutOfBoundsException", .initialized "java/lang/IndexOutOfBoundsException"] ++ (vx_atS RX7 271 "java/lang/IndexOutOfBoundsException" ["java/lang/RuntimeException", "java/lang/Exception"]).filter goodWord)
def wsX7_workOf : List Cond := .code yX7_workOf cX7_workOf 3 (some (.object "LedgeLevels$Work")) :: ([.classLink RX7 267 "java/lang/IndexOutOfBoundsException", .initialized "java/lang/IndexOutOfBoundsException", .fieldLink RX7 21 "LedgeLevels" "works" "[LLedgeLevels$Work;"] ++ wsX70 ++ (vx_atS RX7 271 "java/lang/IndexOutOfBoundsException" ["java/lang/RuntimeException", "java/lang/Exception"]).filter goodWord)
def wsX7_runOf : List Cond := .code yX7_runOf cX7_runOf 3 (some (.object "LedgeLevels$Run")) :: ([.classLink RX7 267 "java/lang/IndexOutOfBoundsException", .initialized "java/lang/IndexOutOfBoundsException", .fieldLink RX7 27 "LedgeLevels" "runs" "[LLedgeLevels$Run;"] ++ wsX70 ++ (vx_atS RX7 271 "java/lang/IndexOutOfBoundsException" ["java/lang/RuntimeException", "java/lang/Exception"]).filter goodWord)
def wsX7_endRunsIfWithdrawn : List Cond := .code yX7_endRunsIfWithdrawn cX7_endRunsIfWithdrawn 4 none :: ([.methodLink RX7 190 yX7_runOf, .instanceMethod yX7_runOf, .selects RX7 yX7_runOf yX7_runOf, .initialized RX7, .code yX7_runOf cX7_runOf 3 (some (.object "LedgeLevels$Run")), .classLink RX7 267 "java/lang/IndexOutOfBoundsException", .initialized "java/lang/IndexOutOfBoundsException", .fieldLink RX7 27 "LedgeLevels" "runs" "[LLedgeLevels$Run;"] ++ wsX60 ++ wsX40 ++ wsX70 ++ (vx_atS RX7 271 "java/lang/IndexOutOfBoundsException" ["java/lang/RuntimeException", "java/lang/Exception"]).filter goodWord)
def wsX7_voidProofsWith : List Cond := .code yX7_voidProofsWith cX7_voidProofsWith 5 (some .int) :: ([.fieldLink RX7 40 "LedgeLevels" "levelCount" "I", .methodLink RX7 66 yX7_levelOf, .instanceMethod yX7_levelOf, .selects RX7 yX7_levelOf yX7_levelOf, .initialized RX7, .code yX7_levelOf cX7_levelOf 3 (some (.object "LedgeLevels$Level")), .classLink RX7 267 "java/lang/IndexOutOfBoundsException", .initialized "java/lang/IndexOutOfBoundsException", .fieldLink RX7 15 "LedgeLevels" "levels" "[LLedgeLevels$Level;", .methodLink RX7 147 yX1_has, .instanceMethod yX1_has, .selects RX1 yX1_has yX1_has, .initialized RX1, .code yX1_has cX1_has 3 (some .boolean), .fieldLink RX1 9 "LedgeLevels$Grid" "kinds" "[I"] ++ wsX70 ++ wsX30 ++ wsX10 ++ (vx_atS RX7 271 "java/lang/IndexOutOfBoundsException" ["java/lang/RuntimeException", "java/lang/Exception"]).filter goodWord)
def wsX7_setSpring_r1 : List Cond := [Cond.classLink RX7 73 "java/lang/IllegalArgumentException", Cond.initialized "java/lang/IllegalArgumentException", Cond.fieldLink RX7 7 "LedgeLevels" "strengths" "[I", Cond.fieldLink RX7 44 "LedgeLevels" "workCount" "I", Cond.fieldLink RX7 36 "LedgeLevels" "search" "LLedgeLevels$Search;", Cond.methodLink RX7 137 yX7_checkSpring, Cond.static yX7_checkSpring, Cond.initialized RX7, Cond.code yX7_checkSpring cX7_checkSpring 1 none, Cond.classLink RX7 267 "java/lang/IndexOutOfBoundsException", Cond.initialized "java/lang/IndexOutOfBoundsException", Cond.methodLink RX7 142 yX7_workOf, Cond.instanceMethod yX7_workOf, Cond.selects RX7 yX7_workOf yX7_workOf, Cond.code yX7_workOf cX7_workOf 3 (some (.object "LedgeLevels$Work")), Cond.fieldLink RX7 21 "LedgeLevels" "works" "[LLedgeLevels$Work;", Cond.methodLink RX7 147 yX1_has, Cond.instanceMethod yX1_has, Cond.selects RX1 yX1_has yX1_has, Cond.initialized RX1, Cond.code yX1_has cX1_has 3 (some .boolean), Cond.fieldLink RX1 9 "LedgeLevels$Grid" "kinds" "[I", Cond.methodLink RX7 152 yX5_explore, Cond.instanceMethod yX5_explore]
def wsX7_setSpring_r2 : List Cond := [Cond.selects RX5 yX5_explore yX5_explore, Cond.initialized RX5, Cond.code yX5_explore cX5_explore 8 (some .int), Cond.fieldLink RX5 37 "LedgeLevels$Search" "body" "LLedgeLevels$Body;", Cond.fieldLink RX5 26 "LedgeLevels$Search" "tail" "I", Cond.fieldLink RX5 29 "LedgeLevels$Search" "won" "I", Cond.methodLink RX5 41 yX5_restart, Cond.instanceMethod yX5_restart, Cond.selects RX5 yX5_restart yX5_restart, Cond.code yX5_restart cX5_restart 2 none, Cond.fieldLink RX5 22 "LedgeLevels$Search" "number" "I", Cond.fieldLink RX5 18 "LedgeLevels$Search" "reached" "[Z", Cond.methodLink RX5 44 yX0_placeAtStart, Cond.instanceMethod yX0_placeAtStart, Cond.selects RX0 yX0_placeAtStart yX0_placeAtStart, Cond.initialized RX0, Cond.code yX0_placeAtStart cX0_placeAtStart 3 none, Cond.fieldLink RX0 15 "LedgeLevels$Body" "speed" "I", Cond.fieldLink RX0 18 "LedgeLevels$Body" "taken" "I", Cond.fieldLink RX0 21 "LedgeLevels$Body" "fate" "I", Cond.methodLink RX0 28 yX0_comeTo, Cond.instanceMethod yX0_comeTo, Cond.selects RX0 yX0_comeTo yX0_comeTo, Cond.code yX0_comeTo cX0_comeTo 4 none]
def wsX7_setSpring_r3 : List Cond := [Cond.fieldLink RX0 9 "LedgeLevels$Body" "cell" "I", Cond.static yX7_isCell, Cond.code yX7_isCell cX7_isCell 1 (some .boolean), Cond.methodLink RX0 47 yX1_kindAt, Cond.instanceMethod yX1_kindAt, Cond.selects RX1 yX1_kindAt yX1_kindAt, Cond.code yX1_kindAt cX1_kindAt 2 (some .int), Cond.methodLink RX0 63 yX1_keyBit, Cond.instanceMethod yX1_keyBit, Cond.selects RX1 yX1_keyBit yX1_keyBit, Cond.code yX1_keyBit cX1_keyBit 3 (some .int), Cond.fieldLink RX1 15 "LedgeLevels$Grid" "keyCells" "[I", Cond.methodLink RX5 48 yX5_noteBody, Cond.instanceMethod yX5_noteBody, Cond.selects RX5 yX5_noteBody yX5_noteBody, Cond.code yX5_noteBody cX5_noteBody 2 none, Cond.methodLink RX5 80 yX0_packed, Cond.instanceMethod yX0_packed, Cond.selects RX0 yX0_packed yX0_packed, Cond.code yX0_packed cX0_packed 1 (some .int), Cond.methodLink RX5 84 yX5_enqueueNew, Cond.instanceMethod yX5_enqueueNew, Cond.selects RX5 yX5_enqueueNew yX5_enqueueNew, Cond.code yX5_enqueueNew cX5_enqueueNew 2 none]
def wsX7_setSpring_r4 : List Cond := [Cond.fieldLink RX5 15 "LedgeLevels$Search" "seenIn" "[I", Cond.methodLink RX5 87 yX5_enqueue, Cond.instanceMethod yX5_enqueue, Cond.selects RX5 yX5_enqueue yX5_enqueue, Cond.code yX5_enqueue cX5_enqueue 2 none, Cond.fieldLink RX5 9 "LedgeLevels$Search" "queue" "[I", Cond.methodLink RX5 52 yX5_queuedAt, Cond.instanceMethod yX5_queuedAt, Cond.selects RX5 yX5_queuedAt yX5_queuedAt, Cond.code yX5_queuedAt cX5_queuedAt 2 (some .int), Cond.methodLink RX5 56 yX5_tryInputsFrom, Cond.instanceMethod yX5_tryInputsFrom, Cond.selects RX5 yX5_tryInputsFrom yX5_tryInputsFrom, Cond.code yX5_tryInputsFrom cX5_tryInputsFrom 6 none, Cond.methodLink RX5 60 yX0_unpack, Cond.instanceMethod yX0_unpack, Cond.selects RX0 yX0_unpack yX0_unpack, Cond.code yX0_unpack cX0_unpack 2 none, Cond.methodLink RX5 63 yX0_stands, Cond.instanceMethod yX0_stands, Cond.selects RX0 yX0_stands yX0_stands, Cond.code yX0_stands cX0_stands 2 (some .boolean), Cond.methodLink RX0 32 yX0_isSolidIn, Cond.instanceMethod yX0_isSolidIn]
def wsX7_setSpring_r5 : List Cond := [Cond.selects RX0 yX0_isSolidIn yX0_isSolidIn, Cond.code yX0_isSolidIn cX0_isSolidIn 4 (some .boolean), Cond.methodLink RX5 67 yX0_move, Cond.instanceMethod yX0_move, Cond.selects RX0 yX0_move yX0_move, Cond.code yX0_move cX0_move 3 none, Cond.methodLink RX0 36 yX0_stands, Cond.methodLink RX0 40 yX0_goSideways, Cond.instanceMethod yX0_goSideways, Cond.selects RX0 yX0_goSideways yX0_goSideways, Cond.code yX0_goSideways cX0_goSideways 5 none, Cond.methodLink RX0 43 yX0_goUpOrDown, Cond.instanceMethod yX0_goUpOrDown, Cond.selects RX0 yX0_goUpOrDown yX0_goUpOrDown, Cond.code yX0_goUpOrDown cX0_goUpOrDown 5 none, Cond.methodLink RX0 53 yX0_strengthOf, Cond.instanceMethod yX0_strengthOf, Cond.selects RX0 yX0_strengthOf yX0_strengthOf, Cond.code yX0_strengthOf cX0_strengthOf 3 (some .int), Cond.fieldLink RX0 24 "LedgeLevels$Body" "strengths" "[I", Cond.methodLink RX7 159 yX7_endRunsIfWithdrawn, Cond.instanceMethod yX7_endRunsIfWithdrawn, Cond.selects RX7 yX7_endRunsIfWithdrawn yX7_endRunsIfWithdrawn, Cond.code yX7_endRunsIfWithdrawn cX7_endRunsIfWithdrawn 4 none]
def wsX7_setSpring_r6 : List Cond := [Cond.methodLink RX7 190 yX7_runOf, Cond.instanceMethod yX7_runOf, Cond.selects RX7 yX7_runOf yX7_runOf, Cond.code yX7_runOf cX7_runOf 3 (some (.object "LedgeLevels$Run")), Cond.fieldLink RX7 27 "LedgeLevels" "runs" "[LLedgeLevels$Run;", Cond.methodLink RX7 163 yX7_voidProofsWith, Cond.instanceMethod yX7_voidProofsWith, Cond.selects RX7 yX7_voidProofsWith yX7_voidProofsWith, Cond.code yX7_voidProofsWith cX7_voidProofsWith 5 (some .int), Cond.fieldLink RX7 40 "LedgeLevels" "levelCount" "I", Cond.methodLink RX7 66 yX7_levelOf, Cond.instanceMethod yX7_levelOf, Cond.selects RX7 yX7_levelOf yX7_levelOf, Cond.code yX7_levelOf cX7_levelOf 3 (some (.object "LedgeLevels$Level")), Cond.fieldLink RX7 15 "LedgeLevels" "levels" "[LLedgeLevels$Level;"]
def wsX7_setSpring : List Cond := .code yX7_setSpring cX7_setSpring 5 (some .int) :: ((wsX7_setSpring_r1 ++ (wsX7_setSpring_r2 ++ (wsX7_setSpring_r3 ++ (wsX7_setSpring_r4 ++ (wsX7_setSpring_r5 ++ wsX7_setSpring_r6))))) ++ wsX70 ++ wsX60 ++ wsX10 ++ wsX50 ++ wsX00 ++ wsX40 ++ wsX30 ++ (vx_atS RX7 77 "java/lang/IllegalArgumentException" ["java/lang/RuntimeException", "java/lang/Exception"]).filter goodWord ++ (vx_atS RX7 271 "java/lang/IndexOutOfBoundsException" ["java/lang/RuntimeException", "java/lang/Exception"]).filter goodWord)
def wsX7_prove_r1 : List Cond := [Cond.fieldLink RX7 36 "LedgeLevels" "search" "LLedgeLevels$Search;", Cond.methodLink RX7 66 yX7_levelOf, Cond.instanceMethod yX7_levelOf, Cond.selects RX7 yX7_levelOf yX7_levelOf, Cond.initialized RX7, Cond.code yX7_levelOf cX7_levelOf 3 (some (.object "LedgeLevels$Level")), Cond.classLink RX7 267 "java/lang/IndexOutOfBoundsException", Cond.initialized "java/lang/IndexOutOfBoundsException", Cond.fieldLink RX7 15 "LedgeLevels" "levels" "[LLedgeLevels$Level;", Cond.methodLink RX7 152 yX5_explore, Cond.instanceMethod yX5_explore, Cond.selects RX5 yX5_explore yX5_explore, Cond.initialized RX5, Cond.code yX5_explore cX5_explore 8 (some .int), Cond.fieldLink RX5 37 "LedgeLevels$Search" "body" "LLedgeLevels$Body;", Cond.fieldLink RX5 26 "LedgeLevels$Search" "tail" "I", Cond.fieldLink RX5 29 "LedgeLevels$Search" "won" "I", Cond.methodLink RX5 41 yX5_restart, Cond.instanceMethod yX5_restart, Cond.selects RX5 yX5_restart yX5_restart, Cond.code yX5_restart cX5_restart 2 none, Cond.fieldLink RX5 22 "LedgeLevels$Search" "number" "I", Cond.fieldLink RX5 18 "LedgeLevels$Search" "reached" "[Z", Cond.methodLink RX5 44 yX0_placeAtStart]
def wsX7_prove_r2 : List Cond := [Cond.instanceMethod yX0_placeAtStart, Cond.selects RX0 yX0_placeAtStart yX0_placeAtStart, Cond.initialized RX0, Cond.code yX0_placeAtStart cX0_placeAtStart 3 none, Cond.fieldLink RX0 15 "LedgeLevels$Body" "speed" "I", Cond.fieldLink RX0 18 "LedgeLevels$Body" "taken" "I", Cond.fieldLink RX0 21 "LedgeLevels$Body" "fate" "I", Cond.methodLink RX0 28 yX0_comeTo, Cond.instanceMethod yX0_comeTo, Cond.selects RX0 yX0_comeTo yX0_comeTo, Cond.code yX0_comeTo cX0_comeTo 4 none, Cond.fieldLink RX0 9 "LedgeLevels$Body" "cell" "I", Cond.static yX7_isCell, Cond.code yX7_isCell cX7_isCell 1 (some .boolean), Cond.methodLink RX0 47 yX1_kindAt, Cond.instanceMethod yX1_kindAt, Cond.selects RX1 yX1_kindAt yX1_kindAt, Cond.initialized RX1, Cond.code yX1_kindAt cX1_kindAt 2 (some .int), Cond.fieldLink RX1 9 "LedgeLevels$Grid" "kinds" "[I", Cond.methodLink RX0 63 yX1_keyBit, Cond.instanceMethod yX1_keyBit, Cond.selects RX1 yX1_keyBit yX1_keyBit, Cond.code yX1_keyBit cX1_keyBit 3 (some .int)]
def wsX7_prove_r3 : List Cond := [Cond.fieldLink RX1 15 "LedgeLevels$Grid" "keyCells" "[I", Cond.methodLink RX5 48 yX5_noteBody, Cond.instanceMethod yX5_noteBody, Cond.selects RX5 yX5_noteBody yX5_noteBody, Cond.code yX5_noteBody cX5_noteBody 2 none, Cond.methodLink RX5 80 yX0_packed, Cond.instanceMethod yX0_packed, Cond.selects RX0 yX0_packed yX0_packed, Cond.code yX0_packed cX0_packed 1 (some .int), Cond.methodLink RX5 84 yX5_enqueueNew, Cond.instanceMethod yX5_enqueueNew, Cond.selects RX5 yX5_enqueueNew yX5_enqueueNew, Cond.code yX5_enqueueNew cX5_enqueueNew 2 none, Cond.fieldLink RX5 15 "LedgeLevels$Search" "seenIn" "[I", Cond.methodLink RX5 87 yX5_enqueue, Cond.instanceMethod yX5_enqueue, Cond.selects RX5 yX5_enqueue yX5_enqueue, Cond.code yX5_enqueue cX5_enqueue 2 none, Cond.fieldLink RX5 9 "LedgeLevels$Search" "queue" "[I", Cond.methodLink RX5 52 yX5_queuedAt, Cond.instanceMethod yX5_queuedAt, Cond.selects RX5 yX5_queuedAt yX5_queuedAt, Cond.code yX5_queuedAt cX5_queuedAt 2 (some .int), Cond.methodLink RX5 56 yX5_tryInputsFrom]
def wsX7_prove_r4 : List Cond := [Cond.instanceMethod yX5_tryInputsFrom, Cond.selects RX5 yX5_tryInputsFrom yX5_tryInputsFrom, Cond.code yX5_tryInputsFrom cX5_tryInputsFrom 6 none, Cond.methodLink RX5 60 yX0_unpack, Cond.instanceMethod yX0_unpack, Cond.selects RX0 yX0_unpack yX0_unpack, Cond.code yX0_unpack cX0_unpack 2 none, Cond.methodLink RX5 63 yX0_stands, Cond.instanceMethod yX0_stands, Cond.selects RX0 yX0_stands yX0_stands, Cond.code yX0_stands cX0_stands 2 (some .boolean), Cond.methodLink RX0 32 yX0_isSolidIn, Cond.instanceMethod yX0_isSolidIn, Cond.selects RX0 yX0_isSolidIn yX0_isSolidIn, Cond.code yX0_isSolidIn cX0_isSolidIn 4 (some .boolean), Cond.methodLink RX5 67 yX0_move, Cond.instanceMethod yX0_move, Cond.selects RX0 yX0_move yX0_move, Cond.code yX0_move cX0_move 3 none, Cond.methodLink RX0 36 yX0_stands, Cond.methodLink RX0 40 yX0_goSideways, Cond.instanceMethod yX0_goSideways, Cond.selects RX0 yX0_goSideways yX0_goSideways, Cond.code yX0_goSideways cX0_goSideways 5 none]
def wsX7_prove_r5 : List Cond := [Cond.methodLink RX0 43 yX0_goUpOrDown, Cond.instanceMethod yX0_goUpOrDown, Cond.selects RX0 yX0_goUpOrDown yX0_goUpOrDown, Cond.code yX0_goUpOrDown cX0_goUpOrDown 5 none, Cond.methodLink RX0 53 yX0_strengthOf, Cond.instanceMethod yX0_strengthOf, Cond.selects RX0 yX0_strengthOf yX0_strengthOf, Cond.code yX0_strengthOf cX0_strengthOf 3 (some .int), Cond.fieldLink RX0 24 "LedgeLevels$Body" "strengths" "[I"]
def wsX7_prove : List Cond := .code yX7_prove cX7_prove 3 (some .int) :: ((wsX7_prove_r1 ++ (wsX7_prove_r2 ++ (wsX7_prove_r3 ++ (wsX7_prove_r4 ++ wsX7_prove_r5)))) ++ wsX70 ++ wsX30 ++ wsX50 ++ wsX00 ++ wsX10 ++ (vx_atS RX7 271 "java/lang/IndexOutOfBoundsException" ["java/lang/RuntimeException", "java/lang/Exception"]).filter goodWord)
def wsX7_offer_r1 : List Cond := [Cond.classLink RX7 88 "java/lang/IllegalStateException", Cond.initialized "java/lang/IllegalStateException", Cond.fieldLink RX7 44 "LedgeLevels" "workCount" "I", Cond.fieldLink RX7 21 "LedgeLevels" "works" "[LLedgeLevels$Work;", Cond.classLink RX7 19 RX6, Cond.instantiable RX6 8, Cond.initialized RX6, Cond.methodLink RX7 66 yX7_levelOf, Cond.instanceMethod yX7_levelOf, Cond.selects RX7 yX7_levelOf yX7_levelOf, Cond.initialized RX7, Cond.code yX7_levelOf cX7_levelOf 3 (some (.object "LedgeLevels$Level")), Cond.classLink RX7 267 "java/lang/IndexOutOfBoundsException", Cond.initialized "java/lang/IndexOutOfBoundsException", Cond.fieldLink RX7 15 "LedgeLevels" "levels" "[LLedgeLevels$Level;", Cond.methodLink RX7 170 yX6_init, Cond.instanceMethod yX6_init, Cond.code yX6_init cX6_init 3 none, Cond.methodLink RX6 3 objectInit, Cond.instanceMethod objectInit, Cond.code objectInit ⟨#[0xb1]⟩ 1 none, Cond.classLink RX6 9 RX1, Cond.instantiable RX1 3, Cond.initialized RX1]
def wsX7_offer_r2 : List Cond := [Cond.fieldLink RX6 12 "LedgeLevels$Work" "grid" "LLedgeLevels$Grid;", Cond.arrayClass .int, Cond.fieldLink RX6 18 "LedgeLevels$Work" "given" "[I", Cond.fieldLink RX6 22 "LedgeLevels$Work" "record" "I", Cond.fieldLink RX6 26 "LedgeLevels$Work" "number" "I", Cond.fieldLink RX6 34 "LedgeLevels$Work" "author" "I", Cond.fieldLink RX6 39 "LedgeLevels$Work" "parent" "LLedgeLevels$Work;", Cond.fieldLink RX6 48 "LedgeLevels$Work" "start" "I", Cond.fieldLink RX6 52 "LedgeLevels$Work" "best" "I", Cond.instanceMethod yX1_init, Cond.code yX1_init cX1_init 1 none, Cond.methodLink RX1 3 objectInit, Cond.fieldLink RX1 9 "LedgeLevels$Grid" "kinds" "[I", Cond.fieldLink RX1 15 "LedgeLevels$Grid" "keyCells" "[I", Cond.fieldLink RX1 18 "LedgeLevels$Grid" "allKeys" "I", Cond.methodLink RX6 41 yX1_putAllOf, Cond.instanceMethod yX1_putAllOf, Cond.selects RX1 yX1_putAllOf yX1_putAllOf, Cond.code yX1_putAllOf cX1_putAllOf 3 none, Cond.methodLink RX1 30 yX1_kindAt, Cond.instanceMethod yX1_kindAt, Cond.selects RX1 yX1_kindAt yX1_kindAt, Cond.code yX1_kindAt cX1_kindAt 2 (some .int), Cond.methodLink RX1 34 yX1_put]
def wsX7_offer_r3 : List Cond := [Cond.instanceMethod yX1_put, Cond.selects RX1 yX1_put yX1_put, Cond.code yX1_put cX1_put 3 none, Cond.static yX7_isCell, Cond.code yX7_isCell cX7_isCell 1 (some .boolean), Cond.methodLink RX1 26 yX1_changeKey, Cond.instanceMethod yX1_changeKey, Cond.selects RX1 yX1_changeKey yX1_changeKey, Cond.code yX1_changeKey cX1_changeKey 4 none]
def wsX7_offer : List Cond := .code yX7_offer cX7_offer 3 (some .int) :: ((wsX7_offer_r1 ++ (wsX7_offer_r2 ++ wsX7_offer_r3)) ++ wsX30 ++ wsX70 ++ wsX60 ++ wsX10 ++ (vx_atS RX7 92 "java/lang/IllegalStateException" ["java/lang/RuntimeException", "java/lang/Exception"]).filter goodWord ++ (vx_atS RX7 271 "java/lang/IndexOutOfBoundsException" ["java/lang/RuntimeException", "java/lang/Exception"]).filter goodWord)
def wsX7_checkNotWithdrawn : List Cond := .code yX7_checkNotWithdrawn cX7_checkNotWithdrawn 1 none :: ([.classLink RX7 88 "java/lang/IllegalStateException", .initialized "java/lang/IllegalStateException"] ++ wsX60 ++ (vx_atS RX7 92 "java/lang/IllegalStateException" ["java/lang/RuntimeException", "java/lang/Exception"]).filter goodWord)
def wsX7_copy_r1 : List Cond := [Cond.fieldLink RX7 40 "LedgeLevels" "levelCount" "I", Cond.methodLink RX7 142 yX7_workOf, Cond.instanceMethod yX7_workOf, Cond.selects RX7 yX7_workOf yX7_workOf, Cond.initialized RX7, Cond.code yX7_workOf cX7_workOf 3 (some (.object "LedgeLevels$Work")), Cond.classLink RX7 267 "java/lang/IndexOutOfBoundsException", Cond.initialized "java/lang/IndexOutOfBoundsException", Cond.fieldLink RX7 21 "LedgeLevels" "works" "[LLedgeLevels$Work;", Cond.methodLink RX7 48 yX7_checkPerson, Cond.static yX7_checkPerson, Cond.code yX7_checkPerson cX7_checkPerson 1 none, Cond.methodLink RX7 173 yX7_checkNotWithdrawn, Cond.static yX7_checkNotWithdrawn, Cond.code yX7_checkNotWithdrawn cX7_checkNotWithdrawn 1 none, Cond.classLink RX7 88 "java/lang/IllegalStateException", Cond.initialized "java/lang/IllegalStateException", Cond.methodLink RX7 52 yX7_addLevel, Cond.instanceMethod yX7_addLevel, Cond.selects RX7 yX7_addLevel yX7_addLevel, Cond.code yX7_addLevel cX7_addLevel 4 (some (.object "LedgeLevels$Level")), Cond.fieldLink RX7 15 "LedgeLevels" "levels" "[LLedgeLevels$Level;", Cond.classLink RX7 13 RX3, Cond.instantiable RX3 6]
def wsX7_copy_r2 : List Cond := [Cond.initialized RX3, Cond.methodLink RX7 287 yX3_init, Cond.instanceMethod yX3_init, Cond.code yX3_init cX3_init 3 none, Cond.methodLink RX3 3 objectInit, Cond.instanceMethod objectInit, Cond.code objectInit ⟨#[0xb1]⟩ 1 none, Cond.classLink RX3 9 RX1, Cond.instantiable RX1 3, Cond.initialized RX1, Cond.fieldLink RX3 12 "LedgeLevels$Level" "grid" "LLedgeLevels$Grid;", Cond.classLink RX3 18 RX2, Cond.instantiable RX2 5, Cond.initialized RX2, Cond.fieldLink RX3 21 "LedgeLevels$Level" "history" "LLedgeLevels$History;", Cond.fieldLink RX3 25 "LedgeLevels$Level" "start" "I", Cond.fieldLink RX3 29 "LedgeLevels$Level" "proof" "I", Cond.fieldLink RX3 32 "LedgeLevels$Level" "author" "I", Cond.fieldLink RX3 35 "LedgeLevels$Level" "parent" "LLedgeLevels$Work;", Cond.instanceMethod yX1_init, Cond.code yX1_init cX1_init 1 none, Cond.methodLink RX1 3 objectInit, Cond.arrayClass .int, Cond.fieldLink RX1 9 "LedgeLevels$Grid" "kinds" "[I"]
def wsX7_copy_r3 : List Cond := [Cond.fieldLink RX1 15 "LedgeLevels$Grid" "keyCells" "[I", Cond.fieldLink RX1 18 "LedgeLevels$Grid" "allKeys" "I", Cond.instanceMethod yX2_init, Cond.code yX2_init cX2_init 1 none, Cond.methodLink RX2 3 objectInit, Cond.fieldLink RX2 9 "LedgeLevels$History" "cells" "[I", Cond.fieldLink RX2 15 "LedgeLevels$History" "kindsBefore" "[I", Cond.fieldLink RX2 18 "LedgeLevels$History" "kindsAfter" "[I", Cond.fieldLink RX2 21 "LedgeLevels$History" "done" "I", Cond.fieldLink RX2 25 "LedgeLevels$History" "undone" "I", Cond.methodLink RX7 176 yX1_putAllOf, Cond.instanceMethod yX1_putAllOf, Cond.selects RX1 yX1_putAllOf yX1_putAllOf, Cond.code yX1_putAllOf cX1_putAllOf 3 none, Cond.methodLink RX1 30 yX1_kindAt, Cond.instanceMethod yX1_kindAt, Cond.selects RX1 yX1_kindAt yX1_kindAt, Cond.code yX1_kindAt cX1_kindAt 2 (some .int), Cond.methodLink RX1 34 yX1_put, Cond.instanceMethod yX1_put, Cond.selects RX1 yX1_put yX1_put, Cond.code yX1_put cX1_put 3 none, Cond.static yX7_isCell, Cond.code yX7_isCell cX7_isCell 1 (some .boolean)]
def wsX7_copy_r4 : List Cond := [Cond.methodLink RX1 26 yX1_changeKey, Cond.instanceMethod yX1_changeKey, Cond.selects RX1 yX1_changeKey yX1_changeKey, Cond.code yX1_changeKey cX1_changeKey 4 none]
def wsX7_copy : List Cond := .code yX7_copy cX7_copy 5 (some .int) :: ((wsX7_copy_r1 ++ (wsX7_copy_r2 ++ (wsX7_copy_r3 ++ wsX7_copy_r4))) ++ wsX30 ++ wsX60 ++ wsX70 ++ wsX10 ++ wsX20 ++ (vx_atS RX7 271 "java/lang/IndexOutOfBoundsException" ["java/lang/RuntimeException", "java/lang/Exception"]).filter goodWord ++ (vx_atS RX7 92 "java/lang/IllegalStateException" ["java/lang/RuntimeException", "java/lang/Exception"]).filter goodWord)
def wsX7_star : List Cond := .code yX7_star cX7_star 6 (some .int) :: ([.classLink RX7 73 "java/lang/IllegalArgumentException", .initialized "java/lang/IllegalArgumentException", .classLink RX7 88 "java/lang/IllegalStateException", .initialized "java/lang/IllegalStateException", .methodLink RX7 142 yX7_workOf, .instanceMethod yX7_workOf, .selects RX7 yX7_workOf yX7_workOf, .initialized RX7, .code yX7_workOf cX7_workOf 3 (some (.object "LedgeLevels$Work")), .classLink RX7 267 "java/lang/IndexOutOfBoundsException", .initialized "java/lang/IndexOutOfBoundsException", .fieldLink RX7 21 "LedgeLevels" "works" "[LLedgeLevels$Work;", .methodLink RX7 48 yX7_checkPerson, .static yX7_checkPerson, .code yX7_checkPerson cX7_checkPerson 1 none, .methodLink RX7 173 yX7_checkNotWithdrawn, .static yX7_checkNotWithdrawn, .code yX7_checkNotWithdrawn cX7_checkNotWithdrawn 1 none] ++ wsX60 ++ wsX70 ++ (vx_atS RX7 77 "java/lang/IllegalArgumentException" ["java/lang/RuntimeException", "java/lang/Exception"]).filter goodWord ++ (vx_atS RX7 92 "java/lang/IllegalStateException" ["java/lang/RuntimeException", "java/lang/Exception"]).filter goodWord ++ (vx_atS RX7 271 "java/lang/IndexOutOfBoundsException" ["java/lang/RuntimeException", "java/lang/Exception"]).filter goodWord)
def wsX7_run_r1 : List Cond := [Cond.methodLink RX7 190 yX7_runOf, Cond.instanceMethod yX7_runOf, Cond.selects RX7 yX7_runOf yX7_runOf, Cond.initialized RX7, Cond.code yX7_runOf cX7_runOf 3 (some (.object "LedgeLevels$Run")), Cond.classLink RX7 267 "java/lang/IndexOutOfBoundsException", Cond.initialized "java/lang/IndexOutOfBoundsException", Cond.fieldLink RX7 27 "LedgeLevels" "runs" "[LLedgeLevels$Run;", Cond.methodLink RX7 142 yX7_workOf, Cond.instanceMethod yX7_workOf, Cond.selects RX7 yX7_workOf yX7_workOf, Cond.code yX7_workOf cX7_workOf 3 (some (.object "LedgeLevels$Work")), Cond.fieldLink RX7 21 "LedgeLevels" "works" "[LLedgeLevels$Work;", Cond.methodLink RX7 173 yX7_checkNotWithdrawn, Cond.static yX7_checkNotWithdrawn, Cond.code yX7_checkNotWithdrawn cX7_checkNotWithdrawn 1 none, Cond.classLink RX7 88 "java/lang/IllegalStateException", Cond.initialized "java/lang/IllegalStateException", Cond.methodLink RX7 194 yX4_beginOn, Cond.instanceMethod yX4_beginOn, Cond.selects RX4 yX4_beginOn yX4_beginOn, Cond.initialized RX4, Cond.code yX4_beginOn cX4_beginOn 2 none, Cond.fieldLink RX4 9 "LedgeLevels$Run" "work" "LLedgeLevels$Work;"]
def wsX7_run_r2 : List Cond := [Cond.fieldLink RX4 19 "LedgeLevels$Run" "steps" "I", Cond.fieldLink RX4 27 "LedgeLevels$Run" "body" "LLedgeLevels$Body;", Cond.methodLink RX4 40 yX0_placeAtStart, Cond.instanceMethod yX0_placeAtStart, Cond.selects RX0 yX0_placeAtStart yX0_placeAtStart, Cond.initialized RX0, Cond.code yX0_placeAtStart cX0_placeAtStart 3 none, Cond.fieldLink RX0 15 "LedgeLevels$Body" "speed" "I", Cond.fieldLink RX0 18 "LedgeLevels$Body" "taken" "I", Cond.fieldLink RX0 21 "LedgeLevels$Body" "fate" "I", Cond.methodLink RX0 28 yX0_comeTo, Cond.instanceMethod yX0_comeTo, Cond.selects RX0 yX0_comeTo yX0_comeTo, Cond.code yX0_comeTo cX0_comeTo 4 none, Cond.fieldLink RX0 9 "LedgeLevels$Body" "cell" "I", Cond.static yX7_isCell, Cond.code yX7_isCell cX7_isCell 1 (some .boolean), Cond.methodLink RX0 47 yX1_kindAt, Cond.instanceMethod yX1_kindAt, Cond.selects RX1 yX1_kindAt yX1_kindAt, Cond.initialized RX1, Cond.code yX1_kindAt cX1_kindAt 2 (some .int), Cond.fieldLink RX1 9 "LedgeLevels$Grid" "kinds" "[I", Cond.methodLink RX0 63 yX1_keyBit]
def wsX7_run_r3 : List Cond := [Cond.instanceMethod yX1_keyBit, Cond.selects RX1 yX1_keyBit yX1_keyBit, Cond.code yX1_keyBit cX1_keyBit 3 (some .int), Cond.fieldLink RX1 15 "LedgeLevels$Grid" "keyCells" "[I", Cond.methodLink RX4 44 yX4_takeStateOfBody, Cond.instanceMethod yX4_takeStateOfBody, Cond.selects RX4 yX4_takeStateOfBody yX4_takeStateOfBody, Cond.code yX4_takeStateOfBody cX4_takeStateOfBody 1 none, Cond.fieldLink RX4 15 "LedgeLevels$Run" "state" "I", Cond.methodLink RX4 53 yX6_noteWin, Cond.instanceMethod yX6_noteWin, Cond.selects RX6 yX6_noteWin yX6_noteWin, Cond.initialized RX6, Cond.code yX6_noteWin cX6_noteWin 2 none, Cond.fieldLink RX6 22 "LedgeLevels$Work" "record" "I", Cond.methodLink RX7 197 yX4_answer, Cond.instanceMethod yX4_answer, Cond.selects RX4 yX4_answer yX4_answer, Cond.code yX4_answer cX4_answer 1 (some .int)]
def wsX7_run : List Cond := .code yX7_run cX7_run 5 (some .int) :: ((wsX7_run_r1 ++ (wsX7_run_r2 ++ wsX7_run_r3)) ++ wsX70 ++ wsX60 ++ wsX40 ++ wsX00 ++ wsX10 ++ (vx_atS RX7 271 "java/lang/IndexOutOfBoundsException" ["java/lang/RuntimeException", "java/lang/Exception"]).filter goodWord ++ (vx_atS RX7 92 "java/lang/IllegalStateException" ["java/lang/RuntimeException", "java/lang/Exception"]).filter goodWord)
def wsX7_step_r1 : List Cond := [Cond.classLink RX7 73 "java/lang/IllegalArgumentException", Cond.initialized "java/lang/IllegalArgumentException", Cond.classLink RX7 88 "java/lang/IllegalStateException", Cond.initialized "java/lang/IllegalStateException", Cond.methodLink RX7 190 yX7_runOf, Cond.instanceMethod yX7_runOf, Cond.selects RX7 yX7_runOf yX7_runOf, Cond.initialized RX7, Cond.code yX7_runOf cX7_runOf 3 (some (.object "LedgeLevels$Run")), Cond.classLink RX7 267 "java/lang/IndexOutOfBoundsException", Cond.initialized "java/lang/IndexOutOfBoundsException", Cond.fieldLink RX7 27 "LedgeLevels" "runs" "[LLedgeLevels$Run;", Cond.methodLink RX7 212 yX4_goOn, Cond.instanceMethod yX4_goOn, Cond.selects RX4 yX4_goOn yX4_goOn, Cond.initialized RX4, Cond.code yX4_goOn cX4_goOn 2 none, Cond.fieldLink RX4 9 "LedgeLevels$Run" "work" "LLedgeLevels$Work;", Cond.fieldLink RX4 19 "LedgeLevels$Run" "steps" "I", Cond.fieldLink RX4 27 "LedgeLevels$Run" "body" "LLedgeLevels$Body;", Cond.methodLink RX4 47 yX0_move, Cond.instanceMethod yX0_move, Cond.selects RX0 yX0_move yX0_move, Cond.initialized RX0]
def wsX7_step_r2 : List Cond := [Cond.code yX0_move cX0_move 3 none, Cond.fieldLink RX0 15 "LedgeLevels$Body" "speed" "I", Cond.fieldLink RX0 21 "LedgeLevels$Body" "fate" "I", Cond.methodLink RX0 36 yX0_stands, Cond.instanceMethod yX0_stands, Cond.selects RX0 yX0_stands yX0_stands, Cond.code yX0_stands cX0_stands 2 (some .boolean), Cond.fieldLink RX0 9 "LedgeLevels$Body" "cell" "I", Cond.methodLink RX0 32 yX0_isSolidIn, Cond.instanceMethod yX0_isSolidIn, Cond.selects RX0 yX0_isSolidIn yX0_isSolidIn, Cond.code yX0_isSolidIn cX0_isSolidIn 4 (some .boolean), Cond.fieldLink RX0 18 "LedgeLevels$Body" "taken" "I", Cond.methodLink RX0 47 yX1_kindAt, Cond.instanceMethod yX1_kindAt, Cond.selects RX1 yX1_kindAt yX1_kindAt, Cond.initialized RX1, Cond.code yX1_kindAt cX1_kindAt 2 (some .int), Cond.fieldLink RX1 9 "LedgeLevels$Grid" "kinds" "[I", Cond.methodLink RX0 40 yX0_goSideways, Cond.instanceMethod yX0_goSideways, Cond.selects RX0 yX0_goSideways yX0_goSideways, Cond.code yX0_goSideways cX0_goSideways 5 none, Cond.methodLink RX0 28 yX0_comeTo]
def wsX7_step_r3 : List Cond := [Cond.instanceMethod yX0_comeTo, Cond.selects RX0 yX0_comeTo yX0_comeTo, Cond.code yX0_comeTo cX0_comeTo 4 none, Cond.static yX7_isCell, Cond.code yX7_isCell cX7_isCell 1 (some .boolean), Cond.methodLink RX0 63 yX1_keyBit, Cond.instanceMethod yX1_keyBit, Cond.selects RX1 yX1_keyBit yX1_keyBit, Cond.code yX1_keyBit cX1_keyBit 3 (some .int), Cond.fieldLink RX1 15 "LedgeLevels$Grid" "keyCells" "[I", Cond.methodLink RX0 43 yX0_goUpOrDown, Cond.instanceMethod yX0_goUpOrDown, Cond.selects RX0 yX0_goUpOrDown yX0_goUpOrDown, Cond.code yX0_goUpOrDown cX0_goUpOrDown 5 none, Cond.methodLink RX0 53 yX0_strengthOf, Cond.instanceMethod yX0_strengthOf, Cond.selects RX0 yX0_strengthOf yX0_strengthOf, Cond.code yX0_strengthOf cX0_strengthOf 3 (some .int), Cond.fieldLink RX0 24 "LedgeLevels$Body" "strengths" "[I", Cond.methodLink RX4 44 yX4_takeStateOfBody, Cond.instanceMethod yX4_takeStateOfBody, Cond.selects RX4 yX4_takeStateOfBody yX4_takeStateOfBody, Cond.code yX4_takeStateOfBody cX4_takeStateOfBody 1 none, Cond.fieldLink RX4 15 "LedgeLevels$Run" "state" "I"]
def wsX7_step_r4 : List Cond := [Cond.methodLink RX4 53 yX6_noteWin, Cond.instanceMethod yX6_noteWin, Cond.selects RX6 yX6_noteWin yX6_noteWin, Cond.initialized RX6, Cond.code yX6_noteWin cX6_noteWin 2 none, Cond.fieldLink RX6 22 "LedgeLevels$Work" "record" "I", Cond.methodLink RX7 197 yX4_answer, Cond.instanceMethod yX4_answer, Cond.selects RX4 yX4_answer yX4_answer, Cond.code yX4_answer cX4_answer 1 (some .int)]
def wsX7_step : List Cond := .code yX7_step cX7_step 4 (some .int) :: ((wsX7_step_r1 ++ (wsX7_step_r2 ++ (wsX7_step_r3 ++ wsX7_step_r4))) ++ wsX40 ++ wsX70 ++ wsX60 ++ wsX00 ++ wsX10 ++ (vx_atS RX7 77 "java/lang/IllegalArgumentException" ["java/lang/RuntimeException", "java/lang/Exception"]).filter goodWord ++ (vx_atS RX7 92 "java/lang/IllegalStateException" ["java/lang/RuntimeException", "java/lang/Exception"]).filter goodWord ++ (vx_atS RX7 271 "java/lang/IndexOutOfBoundsException" ["java/lang/RuntimeException", "java/lang/Exception"]).filter goodWord)
def wsX7_levels : List Cond := .code yX7_levels cX7_levels 1 (some .int) :: ([.fieldLink RX7 40 "LedgeLevels" "levelCount" "I"] ++ wsX70)
def wsX7_at : List Cond := .code yX7_at cX7_at 4 (some .int) :: ([.methodLink RX7 66 yX7_levelOf, .instanceMethod yX7_levelOf, .selects RX7 yX7_levelOf yX7_levelOf, .initialized RX7, .code yX7_levelOf cX7_levelOf 3 (some (.object "LedgeLevels$Level")), .classLink RX7 267 "java/lang/IndexOutOfBoundsException", .initialized "java/lang/IndexOutOfBoundsException", .fieldLink RX7 15 "LedgeLevels" "levels" "[LLedgeLevels$Level;", .methodLink RX7 70 yX7_checkCell, .static yX7_checkCell, .code yX7_checkCell cX7_checkCell 1 none, .methodLink RX7 272 yX7_isCell, .static yX7_isCell, .code yX7_isCell cX7_isCell 1 (some .boolean), .methodLink RX7 80 yX1_kindAt, .instanceMethod yX1_kindAt, .selects RX1 yX1_kindAt yX1_kindAt, .initialized RX1, .code yX1_kindAt cX1_kindAt 2 (some .int), .fieldLink RX1 9 "LedgeLevels$Grid" "kinds" "[I"] ++ wsX30 ++ wsX70 ++ wsX10 ++ (vx_atS RX7 271 "java/lang/IndexOutOfBoundsException" ["java/lang/RuntimeException", "java/lang/Exception"]).filter goodWord)
def wsX7_start : List Cond := .code yX7_start cX7_start 2 (some .int) :: ([.methodLink RX7 66 yX7_levelOf, .instanceMethod yX7_levelOf, .selects RX7 yX7_levelOf yX7_levelOf, .initialized RX7, .code yX7_levelOf cX7_levelOf 3 (some (.object "LedgeLevels$Level")), .classLink RX7 267 "java/lang/IndexOutOfBoundsException", .initialized "java/lang/IndexOutOfBoundsException", .fieldLink RX7 15 "LedgeLevels" "levels" "[LLedgeLevels$Level;"] ++ wsX30 ++ wsX70 ++ (vx_atS RX7 271 "java/lang/IndexOutOfBoundsException" ["java/lang/RuntimeException", "java/lang/Exception"]).filter goodWord)
def wsX7_edits : List Cond := .code yX7_edits cX7_edits 4 (some .int) :: ([.methodLink RX7 66 yX7_levelOf, .instanceMethod yX7_levelOf, .selects RX7 yX7_levelOf yX7_levelOf, .initialized RX7, .code yX7_levelOf cX7_levelOf 3 (some (.object "LedgeLevels$Level")), .classLink RX7 267 "java/lang/IndexOutOfBoundsException", .initialized "java/lang/IndexOutOfBoundsException", .fieldLink RX7 15 "LedgeLevels" "levels" "[LLedgeLevels$Level;"] ++ wsX30 ++ wsX20 ++ wsX70 ++ (vx_atS RX7 271 "java/lang/IndexOutOfBoundsException" ["java/lang/RuntimeException", "java/lang/Exception"]).filter goodWord)
def wsX7_proof : List Cond := .code yX7_proof cX7_proof 2 (some .int) :: ([.methodLink RX7 66 yX7_levelOf, .instanceMethod yX7_levelOf, .selects RX7 yX7_levelOf yX7_levelOf, .initialized RX7, .code yX7_levelOf cX7_levelOf 3 (some (.object "LedgeLevels$Level")), .classLink RX7 267 "java/lang/IndexOutOfBoundsException", .initialized "java/lang/IndexOutOfBoundsException", .fieldLink RX7 15 "LedgeLevels" "levels" "[LLedgeLevels$Level;"] ++ wsX30 ++ wsX70 ++ (vx_atS RX7 271 "java/lang/IndexOutOfBoundsException" ["java/lang/RuntimeException", "java/lang/Exception"]).filter goodWord)
def wsX7_shortest_r1 : List Cond := [Cond.classLink RX7 73 "java/lang/IllegalArgumentException", Cond.initialized "java/lang/IllegalArgumentException", Cond.fieldLink RX7 36 "LedgeLevels" "search" "LLedgeLevels$Search;", Cond.methodLink RX7 66 yX7_levelOf, Cond.instanceMethod yX7_levelOf, Cond.selects RX7 yX7_levelOf yX7_levelOf, Cond.initialized RX7, Cond.code yX7_levelOf cX7_levelOf 3 (some (.object "LedgeLevels$Level")), Cond.classLink RX7 267 "java/lang/IndexOutOfBoundsException", Cond.initialized "java/lang/IndexOutOfBoundsException", Cond.fieldLink RX7 15 "LedgeLevels" "levels" "[LLedgeLevels$Level;", Cond.methodLink RX7 217 yX5_fewestStepsByRows, Cond.instanceMethod yX5_fewestStepsByRows, Cond.selects RX5 yX5_fewestStepsByRows yX5_fewestStepsByRows, Cond.initialized RX5, Cond.code yX5_fewestStepsByRows cX5_fewestStepsByRows 8 (some .int), Cond.fieldLink RX5 37 "LedgeLevels$Search" "body" "LLedgeLevels$Body;", Cond.fieldLink RX5 26 "LedgeLevels$Search" "tail" "I", Cond.methodLink RX5 41 yX5_restart, Cond.instanceMethod yX5_restart, Cond.selects RX5 yX5_restart yX5_restart, Cond.code yX5_restart cX5_restart 2 none, Cond.fieldLink RX5 22 "LedgeLevels$Search" "number" "I", Cond.fieldLink RX5 29 "LedgeLevels$Search" "won" "I"]
def wsX7_shortest_r2 : List Cond := [Cond.fieldLink RX5 18 "LedgeLevels$Search" "reached" "[Z", Cond.methodLink RX5 44 yX0_placeAtStart, Cond.instanceMethod yX0_placeAtStart, Cond.selects RX0 yX0_placeAtStart yX0_placeAtStart, Cond.initialized RX0, Cond.code yX0_placeAtStart cX0_placeAtStart 3 none, Cond.fieldLink RX0 15 "LedgeLevels$Body" "speed" "I", Cond.fieldLink RX0 18 "LedgeLevels$Body" "taken" "I", Cond.fieldLink RX0 21 "LedgeLevels$Body" "fate" "I", Cond.methodLink RX0 28 yX0_comeTo, Cond.instanceMethod yX0_comeTo, Cond.selects RX0 yX0_comeTo yX0_comeTo, Cond.code yX0_comeTo cX0_comeTo 4 none, Cond.fieldLink RX0 9 "LedgeLevels$Body" "cell" "I", Cond.static yX7_isCell, Cond.code yX7_isCell cX7_isCell 1 (some .boolean), Cond.methodLink RX0 47 yX1_kindAt, Cond.instanceMethod yX1_kindAt, Cond.selects RX1 yX1_kindAt yX1_kindAt, Cond.initialized RX1, Cond.code yX1_kindAt cX1_kindAt 2 (some .int), Cond.fieldLink RX1 9 "LedgeLevels$Grid" "kinds" "[I", Cond.methodLink RX0 63 yX1_keyBit, Cond.instanceMethod yX1_keyBit]
def wsX7_shortest_r3 : List Cond := [Cond.selects RX1 yX1_keyBit yX1_keyBit, Cond.code yX1_keyBit cX1_keyBit 3 (some .int), Cond.fieldLink RX1 15 "LedgeLevels$Grid" "keyCells" "[I", Cond.methodLink RX5 80 yX0_packed, Cond.instanceMethod yX0_packed, Cond.selects RX0 yX0_packed yX0_packed, Cond.code yX0_packed cX0_packed 1 (some .int), Cond.methodLink RX5 87 yX5_enqueue, Cond.instanceMethod yX5_enqueue, Cond.selects RX5 yX5_enqueue yX5_enqueue, Cond.code yX5_enqueue cX5_enqueue 2 none, Cond.fieldLink RX5 9 "LedgeLevels$Search" "queue" "[I", Cond.methodLink RX5 52 yX5_queuedAt, Cond.instanceMethod yX5_queuedAt, Cond.selects RX5 yX5_queuedAt yX5_queuedAt, Cond.code yX5_queuedAt cX5_queuedAt 2 (some .int), Cond.methodLink RX5 90 yX5_winsByOneMore, Cond.instanceMethod yX5_winsByOneMore, Cond.selects RX5 yX5_winsByOneMore yX5_winsByOneMore, Cond.code yX5_winsByOneMore cX5_winsByOneMore 5 (some .boolean), Cond.methodLink RX5 60 yX0_unpack, Cond.instanceMethod yX0_unpack, Cond.selects RX0 yX0_unpack yX0_unpack, Cond.code yX0_unpack cX0_unpack 2 none]
def wsX7_shortest_r4 : List Cond := [Cond.methodLink RX5 67 yX0_move, Cond.instanceMethod yX0_move, Cond.selects RX0 yX0_move yX0_move, Cond.code yX0_move cX0_move 3 none, Cond.methodLink RX0 36 yX0_stands, Cond.instanceMethod yX0_stands, Cond.selects RX0 yX0_stands yX0_stands, Cond.code yX0_stands cX0_stands 2 (some .boolean), Cond.methodLink RX0 32 yX0_isSolidIn, Cond.instanceMethod yX0_isSolidIn, Cond.selects RX0 yX0_isSolidIn yX0_isSolidIn, Cond.code yX0_isSolidIn cX0_isSolidIn 4 (some .boolean), Cond.methodLink RX0 40 yX0_goSideways, Cond.instanceMethod yX0_goSideways, Cond.selects RX0 yX0_goSideways yX0_goSideways, Cond.code yX0_goSideways cX0_goSideways 5 none, Cond.methodLink RX0 43 yX0_goUpOrDown, Cond.instanceMethod yX0_goUpOrDown, Cond.selects RX0 yX0_goUpOrDown yX0_goUpOrDown, Cond.code yX0_goUpOrDown cX0_goUpOrDown 5 none, Cond.methodLink RX0 53 yX0_strengthOf, Cond.instanceMethod yX0_strengthOf, Cond.selects RX0 yX0_strengthOf yX0_strengthOf, Cond.code yX0_strengthOf cX0_strengthOf 3 (some .int)]
def wsX7_shortest_r5 : List Cond := [Cond.fieldLink RX0 24 "LedgeLevels$Body" "strengths" "[I"]
def wsX7_shortest : List Cond := .code yX7_shortest cX7_shortest 4 (some .int) :: ((wsX7_shortest_r1 ++ (wsX7_shortest_r2 ++ (wsX7_shortest_r3 ++ (wsX7_shortest_r4 ++ wsX7_shortest_r5)))) ++ wsX70 ++ wsX30 ++ wsX50 ++ wsX00 ++ wsX10 ++ (vx_atS RX7 77 "java/lang/IllegalArgumentException" ["java/lang/RuntimeException", "java/lang/Exception"]).filter goodWord ++ (vx_atS RX7 271 "java/lang/IndexOutOfBoundsException" ["java/lang/RuntimeException", "java/lang/Exception"]).filter goodWord)
def wsX7_reach_r1 : List Cond := [Cond.fieldLink RX7 36 "LedgeLevels" "search" "LLedgeLevels$Search;", Cond.methodLink RX7 66 yX7_levelOf, Cond.instanceMethod yX7_levelOf, Cond.selects RX7 yX7_levelOf yX7_levelOf, Cond.initialized RX7, Cond.code yX7_levelOf cX7_levelOf 3 (some (.object "LedgeLevels$Level")), Cond.classLink RX7 267 "java/lang/IndexOutOfBoundsException", Cond.initialized "java/lang/IndexOutOfBoundsException", Cond.fieldLink RX7 15 "LedgeLevels" "levels" "[LLedgeLevels$Level;", Cond.methodLink RX7 152 yX5_explore, Cond.instanceMethod yX5_explore, Cond.selects RX5 yX5_explore yX5_explore, Cond.initialized RX5, Cond.code yX5_explore cX5_explore 8 (some .int), Cond.fieldLink RX5 37 "LedgeLevels$Search" "body" "LLedgeLevels$Body;", Cond.fieldLink RX5 26 "LedgeLevels$Search" "tail" "I", Cond.fieldLink RX5 29 "LedgeLevels$Search" "won" "I", Cond.methodLink RX5 41 yX5_restart, Cond.instanceMethod yX5_restart, Cond.selects RX5 yX5_restart yX5_restart, Cond.code yX5_restart cX5_restart 2 none, Cond.fieldLink RX5 22 "LedgeLevels$Search" "number" "I", Cond.fieldLink RX5 18 "LedgeLevels$Search" "reached" "[Z", Cond.methodLink RX5 44 yX0_placeAtStart]
def wsX7_reach_r2 : List Cond := [Cond.instanceMethod yX0_placeAtStart, Cond.selects RX0 yX0_placeAtStart yX0_placeAtStart, Cond.initialized RX0, Cond.code yX0_placeAtStart cX0_placeAtStart 3 none, Cond.fieldLink RX0 15 "LedgeLevels$Body" "speed" "I", Cond.fieldLink RX0 18 "LedgeLevels$Body" "taken" "I", Cond.fieldLink RX0 21 "LedgeLevels$Body" "fate" "I", Cond.methodLink RX0 28 yX0_comeTo, Cond.instanceMethod yX0_comeTo, Cond.selects RX0 yX0_comeTo yX0_comeTo, Cond.code yX0_comeTo cX0_comeTo 4 none, Cond.fieldLink RX0 9 "LedgeLevels$Body" "cell" "I", Cond.static yX7_isCell, Cond.code yX7_isCell cX7_isCell 1 (some .boolean), Cond.methodLink RX0 47 yX1_kindAt, Cond.instanceMethod yX1_kindAt, Cond.selects RX1 yX1_kindAt yX1_kindAt, Cond.initialized RX1, Cond.code yX1_kindAt cX1_kindAt 2 (some .int), Cond.fieldLink RX1 9 "LedgeLevels$Grid" "kinds" "[I", Cond.methodLink RX0 63 yX1_keyBit, Cond.instanceMethod yX1_keyBit, Cond.selects RX1 yX1_keyBit yX1_keyBit, Cond.code yX1_keyBit cX1_keyBit 3 (some .int)]
def wsX7_reach_r3 : List Cond := [Cond.fieldLink RX1 15 "LedgeLevels$Grid" "keyCells" "[I", Cond.methodLink RX5 48 yX5_noteBody, Cond.instanceMethod yX5_noteBody, Cond.selects RX5 yX5_noteBody yX5_noteBody, Cond.code yX5_noteBody cX5_noteBody 2 none, Cond.methodLink RX5 80 yX0_packed, Cond.instanceMethod yX0_packed, Cond.selects RX0 yX0_packed yX0_packed, Cond.code yX0_packed cX0_packed 1 (some .int), Cond.methodLink RX5 84 yX5_enqueueNew, Cond.instanceMethod yX5_enqueueNew, Cond.selects RX5 yX5_enqueueNew yX5_enqueueNew, Cond.code yX5_enqueueNew cX5_enqueueNew 2 none, Cond.fieldLink RX5 15 "LedgeLevels$Search" "seenIn" "[I", Cond.methodLink RX5 87 yX5_enqueue, Cond.instanceMethod yX5_enqueue, Cond.selects RX5 yX5_enqueue yX5_enqueue, Cond.code yX5_enqueue cX5_enqueue 2 none, Cond.fieldLink RX5 9 "LedgeLevels$Search" "queue" "[I", Cond.methodLink RX5 52 yX5_queuedAt, Cond.instanceMethod yX5_queuedAt, Cond.selects RX5 yX5_queuedAt yX5_queuedAt, Cond.code yX5_queuedAt cX5_queuedAt 2 (some .int), Cond.methodLink RX5 56 yX5_tryInputsFrom]
def wsX7_reach_r4 : List Cond := [Cond.instanceMethod yX5_tryInputsFrom, Cond.selects RX5 yX5_tryInputsFrom yX5_tryInputsFrom, Cond.code yX5_tryInputsFrom cX5_tryInputsFrom 6 none, Cond.methodLink RX5 60 yX0_unpack, Cond.instanceMethod yX0_unpack, Cond.selects RX0 yX0_unpack yX0_unpack, Cond.code yX0_unpack cX0_unpack 2 none, Cond.methodLink RX5 63 yX0_stands, Cond.instanceMethod yX0_stands, Cond.selects RX0 yX0_stands yX0_stands, Cond.code yX0_stands cX0_stands 2 (some .boolean), Cond.methodLink RX0 32 yX0_isSolidIn, Cond.instanceMethod yX0_isSolidIn, Cond.selects RX0 yX0_isSolidIn yX0_isSolidIn, Cond.code yX0_isSolidIn cX0_isSolidIn 4 (some .boolean), Cond.methodLink RX5 67 yX0_move, Cond.instanceMethod yX0_move, Cond.selects RX0 yX0_move yX0_move, Cond.code yX0_move cX0_move 3 none, Cond.methodLink RX0 36 yX0_stands, Cond.methodLink RX0 40 yX0_goSideways, Cond.instanceMethod yX0_goSideways, Cond.selects RX0 yX0_goSideways yX0_goSideways, Cond.code yX0_goSideways cX0_goSideways 5 none]
def wsX7_reach_r5 : List Cond := [Cond.methodLink RX0 43 yX0_goUpOrDown, Cond.instanceMethod yX0_goUpOrDown, Cond.selects RX0 yX0_goUpOrDown yX0_goUpOrDown, Cond.code yX0_goUpOrDown cX0_goUpOrDown 5 none, Cond.methodLink RX0 53 yX0_strengthOf, Cond.instanceMethod yX0_strengthOf, Cond.selects RX0 yX0_strengthOf yX0_strengthOf, Cond.code yX0_strengthOf cX0_strengthOf 3 (some .int), Cond.fieldLink RX0 24 "LedgeLevels$Body" "strengths" "[I", Cond.methodLink RX7 221 yX5_reachedCount, Cond.instanceMethod yX5_reachedCount, Cond.selects RX5 yX5_reachedCount yX5_reachedCount, Cond.code yX5_reachedCount cX5_reachedCount 6 (some .int)]
def wsX7_reach : List Cond := .code yX7_reach cX7_reach 3 (some .int) :: ((wsX7_reach_r1 ++ (wsX7_reach_r2 ++ (wsX7_reach_r3 ++ (wsX7_reach_r4 ++ wsX7_reach_r5)))) ++ wsX70 ++ wsX30 ++ wsX50 ++ wsX00 ++ wsX10 ++ (vx_atS RX7 271 "java/lang/IndexOutOfBoundsException" ["java/lang/RuntimeException", "java/lang/Exception"]).filter goodWord)
def wsX7_farthest_r1 : List Cond := [Cond.fieldLink RX7 36 "LedgeLevels" "search" "LLedgeLevels$Search;", Cond.methodLink RX7 66 yX7_levelOf, Cond.instanceMethod yX7_levelOf, Cond.selects RX7 yX7_levelOf yX7_levelOf, Cond.initialized RX7, Cond.code yX7_levelOf cX7_levelOf 3 (some (.object "LedgeLevels$Level")), Cond.classLink RX7 267 "java/lang/IndexOutOfBoundsException", Cond.initialized "java/lang/IndexOutOfBoundsException", Cond.fieldLink RX7 15 "LedgeLevels" "levels" "[LLedgeLevels$Level;", Cond.methodLink RX7 152 yX5_explore, Cond.instanceMethod yX5_explore, Cond.selects RX5 yX5_explore yX5_explore, Cond.initialized RX5, Cond.code yX5_explore cX5_explore 8 (some .int), Cond.fieldLink RX5 37 "LedgeLevels$Search" "body" "LLedgeLevels$Body;", Cond.fieldLink RX5 26 "LedgeLevels$Search" "tail" "I", Cond.fieldLink RX5 29 "LedgeLevels$Search" "won" "I", Cond.methodLink RX5 41 yX5_restart, Cond.instanceMethod yX5_restart, Cond.selects RX5 yX5_restart yX5_restart, Cond.code yX5_restart cX5_restart 2 none, Cond.fieldLink RX5 22 "LedgeLevels$Search" "number" "I", Cond.fieldLink RX5 18 "LedgeLevels$Search" "reached" "[Z", Cond.methodLink RX5 44 yX0_placeAtStart]
def wsX7_farthest_r2 : List Cond := [Cond.instanceMethod yX0_placeAtStart, Cond.selects RX0 yX0_placeAtStart yX0_placeAtStart, Cond.initialized RX0, Cond.code yX0_placeAtStart cX0_placeAtStart 3 none, Cond.fieldLink RX0 15 "LedgeLevels$Body" "speed" "I", Cond.fieldLink RX0 18 "LedgeLevels$Body" "taken" "I", Cond.fieldLink RX0 21 "LedgeLevels$Body" "fate" "I", Cond.methodLink RX0 28 yX0_comeTo, Cond.instanceMethod yX0_comeTo, Cond.selects RX0 yX0_comeTo yX0_comeTo, Cond.code yX0_comeTo cX0_comeTo 4 none, Cond.fieldLink RX0 9 "LedgeLevels$Body" "cell" "I", Cond.static yX7_isCell, Cond.code yX7_isCell cX7_isCell 1 (some .boolean), Cond.methodLink RX0 47 yX1_kindAt, Cond.instanceMethod yX1_kindAt, Cond.selects RX1 yX1_kindAt yX1_kindAt, Cond.initialized RX1, Cond.code yX1_kindAt cX1_kindAt 2 (some .int), Cond.fieldLink RX1 9 "LedgeLevels$Grid" "kinds" "[I", Cond.methodLink RX0 63 yX1_keyBit, Cond.instanceMethod yX1_keyBit, Cond.selects RX1 yX1_keyBit yX1_keyBit, Cond.code yX1_keyBit cX1_keyBit 3 (some .int)]
def wsX7_farthest_r3 : List Cond := [Cond.fieldLink RX1 15 "LedgeLevels$Grid" "keyCells" "[I", Cond.methodLink RX5 48 yX5_noteBody, Cond.instanceMethod yX5_noteBody, Cond.selects RX5 yX5_noteBody yX5_noteBody, Cond.code yX5_noteBody cX5_noteBody 2 none, Cond.methodLink RX5 80 yX0_packed, Cond.instanceMethod yX0_packed, Cond.selects RX0 yX0_packed yX0_packed, Cond.code yX0_packed cX0_packed 1 (some .int), Cond.methodLink RX5 84 yX5_enqueueNew, Cond.instanceMethod yX5_enqueueNew, Cond.selects RX5 yX5_enqueueNew yX5_enqueueNew, Cond.code yX5_enqueueNew cX5_enqueueNew 2 none, Cond.fieldLink RX5 15 "LedgeLevels$Search" "seenIn" "[I", Cond.methodLink RX5 87 yX5_enqueue, Cond.instanceMethod yX5_enqueue, Cond.selects RX5 yX5_enqueue yX5_enqueue, Cond.code yX5_enqueue cX5_enqueue 2 none, Cond.fieldLink RX5 9 "LedgeLevels$Search" "queue" "[I", Cond.methodLink RX5 52 yX5_queuedAt, Cond.instanceMethod yX5_queuedAt, Cond.selects RX5 yX5_queuedAt yX5_queuedAt, Cond.code yX5_queuedAt cX5_queuedAt 2 (some .int), Cond.methodLink RX5 56 yX5_tryInputsFrom]
def wsX7_farthest_r4 : List Cond := [Cond.instanceMethod yX5_tryInputsFrom, Cond.selects RX5 yX5_tryInputsFrom yX5_tryInputsFrom, Cond.code yX5_tryInputsFrom cX5_tryInputsFrom 6 none, Cond.methodLink RX5 60 yX0_unpack, Cond.instanceMethod yX0_unpack, Cond.selects RX0 yX0_unpack yX0_unpack, Cond.code yX0_unpack cX0_unpack 2 none, Cond.methodLink RX5 63 yX0_stands, Cond.instanceMethod yX0_stands, Cond.selects RX0 yX0_stands yX0_stands, Cond.code yX0_stands cX0_stands 2 (some .boolean), Cond.methodLink RX0 32 yX0_isSolidIn, Cond.instanceMethod yX0_isSolidIn, Cond.selects RX0 yX0_isSolidIn yX0_isSolidIn, Cond.code yX0_isSolidIn cX0_isSolidIn 4 (some .boolean), Cond.methodLink RX5 67 yX0_move, Cond.instanceMethod yX0_move, Cond.selects RX0 yX0_move yX0_move, Cond.code yX0_move cX0_move 3 none, Cond.methodLink RX0 36 yX0_stands, Cond.methodLink RX0 40 yX0_goSideways, Cond.instanceMethod yX0_goSideways, Cond.selects RX0 yX0_goSideways yX0_goSideways, Cond.code yX0_goSideways cX0_goSideways 5 none]
def wsX7_farthest_r5 : List Cond := [Cond.methodLink RX0 43 yX0_goUpOrDown, Cond.instanceMethod yX0_goUpOrDown, Cond.selects RX0 yX0_goUpOrDown yX0_goUpOrDown, Cond.code yX0_goUpOrDown cX0_goUpOrDown 5 none, Cond.methodLink RX0 53 yX0_strengthOf, Cond.instanceMethod yX0_strengthOf, Cond.selects RX0 yX0_strengthOf yX0_strengthOf, Cond.code yX0_strengthOf cX0_strengthOf 3 (some .int), Cond.fieldLink RX0 24 "LedgeLevels$Body" "strengths" "[I", Cond.methodLink RX7 224 yX5_farthestReached, Cond.instanceMethod yX5_farthestReached, Cond.selects RX5 yX5_farthestReached yX5_farthestReached, Cond.code yX5_farthestReached cX5_farthestReached 4 (some .int)]
def wsX7_farthest : List Cond := .code yX7_farthest cX7_farthest 3 (some .int) :: ((wsX7_farthest_r1 ++ (wsX7_farthest_r2 ++ (wsX7_farthest_r3 ++ (wsX7_farthest_r4 ++ wsX7_farthest_r5)))) ++ wsX70 ++ wsX30 ++ wsX50 ++ wsX00 ++ wsX10 ++ (vx_atS RX7 271 "java/lang/IndexOutOfBoundsException" ["java/lang/RuntimeException", "java/lang/Exception"]).filter goodWord)
def wsX7_strength : List Cond := .code yX7_strength cX7_strength 2 (some .int) :: ([.fieldLink RX7 7 "LedgeLevels" "strengths" "[I", .methodLink RX7 137 yX7_checkSpring, .static yX7_checkSpring, .initialized RX7, .code yX7_checkSpring cX7_checkSpring 1 none, .classLink RX7 267 "java/lang/IndexOutOfBoundsException", .initialized "java/lang/IndexOutOfBoundsException"] ++ wsX70 ++ (vx_atS RX7 271 "java/lang/IndexOutOfBoundsException" ["java/lang/RuntimeException", "java/lang/Exception"]).filter goodWord)
def wsX7_works : List Cond := .code yX7_works cX7_works 1 (some .int) :: ([.fieldLink RX7 44 "LedgeLevels" "workCount" "I"] ++ wsX70)
def wsX7_author : List Cond := .code yX7_author cX7_author 2 (some .int) :: ([.methodLink RX7 142 yX7_workOf, .instanceMethod yX7_workOf, .selects RX7 yX7_workOf yX7_workOf, .initialized RX7, .code yX7_workOf cX7_workOf 3 (some (.object "LedgeLevels$Work")), .classLink RX7 267 "java/lang/IndexOutOfBoundsException", .initialized "java/lang/IndexOutOfBoundsException", .fieldLink RX7 21 "LedgeLevels" "works" "[LLedgeLevels$Work;"] ++ wsX60 ++ wsX70 ++ (vx_atS RX7 271 "java/lang/IndexOutOfBoundsException" ["java/lang/RuntimeException", "java/lang/Exception"]).filter goodWord)
def wsX7_best : List Cond := .code yX7_best cX7_best 2 (some .int) :: ([.methodLink RX7 142 yX7_workOf, .instanceMethod yX7_workOf, .selects RX7 yX7_workOf yX7_workOf, .initialized RX7, .code yX7_workOf cX7_workOf 3 (some (.object "LedgeLevels$Work")), .classLink RX7 267 "java/lang/IndexOutOfBoundsException", .initialized "java/lang/IndexOutOfBoundsException", .fieldLink RX7 21 "LedgeLevels" "works" "[LLedgeLevels$Work;"] ++ wsX60 ++ wsX70 ++ (vx_atS RX7 271 "java/lang/IndexOutOfBoundsException" ["java/lang/RuntimeException", "java/lang/Exception"]).filter goodWord)
def wsX7_parent : List Cond := .code yX7_parent cX7_parent 3 (some .int) :: ([.methodLink RX7 142 yX7_workOf, .instanceMethod yX7_workOf, .selects RX7 yX7_workOf yX7_workOf, .initialized RX7, .code yX7_workOf cX7_workOf 3 (some (.object "LedgeLevels$Work")), .classLink RX7 267 "java/lang/IndexOutOfBoundsException", .initialized "java/lang/IndexOutOfBoundsException", .fieldLink RX7 21 "LedgeLevels" "works" "[LLedgeLevels$Work;"] ++ wsX60 ++ wsX70 ++ (vx_atS RX7 271 "java/lang/IndexOutOfBoundsException" ["java/lang/RuntimeException", "java/lang/Exception"]).filter goodWord)
def wsX7_line : List Cond := .code yX7_line cX7_line 5 (some .int) :: ([.fieldLink RX7 44 "LedgeLevels" "workCount" "I", .methodLink RX7 142 yX7_workOf, .instanceMethod yX7_workOf, .selects RX7 yX7_workOf yX7_workOf, .initialized RX7, .code yX7_workOf cX7_workOf 3 (some (.object "LedgeLevels$Work")), .classLink RX7 267 "java/lang/IndexOutOfBoundsException", .initialized "java/lang/IndexOutOfBoundsException", .fieldLink RX7 21 "LedgeLevels" "works" "[LLedgeLevels$Work;", .methodLink RX7 234 yX6_comesFrom, .instanceMethod yX6_comesFrom, .selects RX6 yX6_comesFrom yX6_comesFrom, .initialized RX6, .code yX6_comesFrom cX6_comesFrom 3 (some .boolean), .fieldLink RX6 39 "LedgeLevels$Work" "parent" "LLedgeLevels$Work;"] ++ wsX70 ++ wsX60 ++ (vx_atS RX7 271 "java/lang/IndexOutOfBoundsException" ["java/lang/RuntimeException", "java/lang/Exception"]).filter goodWord)
def wsX7_stars : List Cond := .code yX7_stars cX7_stars 2 (some .int) :: ([.methodLink RX7 142 yX7_workOf, .instanceMethod yX7_workOf, .selects RX7 yX7_workOf yX7_workOf, .initialized RX7, .code yX7_workOf cX7_workOf 3 (some (.object "LedgeLevels$Work")), .classLink RX7 267 "java/lang/IndexOutOfBoundsException", .initialized "java/lang/IndexOutOfBoundsException", .fieldLink RX7 21 "LedgeLevels" "works" "[LLedgeLevels$Work;", .methodLink RX7 238 yX6_starSum, .instanceMethod yX6_starSum, .selects RX6 yX6_starSum yX6_starSum, .initialized RX6, .code yX6_starSum cX6_starSum 6 (some .int), .fieldLink RX6 18 "LedgeLevels$Work" "given" "[I"] ++ wsX70 ++ wsX60 ++ (vx_atS RX7 271 "java/lang/IndexOutOfBoundsException" ["java/lang/RuntimeException", "java/lang/Exception"]).filter goodWord)
def wsX7_credit : List Cond := .code yX7_credit cX7_credit 5 (some .int) :: ([.fieldLink RX7 44 "LedgeLevels" "workCount" "I", .methodLink RX7 48 yX7_checkPerson, .static yX7_checkPerson, .initialized RX7, .code yX7_checkPerson cX7_checkPerson 1 none, .classLink RX7 267 "java/lang/IndexOutOfBoundsException", .initialized "java/lang/IndexOutOfBoundsException", .methodLink RX7 142 yX7_workOf, .instanceMethod yX7_workOf, .selects RX7 yX7_workOf yX7_workOf, .code yX7_workOf cX7_workOf 3 (some (.object "LedgeLevels$Work")), .fieldLink RX7 21 "LedgeLevels" "works" "[LLedgeLevels$Work;", .methodLink RX7 241 yX6_comesFromWorkBy, .instanceMethod yX6_comesFromWorkBy, .selects RX6 yX6_comesFromWorkBy yX6_comesFromWorkBy, .initialized RX6, .code yX6_comesFromWorkBy cX6_comesFromWorkBy 3 (some .boolean), .fieldLink RX6 34 "LedgeLevels$Work" "author" "I", .fieldLink RX6 39 "LedgeLevels$Work" "parent" "LLedgeLevels$Work;", .methodLink RX7 238 yX6_starSum, .instanceMethod yX6_starSum, .selects RX6 yX6_starSum yX6_starSum, .code yX6_starSum cX6_starSum 6 (some .int), .fieldLink RX6 18 "LedgeLevels$Work" "given" "[I"] ++ wsX70 ++ wsX60 ++ (vx_atS RX7 271 "java/lang/IndexOutOfBoundsException" ["java/lang/RuntimeException", "java/lang/Exception"]).filter goodWord)
def wsX7_record : List Cond := .code yX7_record cX7_record 2 (some .int) :: ([.methodLink RX7 142 yX7_workOf, .instanceMethod yX7_workOf, .selects RX7 yX7_workOf yX7_workOf, .initialized RX7, .code yX7_workOf cX7_workOf 3 (some (.object "LedgeLevels$Work")), .classLink RX7 267 "java/lang/IndexOutOfBoundsException", .initialized "java/lang/IndexOutOfBoundsException", .fieldLink RX7 21 "LedgeLevels" "works" "[LLedgeLevels$Work;"] ++ wsX60 ++ wsX70 ++ (vx_atS RX7 271 "java/lang/IndexOutOfBoundsException" ["java/lang/RuntimeException", "java/lang/Exception"]).filter goodWord)
def wsX7_runState : List Cond := .code yX7_runState cX7_runState 2 (some .int) :: ([.methodLink RX7 190 yX7_runOf, .instanceMethod yX7_runOf, .selects RX7 yX7_runOf yX7_runOf, .initialized RX7, .code yX7_runOf cX7_runOf 3 (some (.object "LedgeLevels$Run")), .classLink RX7 267 "java/lang/IndexOutOfBoundsException", .initialized "java/lang/IndexOutOfBoundsException", .fieldLink RX7 27 "LedgeLevels" "runs" "[LLedgeLevels$Run;"] ++ wsX40 ++ wsX70 ++ (vx_atS RX7 271 "java/lang/IndexOutOfBoundsException" ["java/lang/RuntimeException", "java/lang/Exception"]).filter goodWord)
def wsX7_body : List Cond := .code yX7_body cX7_body 3 (some .int) :: ([.methodLink RX7 190 yX7_runOf, .instanceMethod yX7_runOf, .selects RX7 yX7_runOf yX7_runOf, .initialized RX7, .code yX7_runOf cX7_runOf 3 (some (.object "LedgeLevels$Run")), .classLink RX7 267 "java/lang/IndexOutOfBoundsException", .initialized "java/lang/IndexOutOfBoundsException", .fieldLink RX7 27 "LedgeLevels" "runs" "[LLedgeLevels$Run;"] ++ wsX40 ++ wsX00 ++ wsX70 ++ (vx_atS RX7 271 "java/lang/IndexOutOfBoundsException" ["java/lang/RuntimeException", "java/lang/Exception"]).filter goodWord)
def wsX7_speed : List Cond := .code yX7_speed cX7_speed 2 (some .int) :: ([.methodLink RX7 190 yX7_runOf, .instanceMethod yX7_runOf, .selects RX7 yX7_runOf yX7_runOf, .initialized RX7, .code yX7_runOf cX7_runOf 3 (some (.object "LedgeLevels$Run")), .classLink RX7 267 "java/lang/IndexOutOfBoundsException", .initialized "java/lang/IndexOutOfBoundsException", .fieldLink RX7 27 "LedgeLevels" "runs" "[LLedgeLevels$Run;"] ++ wsX40 ++ wsX00 ++ wsX70 ++ (vx_atS RX7 271 "java/lang/IndexOutOfBoundsException" ["java/lang/RuntimeException", "java/lang/Exception"]).filter goodWord)
def wsX7_keys : List Cond := .code yX7_keys cX7_keys 2 (some .int) :: ([.methodLink RX7 190 yX7_runOf, .instanceMethod yX7_runOf, .selects RX7 yX7_runOf yX7_runOf, .initialized RX7, .code yX7_runOf cX7_runOf 3 (some (.object "LedgeLevels$Run")), .classLink RX7 267 "java/lang/IndexOutOfBoundsException", .initialized "java/lang/IndexOutOfBoundsException", .fieldLink RX7 27 "LedgeLevels" "runs" "[LLedgeLevels$Run;", .methodLink RX7 262 yJ6_bitCount_0f7a4, .static yJ6_bitCount_0f7a4, .initialized RJ6, .code yJ6_bitCount_0f7a4 cJ6_bitCount_0f7a4 1 (some .int), .constant RJ6 265 (1431655765), .constant RJ6 266 (858993459), .constant RJ6 267 (252645135)] ++ wsX40 ++ wsX00 ++ wsX70 ++ (vx_atS RX7 271 "java/lang/IndexOutOfBoundsException" ["java/lang/RuntimeException", "java/lang/Exception"]).filter goodWord)
def wsX7_stepsOf : List Cond := .code yX7_stepsOf cX7_stepsOf 2 (some .int) :: ([.methodLink RX7 190 yX7_runOf, .instanceMethod yX7_runOf, .selects RX7 yX7_runOf yX7_runOf, .initialized RX7, .code yX7_runOf cX7_runOf 3 (some (.object "LedgeLevels$Run")), .classLink RX7 267 "java/lang/IndexOutOfBoundsException", .initialized "java/lang/IndexOutOfBoundsException", .fieldLink RX7 27 "LedgeLevels" "runs" "[LLedgeLevels$Run;"] ++ wsX40 ++ wsX70 ++ (vx_atS RX7 271 "java/lang/IndexOutOfBoundsException" ["java/lang/RuntimeException", "java/lang/Exception"]).filter goodWord)
def wsX8_init_r1 : List Cond := [Cond.methodLink RX8 1 objectInit, Cond.instanceMethod objectInit, Cond.code objectInit ⟨#[0xb1]⟩ 1 none, Cond.arrayClass .int, Cond.fieldLink RX8 7 "LedgeLevelsModel" "strength" "[I", Cond.fieldLink RX8 13 "LedgeLevelsModel" "maker" "[I", Cond.fieldLink RX8 16 "LedgeLevelsModel" "grid" "[I", Cond.fieldLink RX8 19 "LedgeLevelsModel" "begins" "[I", Cond.fieldLink RX8 22 "LedgeLevelsModel" "proofs" "[I", Cond.fieldLink RX8 25 "LedgeLevelsModel" "origin" "[I", Cond.fieldLink RX8 28 "LedgeLevelsModel" "undos" "[I", Cond.fieldLink RX8 31 "LedgeLevelsModel" "undoCell" "[I", Cond.fieldLink RX8 34 "LedgeLevelsModel" "undoKind" "[I", Cond.fieldLink RX8 37 "LedgeLevelsModel" "redos" "[I", Cond.fieldLink RX8 40 "LedgeLevelsModel" "redoCell" "[I", Cond.fieldLink RX8 43 "LedgeLevelsModel" "redoKind" "[I", Cond.fieldLink RX8 46 "LedgeLevelsModel" "author" "[I", Cond.fieldLink RX8 49 "LedgeLevelsModel" "shape" "[I", Cond.fieldLink RX8 52 "LedgeLevelsModel" "from" "[I", Cond.fieldLink RX8 55 "LedgeLevelsModel" "best" "[I", Cond.fieldLink RX8 58 "LedgeLevelsModel" "parent" "[I", Cond.fieldLink RX8 61 "LedgeLevelsModel" "record" "[I", Cond.fieldLink RX8 64 "LedgeLevelsModel" "stars" "[I", Cond.fieldLink RX8 67 "LedgeLevelsModel" "runState" "[I"]
def wsX8_init_r2 : List Cond := [Cond.fieldLink RX8 70 "LedgeLevelsModel" "runWork" "[I", Cond.fieldLink RX8 73 "LedgeLevelsModel" "runCell" "[I", Cond.fieldLink RX8 76 "LedgeLevelsModel" "runSpeed" "[I", Cond.fieldLink RX8 79 "LedgeLevelsModel" "runTaken" "[I", Cond.fieldLink RX8 82 "LedgeLevelsModel" "runSteps" "[I", Cond.fieldLink RX8 85 "LedgeLevelsModel" "ground" "[I", Cond.fieldLink RX8 88 "LedgeLevelsModel" "keyBit" "[I", Cond.fieldLink RX8 91 "LedgeLevelsModel" "queue" "[I", Cond.fieldLink RX8 94 "LedgeLevelsModel" "far" "[I", Cond.arrayClass .boolean, Cond.fieldLink RX8 97 "LedgeLevelsModel" "reached" "[Z"]
def wsX8_init : List Cond := .code yX8_init cX8_init 2 none :: ((wsX8_init_r1 ++ wsX8_init_r2) ++ wsX80)
def wsX8_thrown : List Cond := .code yX8_thrown cX8_thrown 1 (some .int) :: ([.fieldLink RX8 101 "LedgeLevelsModel" "thrown" "I"] ++ wsX80)
def wsX8_fails : List Cond := .code yX8_fails cX8_fails 2 (some .int) :: ([.fieldLink RX8 101 "LedgeLevelsModel" "thrown" "I"] ++ wsX80)
def wsX8_in : List Cond := .code yX8_in cX8_in 3 (some .boolean) :: ([])
def wsX8_isCell : List Cond := .code yX8_isCell cX8_isCell 1 (some .boolean) :: ([.methodLink RX8 105 yX8_in, .static yX8_in, .initialized RX8, .code yX8_in cX8_in 3 (some .boolean)])
def wsX8_isPerson : List Cond := .code yX8_isPerson cX8_isPerson 1 (some .boolean) :: ([.methodLink RX8 105 yX8_in, .static yX8_in, .initialized RX8, .code yX8_in cX8_in 3 (some .boolean)])
def wsX8_isLevel : List Cond := .code yX8_isLevel cX8_isLevel 2 (some .boolean) :: ([.fieldLink RX8 109 "LedgeLevelsModel" "levels" "I", .methodLink RX8 105 yX8_in, .static yX8_in, .initialized RX8, .code yX8_in cX8_in 3 (some .boolean)] ++ wsX80)
def wsX8_isWork : List Cond := .code yX8_isWork cX8_isWork 2 (some .boolean) :: ([.fieldLink RX8 112 "LedgeLevelsModel" "works" "I", .methodLink RX8 105 yX8_in, .static yX8_in, .initialized RX8, .code yX8_in cX8_in 3 (some .boolean)] ++ wsX80)
def wsX8_lays : List Cond := .code yX8_lays cX8_lays 4 none :: ([.fieldLink RX8 115 "LedgeLevelsModel" "allKeys" "I", .fieldLink RX8 85 "LedgeLevelsModel" "ground" "[I", .fieldLink RX8 49 "LedgeLevelsModel" "shape" "[I", .fieldLink RX8 16 "LedgeLevelsModel" "grid" "[I", .fieldLink RX8 88 "LedgeLevelsModel" "keyBit" "[I"] ++ wsX80)
def wsX8_isSolid : List Cond := .code yX8_isSolid cX8_isSolid 4 (some .boolean) :: ([.fieldLink RX8 85 "LedgeLevelsModel" "ground" "[I", .fieldLink RX8 118 "LedgeLevelsModel" "taken" "I", .fieldLink RX8 115 "LedgeLevelsModel" "allKeys" "I", .methodLink RX8 105 yX8_in, .static yX8_in, .initialized RX8, .code yX8_in cX8_in 3 (some .boolean)] ++ wsX80)
def wsX8_comes : List Cond := .code yX8_comes cX8_comes 3 none :: ([.fieldLink RX8 121 "LedgeLevelsModel" "state" "I", .fieldLink RX8 124 "LedgeLevelsModel" "cell" "I", .fieldLink RX8 118 "LedgeLevelsModel" "taken" "I", .fieldLink RX8 88 "LedgeLevelsModel" "keyBit" "[I", .fieldLink RX8 85 "LedgeLevelsModel" "ground" "[I"] ++ wsX80)
def wsX8_starts : List Cond := .code yX8_starts cX8_starts 2 none :: ([.fieldLink RX8 127 "LedgeLevelsModel" "speed" "I", .fieldLink RX8 118 "LedgeLevelsModel" "taken" "I", .methodLink RX8 130 yX8_comes, .instanceMethod yX8_comes, .selects RX8 yX8_comes yX8_comes, .initialized RX8, .code yX8_comes cX8_comes 3 none, .fieldLink RX8 121 "LedgeLevelsModel" "state" "I", .fieldLink RX8 124 "LedgeLevelsModel" "cell" "I", .fieldLink RX8 88 "LedgeLevelsModel" "keyBit" "[I", .fieldLink RX8 85 "LedgeLevelsModel" "ground" "[I"] ++ wsX80)
def wsX8_moves : List Cond := .code yX8_moves cX8_moves 8 none :: ([.fieldLink RX8 124 "LedgeLevelsModel" "cell" "I", .fieldLink RX8 127 "LedgeLevelsModel" "speed" "I", .fieldLink RX8 121 "LedgeLevelsModel" "state" "I", .fieldLink RX8 85 "LedgeLevelsModel" "ground" "[I", .fieldLink RX8 7 "LedgeLevelsModel" "strength" "[I", .methodLink RX8 134 yX8_isSolid, .instanceMethod yX8_isSolid, .selects RX8 yX8_isSolid yX8_isSolid, .initialized RX8, .code yX8_isSolid cX8_isSolid 4 (some .boolean), .fieldLink RX8 118 "LedgeLevelsModel" "taken" "I", .fieldLink RX8 115 "LedgeLevelsModel" "allKeys" "I", .methodLink RX8 105 yX8_in, .static yX8_in, .code yX8_in cX8_in 3 (some .boolean), .methodLink RX8 130 yX8_comes, .instanceMethod yX8_comes, .selects RX8 yX8_comes yX8_comes, .code yX8_comes cX8_comes 3 none, .fieldLink RX8 88 "LedgeLevelsModel" "keyBit" "[I"] ++ wsX80)
def wsX8_code : List Cond := .code yX8_code cX8_code 1 (some .int) :: ([.fieldLink RX8 124 "LedgeLevelsModel" "cell" "I", .fieldLink RX8 127 "LedgeLevelsModel" "speed" "I", .fieldLink RX8 118 "LedgeLevelsModel" "taken" "I"] ++ wsX80)
def wsX8_searches_r1 : List Cond := [Cond.fieldLink RX8 94 "LedgeLevelsModel" "far" "[I", Cond.fieldLink RX8 97 "LedgeLevelsModel" "reached" "[Z", Cond.fieldLink RX8 121 "LedgeLevelsModel" "state" "I", Cond.fieldLink RX8 91 "LedgeLevelsModel" "queue" "[I", Cond.fieldLink RX8 124 "LedgeLevelsModel" "cell" "I", Cond.fieldLink RX8 127 "LedgeLevelsModel" "speed" "I", Cond.fieldLink RX8 118 "LedgeLevelsModel" "taken" "I", Cond.methodLink RX8 138 yX8_starts, Cond.instanceMethod yX8_starts, Cond.selects RX8 yX8_starts yX8_starts, Cond.initialized RX8, Cond.code yX8_starts cX8_starts 2 none, Cond.methodLink RX8 130 yX8_comes, Cond.instanceMethod yX8_comes, Cond.selects RX8 yX8_comes yX8_comes, Cond.code yX8_comes cX8_comes 3 none, Cond.fieldLink RX8 88 "LedgeLevelsModel" "keyBit" "[I", Cond.fieldLink RX8 85 "LedgeLevelsModel" "ground" "[I", Cond.methodLink RX8 142 yX8_code, Cond.instanceMethod yX8_code, Cond.selects RX8 yX8_code yX8_code, Cond.code yX8_code cX8_code 1 (some .int), Cond.methodLink RX8 146 yX8_moves, Cond.instanceMethod yX8_moves]
def wsX8_searches_r2 : List Cond := [Cond.selects RX8 yX8_moves yX8_moves, Cond.code yX8_moves cX8_moves 8 none, Cond.fieldLink RX8 7 "LedgeLevelsModel" "strength" "[I", Cond.methodLink RX8 134 yX8_isSolid, Cond.instanceMethod yX8_isSolid, Cond.selects RX8 yX8_isSolid yX8_isSolid, Cond.code yX8_isSolid cX8_isSolid 4 (some .boolean), Cond.fieldLink RX8 115 "LedgeLevelsModel" "allKeys" "I", Cond.methodLink RX8 105 yX8_in, Cond.static yX8_in, Cond.code yX8_in cX8_in 3 (some .boolean)]
def wsX8_searches : List Cond := .code yX8_searches cX8_searches 6 (some .int) :: ((wsX8_searches_r1 ++ wsX8_searches_r2) ++ wsX80)
def wsX8_opens : List Cond := .code yX8_opens cX8_opens 4 (some .int) :: ([.fieldLink RX8 13 "LedgeLevelsModel" "maker" "[I", .fieldLink RX8 109 "LedgeLevelsModel" "levels" "I", .fieldLink RX8 19 "LedgeLevelsModel" "begins" "[I", .fieldLink RX8 22 "LedgeLevelsModel" "proofs" "[I", .fieldLink RX8 25 "LedgeLevelsModel" "origin" "[I"] ++ wsX80)
def wsX8_begin : List Cond := .code yX8_begin cX8_begin 3 (some .int) :: ([.fieldLink RX8 101 "LedgeLevelsModel" "thrown" "I", .fieldLink RX8 109 "LedgeLevelsModel" "levels" "I", .fieldLink RX8 16 "LedgeLevelsModel" "grid" "[I", .methodLink RX8 149 yX8_isPerson, .static yX8_isPerson, .initialized RX8, .code yX8_isPerson cX8_isPerson 1 (some .boolean), .methodLink RX8 105 yX8_in, .static yX8_in, .code yX8_in cX8_in 3 (some .boolean), .methodLink RX8 153 yX8_fails, .instanceMethod yX8_fails, .selects RX8 yX8_fails yX8_fails, .code yX8_fails cX8_fails 2 (some .int), .methodLink RX8 157 yX8_opens, .instanceMethod yX8_opens, .selects RX8 yX8_opens yX8_opens, .code yX8_opens cX8_opens 4 (some .int), .fieldLink RX8 13 "LedgeLevelsModel" "maker" "[I", .fieldLink RX8 19 "LedgeLevelsModel" "begins" "[I", .fieldLink RX8 22 "LedgeLevelsModel" "proofs" "[I", .fieldLink RX8 25 "LedgeLevelsModel" "origin" "[I"] ++ wsX80)
def wsX8_keysOf : List Cond := .code yX8_keysOf cX8_keysOf 4 (some .int) :: ([.fieldLink RX8 16 "LedgeLevelsModel" "grid" "[I"] ++ wsX80)
def wsX8_remembers : List Cond := .code yX8_remembers cX8_remembers 6 none :: ([.fieldLink RX8 28 "LedgeLevelsModel" "undos" "[I", .fieldLink RX8 31 "LedgeLevelsModel" "undoCell" "[I", .fieldLink RX8 34 "LedgeLevelsModel" "undoKind" "[I"] ++ wsX80)
def wsX8_set_r1 : List Cond := [Cond.fieldLink RX8 101 "LedgeLevelsModel" "thrown" "I", Cond.fieldLink RX8 16 "LedgeLevelsModel" "grid" "[I", Cond.fieldLink RX8 37 "LedgeLevelsModel" "redos" "[I", Cond.fieldLink RX8 22 "LedgeLevelsModel" "proofs" "[I", Cond.methodLink RX8 161 yX8_isLevel, Cond.instanceMethod yX8_isLevel, Cond.selects RX8 yX8_isLevel yX8_isLevel, Cond.initialized RX8, Cond.code yX8_isLevel cX8_isLevel 2 (some .boolean), Cond.fieldLink RX8 109 "LedgeLevelsModel" "levels" "I", Cond.methodLink RX8 105 yX8_in, Cond.static yX8_in, Cond.code yX8_in cX8_in 3 (some .boolean), Cond.methodLink RX8 164 yX8_isCell, Cond.static yX8_isCell, Cond.code yX8_isCell cX8_isCell 1 (some .boolean), Cond.methodLink RX8 153 yX8_fails, Cond.instanceMethod yX8_fails, Cond.selects RX8 yX8_fails yX8_fails, Cond.code yX8_fails cX8_fails 2 (some .int), Cond.methodLink RX8 167 yX8_keysOf, Cond.instanceMethod yX8_keysOf, Cond.selects RX8 yX8_keysOf yX8_keysOf, Cond.code yX8_keysOf cX8_keysOf 4 (some .int)]
def wsX8_set_r2 : List Cond := [Cond.methodLink RX8 170 yX8_remembers, Cond.instanceMethod yX8_remembers, Cond.selects RX8 yX8_remembers yX8_remembers, Cond.code yX8_remembers cX8_remembers 6 none, Cond.fieldLink RX8 28 "LedgeLevelsModel" "undos" "[I", Cond.fieldLink RX8 31 "LedgeLevelsModel" "undoCell" "[I", Cond.fieldLink RX8 34 "LedgeLevelsModel" "undoKind" "[I"]
def wsX8_set : List Cond := .code yX8_set cX8_set 5 (some .int) :: ((wsX8_set_r1 ++ wsX8_set_r2) ++ wsX80)
def wsX8_setStart : List Cond := .code yX8_setStart cX8_setStart 4 (some .int) :: ([.fieldLink RX8 101 "LedgeLevelsModel" "thrown" "I", .fieldLink RX8 19 "LedgeLevelsModel" "begins" "[I", .fieldLink RX8 22 "LedgeLevelsModel" "proofs" "[I", .methodLink RX8 161 yX8_isLevel, .instanceMethod yX8_isLevel, .selects RX8 yX8_isLevel yX8_isLevel, .initialized RX8, .code yX8_isLevel cX8_isLevel 2 (some .boolean), .fieldLink RX8 109 "LedgeLevelsModel" "levels" "I", .methodLink RX8 105 yX8_in, .static yX8_in, .code yX8_in cX8_in 3 (some .boolean), .methodLink RX8 164 yX8_isCell, .static yX8_isCell, .code yX8_isCell cX8_isCell 1 (some .boolean), .methodLink RX8 153 yX8_fails, .instanceMethod yX8_fails, .selects RX8 yX8_fails yX8_fails, .code yX8_fails cX8_fails 2 (some .int)] ++ wsX80)
def wsX8_undo : List Cond := .code yX8_undo cX8_undo 3 (some .int) :: ([.fieldLink RX8 101 "LedgeLevelsModel" "thrown" "I", .fieldLink RX8 28 "LedgeLevelsModel" "undos" "[I", .fieldLink RX8 40 "LedgeLevelsModel" "redoCell" "[I", .fieldLink RX8 37 "LedgeLevelsModel" "redos" "[I", .fieldLink RX8 31 "LedgeLevelsModel" "undoCell" "[I", .fieldLink RX8 43 "LedgeLevelsModel" "redoKind" "[I", .fieldLink RX8 34 "LedgeLevelsModel" "undoKind" "[I", .fieldLink RX8 16 "LedgeLevelsModel" "grid" "[I", .fieldLink RX8 22 "LedgeLevelsModel" "proofs" "[I", .methodLink RX8 161 yX8_isLevel, .instanceMethod yX8_isLevel, .selects RX8 yX8_isLevel yX8_isLevel, .initialized RX8, .code yX8_isLevel cX8_isLevel 2 (some .boolean), .fieldLink RX8 109 "LedgeLevelsModel" "levels" "I", .methodLink RX8 105 yX8_in, .static yX8_in, .code yX8_in cX8_in 3 (some .boolean), .methodLink RX8 153 yX8_fails, .instanceMethod yX8_fails, .selects RX8 yX8_fails yX8_fails, .code yX8_fails cX8_fails 2 (some .int)] ++ wsX80)
def wsX8_redo_r1 : List Cond := [Cond.fieldLink RX8 101 "LedgeLevelsModel" "thrown" "I", Cond.fieldLink RX8 37 "LedgeLevelsModel" "redos" "[I", Cond.fieldLink RX8 40 "LedgeLevelsModel" "redoCell" "[I", Cond.fieldLink RX8 43 "LedgeLevelsModel" "redoKind" "[I", Cond.fieldLink RX8 16 "LedgeLevelsModel" "grid" "[I", Cond.fieldLink RX8 22 "LedgeLevelsModel" "proofs" "[I", Cond.methodLink RX8 161 yX8_isLevel, Cond.instanceMethod yX8_isLevel, Cond.selects RX8 yX8_isLevel yX8_isLevel, Cond.initialized RX8, Cond.code yX8_isLevel cX8_isLevel 2 (some .boolean), Cond.fieldLink RX8 109 "LedgeLevelsModel" "levels" "I", Cond.methodLink RX8 105 yX8_in, Cond.static yX8_in, Cond.code yX8_in cX8_in 3 (some .boolean), Cond.methodLink RX8 153 yX8_fails, Cond.instanceMethod yX8_fails, Cond.selects RX8 yX8_fails yX8_fails, Cond.code yX8_fails cX8_fails 2 (some .int), Cond.methodLink RX8 170 yX8_remembers, Cond.instanceMethod yX8_remembers, Cond.selects RX8 yX8_remembers yX8_remembers, Cond.code yX8_remembers cX8_remembers 6 none, Cond.fieldLink RX8 28 "LedgeLevelsModel" "undos" "[I"]
def wsX8_redo_r2 : List Cond := [Cond.fieldLink RX8 31 "LedgeLevelsModel" "undoCell" "[I", Cond.fieldLink RX8 34 "LedgeLevelsModel" "undoKind" "[I"]
def wsX8_redo : List Cond := .code yX8_redo cX8_redo 3 (some .int) :: ((wsX8_redo_r1 ++ wsX8_redo_r2) ++ wsX80)
def wsX8_isInLevel : List Cond := .code yX8_isInLevel cX8_isInLevel 5 (some .boolean) :: ([.fieldLink RX8 16 "LedgeLevelsModel" "grid" "[I"] ++ wsX80)
def wsX8_isInWork : List Cond := .code yX8_isInWork cX8_isInWork 5 (some .boolean) :: ([.fieldLink RX8 49 "LedgeLevelsModel" "shape" "[I"] ++ wsX80)
def wsX8_tries_r1 : List Cond := [Cond.fieldLink RX8 55 "LedgeLevelsModel" "best" "[I", Cond.fieldLink RX8 52 "LedgeLevelsModel" "from" "[I", Cond.fieldLink RX8 67 "LedgeLevelsModel" "runState" "[I", Cond.fieldLink RX8 70 "LedgeLevelsModel" "runWork" "[I", Cond.methodLink RX8 174 yX8_lays, Cond.instanceMethod yX8_lays, Cond.selects RX8 yX8_lays yX8_lays, Cond.initialized RX8, Cond.code yX8_lays cX8_lays 4 none, Cond.fieldLink RX8 115 "LedgeLevelsModel" "allKeys" "I", Cond.fieldLink RX8 85 "LedgeLevelsModel" "ground" "[I", Cond.fieldLink RX8 49 "LedgeLevelsModel" "shape" "[I", Cond.fieldLink RX8 16 "LedgeLevelsModel" "grid" "[I", Cond.fieldLink RX8 88 "LedgeLevelsModel" "keyBit" "[I", Cond.methodLink RX8 178 yX8_searches, Cond.instanceMethod yX8_searches, Cond.selects RX8 yX8_searches yX8_searches, Cond.code yX8_searches cX8_searches 6 (some .int), Cond.fieldLink RX8 94 "LedgeLevelsModel" "far" "[I", Cond.fieldLink RX8 97 "LedgeLevelsModel" "reached" "[Z", Cond.fieldLink RX8 121 "LedgeLevelsModel" "state" "I", Cond.fieldLink RX8 91 "LedgeLevelsModel" "queue" "[I", Cond.fieldLink RX8 124 "LedgeLevelsModel" "cell" "I", Cond.fieldLink RX8 127 "LedgeLevelsModel" "speed" "I"]
def wsX8_tries_r2 : List Cond := [Cond.fieldLink RX8 118 "LedgeLevelsModel" "taken" "I", Cond.methodLink RX8 138 yX8_starts, Cond.instanceMethod yX8_starts, Cond.selects RX8 yX8_starts yX8_starts, Cond.code yX8_starts cX8_starts 2 none, Cond.methodLink RX8 130 yX8_comes, Cond.instanceMethod yX8_comes, Cond.selects RX8 yX8_comes yX8_comes, Cond.code yX8_comes cX8_comes 3 none, Cond.methodLink RX8 142 yX8_code, Cond.instanceMethod yX8_code, Cond.selects RX8 yX8_code yX8_code, Cond.code yX8_code cX8_code 1 (some .int), Cond.methodLink RX8 146 yX8_moves, Cond.instanceMethod yX8_moves, Cond.selects RX8 yX8_moves yX8_moves, Cond.code yX8_moves cX8_moves 8 none, Cond.fieldLink RX8 7 "LedgeLevelsModel" "strength" "[I", Cond.methodLink RX8 134 yX8_isSolid, Cond.instanceMethod yX8_isSolid, Cond.selects RX8 yX8_isSolid yX8_isSolid, Cond.code yX8_isSolid cX8_isSolid 4 (some .boolean), Cond.methodLink RX8 105 yX8_in, Cond.static yX8_in]
def wsX8_tries_r3 : List Cond := [Cond.code yX8_in cX8_in 3 (some .boolean)]
def wsX8_tries : List Cond := .code yX8_tries cX8_tries 4 none :: ((wsX8_tries_r1 ++ (wsX8_tries_r2 ++ wsX8_tries_r3)) ++ wsX80)
def wsX8_setSpring_r1 : List Cond := [Cond.fieldLink RX8 101 "LedgeLevelsModel" "thrown" "I", Cond.fieldLink RX8 7 "LedgeLevelsModel" "strength" "[I", Cond.fieldLink RX8 109 "LedgeLevelsModel" "levels" "I", Cond.fieldLink RX8 22 "LedgeLevelsModel" "proofs" "[I", Cond.fieldLink RX8 112 "LedgeLevelsModel" "works" "I", Cond.methodLink RX8 105 yX8_in, Cond.static yX8_in, Cond.initialized RX8, Cond.code yX8_in cX8_in 3 (some .boolean), Cond.methodLink RX8 153 yX8_fails, Cond.instanceMethod yX8_fails, Cond.selects RX8 yX8_fails yX8_fails, Cond.code yX8_fails cX8_fails 2 (some .int), Cond.methodLink RX8 181 yX8_isInLevel, Cond.instanceMethod yX8_isInLevel, Cond.selects RX8 yX8_isInLevel yX8_isInLevel, Cond.code yX8_isInLevel cX8_isInLevel 5 (some .boolean), Cond.fieldLink RX8 16 "LedgeLevelsModel" "grid" "[I", Cond.methodLink RX8 184 yX8_isInWork, Cond.instanceMethod yX8_isInWork, Cond.selects RX8 yX8_isInWork yX8_isInWork, Cond.code yX8_isInWork cX8_isInWork 5 (some .boolean), Cond.fieldLink RX8 49 "LedgeLevelsModel" "shape" "[I", Cond.methodLink RX8 187 yX8_tries]
def wsX8_setSpring_r2 : List Cond := [Cond.instanceMethod yX8_tries, Cond.selects RX8 yX8_tries yX8_tries, Cond.code yX8_tries cX8_tries 4 none, Cond.fieldLink RX8 55 "LedgeLevelsModel" "best" "[I", Cond.fieldLink RX8 52 "LedgeLevelsModel" "from" "[I", Cond.fieldLink RX8 67 "LedgeLevelsModel" "runState" "[I", Cond.fieldLink RX8 70 "LedgeLevelsModel" "runWork" "[I", Cond.methodLink RX8 174 yX8_lays, Cond.instanceMethod yX8_lays, Cond.selects RX8 yX8_lays yX8_lays, Cond.code yX8_lays cX8_lays 4 none, Cond.fieldLink RX8 115 "LedgeLevelsModel" "allKeys" "I", Cond.fieldLink RX8 85 "LedgeLevelsModel" "ground" "[I", Cond.fieldLink RX8 88 "LedgeLevelsModel" "keyBit" "[I", Cond.methodLink RX8 178 yX8_searches, Cond.instanceMethod yX8_searches, Cond.selects RX8 yX8_searches yX8_searches, Cond.code yX8_searches cX8_searches 6 (some .int), Cond.fieldLink RX8 94 "LedgeLevelsModel" "far" "[I", Cond.fieldLink RX8 97 "LedgeLevelsModel" "reached" "[Z", Cond.fieldLink RX8 121 "LedgeLevelsModel" "state" "I", Cond.fieldLink RX8 91 "LedgeLevelsModel" "queue" "[I", Cond.fieldLink RX8 124 "LedgeLevelsModel" "cell" "I", Cond.fieldLink RX8 127 "LedgeLevelsModel" "speed" "I"]
def wsX8_setSpring_r3 : List Cond := [Cond.fieldLink RX8 118 "LedgeLevelsModel" "taken" "I", Cond.methodLink RX8 138 yX8_starts, Cond.instanceMethod yX8_starts, Cond.selects RX8 yX8_starts yX8_starts, Cond.code yX8_starts cX8_starts 2 none, Cond.methodLink RX8 130 yX8_comes, Cond.instanceMethod yX8_comes, Cond.selects RX8 yX8_comes yX8_comes, Cond.code yX8_comes cX8_comes 3 none, Cond.methodLink RX8 142 yX8_code, Cond.instanceMethod yX8_code, Cond.selects RX8 yX8_code yX8_code, Cond.code yX8_code cX8_code 1 (some .int), Cond.methodLink RX8 146 yX8_moves, Cond.instanceMethod yX8_moves, Cond.selects RX8 yX8_moves yX8_moves, Cond.code yX8_moves cX8_moves 8 none, Cond.methodLink RX8 134 yX8_isSolid, Cond.instanceMethod yX8_isSolid, Cond.selects RX8 yX8_isSolid yX8_isSolid, Cond.code yX8_isSolid cX8_isSolid 4 (some .boolean)]
def wsX8_setSpring : List Cond := .code yX8_setSpring cX8_setSpring 6 (some .int) :: ((wsX8_setSpring_r1 ++ (wsX8_setSpring_r2 ++ wsX8_setSpring_r3)) ++ wsX80)
def wsX8_prove_r1 : List Cond := [Cond.fieldLink RX8 101 "LedgeLevelsModel" "thrown" "I", Cond.fieldLink RX8 22 "LedgeLevelsModel" "proofs" "[I", Cond.fieldLink RX8 19 "LedgeLevelsModel" "begins" "[I", Cond.methodLink RX8 161 yX8_isLevel, Cond.instanceMethod yX8_isLevel, Cond.selects RX8 yX8_isLevel yX8_isLevel, Cond.initialized RX8, Cond.code yX8_isLevel cX8_isLevel 2 (some .boolean), Cond.fieldLink RX8 109 "LedgeLevelsModel" "levels" "I", Cond.methodLink RX8 105 yX8_in, Cond.static yX8_in, Cond.code yX8_in cX8_in 3 (some .boolean), Cond.methodLink RX8 153 yX8_fails, Cond.instanceMethod yX8_fails, Cond.selects RX8 yX8_fails yX8_fails, Cond.code yX8_fails cX8_fails 2 (some .int), Cond.methodLink RX8 174 yX8_lays, Cond.instanceMethod yX8_lays, Cond.selects RX8 yX8_lays yX8_lays, Cond.code yX8_lays cX8_lays 4 none, Cond.fieldLink RX8 115 "LedgeLevelsModel" "allKeys" "I", Cond.fieldLink RX8 85 "LedgeLevelsModel" "ground" "[I", Cond.fieldLink RX8 49 "LedgeLevelsModel" "shape" "[I", Cond.fieldLink RX8 16 "LedgeLevelsModel" "grid" "[I"]
def wsX8_prove_r2 : List Cond := [Cond.fieldLink RX8 88 "LedgeLevelsModel" "keyBit" "[I", Cond.methodLink RX8 178 yX8_searches, Cond.instanceMethod yX8_searches, Cond.selects RX8 yX8_searches yX8_searches, Cond.code yX8_searches cX8_searches 6 (some .int), Cond.fieldLink RX8 94 "LedgeLevelsModel" "far" "[I", Cond.fieldLink RX8 97 "LedgeLevelsModel" "reached" "[Z", Cond.fieldLink RX8 121 "LedgeLevelsModel" "state" "I", Cond.fieldLink RX8 91 "LedgeLevelsModel" "queue" "[I", Cond.fieldLink RX8 124 "LedgeLevelsModel" "cell" "I", Cond.fieldLink RX8 127 "LedgeLevelsModel" "speed" "I", Cond.fieldLink RX8 118 "LedgeLevelsModel" "taken" "I", Cond.methodLink RX8 138 yX8_starts, Cond.instanceMethod yX8_starts, Cond.selects RX8 yX8_starts yX8_starts, Cond.code yX8_starts cX8_starts 2 none, Cond.methodLink RX8 130 yX8_comes, Cond.instanceMethod yX8_comes, Cond.selects RX8 yX8_comes yX8_comes, Cond.code yX8_comes cX8_comes 3 none, Cond.methodLink RX8 142 yX8_code, Cond.instanceMethod yX8_code, Cond.selects RX8 yX8_code yX8_code, Cond.code yX8_code cX8_code 1 (some .int)]
def wsX8_prove_r3 : List Cond := [Cond.methodLink RX8 146 yX8_moves, Cond.instanceMethod yX8_moves, Cond.selects RX8 yX8_moves yX8_moves, Cond.code yX8_moves cX8_moves 8 none, Cond.fieldLink RX8 7 "LedgeLevelsModel" "strength" "[I", Cond.methodLink RX8 134 yX8_isSolid, Cond.instanceMethod yX8_isSolid, Cond.selects RX8 yX8_isSolid yX8_isSolid, Cond.code yX8_isSolid cX8_isSolid 4 (some .boolean)]
def wsX8_prove : List Cond := .code yX8_prove cX8_prove 2 (some .int) :: ((wsX8_prove_r1 ++ (wsX8_prove_r2 ++ wsX8_prove_r3)) ++ wsX80)
def wsX8_offer_r1 : List Cond := [Cond.fieldLink RX8 101 "LedgeLevelsModel" "thrown" "I", Cond.fieldLink RX8 22 "LedgeLevelsModel" "proofs" "[I", Cond.fieldLink RX8 112 "LedgeLevelsModel" "works" "I", Cond.fieldLink RX8 49 "LedgeLevelsModel" "shape" "[I", Cond.fieldLink RX8 16 "LedgeLevelsModel" "grid" "[I", Cond.fieldLink RX8 46 "LedgeLevelsModel" "author" "[I", Cond.fieldLink RX8 13 "LedgeLevelsModel" "maker" "[I", Cond.fieldLink RX8 52 "LedgeLevelsModel" "from" "[I", Cond.fieldLink RX8 19 "LedgeLevelsModel" "begins" "[I", Cond.fieldLink RX8 55 "LedgeLevelsModel" "best" "[I", Cond.fieldLink RX8 58 "LedgeLevelsModel" "parent" "[I", Cond.fieldLink RX8 25 "LedgeLevelsModel" "origin" "[I", Cond.fieldLink RX8 61 "LedgeLevelsModel" "record" "[I", Cond.methodLink RX8 161 yX8_isLevel, Cond.instanceMethod yX8_isLevel, Cond.selects RX8 yX8_isLevel yX8_isLevel, Cond.initialized RX8, Cond.code yX8_isLevel cX8_isLevel 2 (some .boolean), Cond.fieldLink RX8 109 "LedgeLevelsModel" "levels" "I", Cond.methodLink RX8 105 yX8_in, Cond.static yX8_in, Cond.code yX8_in cX8_in 3 (some .boolean), Cond.methodLink RX8 153 yX8_fails, Cond.instanceMethod yX8_fails]
def wsX8_offer_r2 : List Cond := [Cond.selects RX8 yX8_fails yX8_fails, Cond.code yX8_fails cX8_fails 2 (some .int)]
def wsX8_offer : List Cond := .code yX8_offer cX8_offer 3 (some .int) :: ((wsX8_offer_r1 ++ wsX8_offer_r2) ++ wsX80)
def wsX8_copy_r1 : List Cond := [Cond.fieldLink RX8 101 "LedgeLevelsModel" "thrown" "I", Cond.fieldLink RX8 55 "LedgeLevelsModel" "best" "[I", Cond.fieldLink RX8 109 "LedgeLevelsModel" "levels" "I", Cond.fieldLink RX8 16 "LedgeLevelsModel" "grid" "[I", Cond.fieldLink RX8 49 "LedgeLevelsModel" "shape" "[I", Cond.fieldLink RX8 52 "LedgeLevelsModel" "from" "[I", Cond.methodLink RX8 190 yX8_isWork, Cond.instanceMethod yX8_isWork, Cond.selects RX8 yX8_isWork yX8_isWork, Cond.initialized RX8, Cond.code yX8_isWork cX8_isWork 2 (some .boolean), Cond.fieldLink RX8 112 "LedgeLevelsModel" "works" "I", Cond.methodLink RX8 105 yX8_in, Cond.static yX8_in, Cond.code yX8_in cX8_in 3 (some .boolean), Cond.methodLink RX8 149 yX8_isPerson, Cond.static yX8_isPerson, Cond.code yX8_isPerson cX8_isPerson 1 (some .boolean), Cond.methodLink RX8 153 yX8_fails, Cond.instanceMethod yX8_fails, Cond.selects RX8 yX8_fails yX8_fails, Cond.code yX8_fails cX8_fails 2 (some .int), Cond.methodLink RX8 157 yX8_opens, Cond.instanceMethod yX8_opens]
def wsX8_copy_r2 : List Cond := [Cond.selects RX8 yX8_opens yX8_opens, Cond.code yX8_opens cX8_opens 4 (some .int), Cond.fieldLink RX8 13 "LedgeLevelsModel" "maker" "[I", Cond.fieldLink RX8 19 "LedgeLevelsModel" "begins" "[I", Cond.fieldLink RX8 22 "LedgeLevelsModel" "proofs" "[I", Cond.fieldLink RX8 25 "LedgeLevelsModel" "origin" "[I"]
def wsX8_copy : List Cond := .code yX8_copy cX8_copy 4 (some .int) :: ((wsX8_copy_r1 ++ wsX8_copy_r2) ++ wsX80)
def wsX8_star : List Cond := .code yX8_star cX8_star 5 (some .int) :: ([.fieldLink RX8 101 "LedgeLevelsModel" "thrown" "I", .fieldLink RX8 55 "LedgeLevelsModel" "best" "[I", .fieldLink RX8 46 "LedgeLevelsModel" "author" "[I", .fieldLink RX8 64 "LedgeLevelsModel" "stars" "[I", .methodLink RX8 190 yX8_isWork, .instanceMethod yX8_isWork, .selects RX8 yX8_isWork yX8_isWork, .initialized RX8, .code yX8_isWork cX8_isWork 2 (some .boolean), .fieldLink RX8 112 "LedgeLevelsModel" "works" "I", .methodLink RX8 105 yX8_in, .static yX8_in, .code yX8_in cX8_in 3 (some .boolean), .methodLink RX8 149 yX8_isPerson, .static yX8_isPerson, .code yX8_isPerson cX8_isPerson 1 (some .boolean), .methodLink RX8 153 yX8_fails, .instanceMethod yX8_fails, .selects RX8 yX8_fails yX8_fails, .code yX8_fails cX8_fails 2 (some .int)] ++ wsX80)
def wsX8_keeps : List Cond := .code yX8_keeps cX8_keeps 3 (some .int) :: ([.fieldLink RX8 73 "LedgeLevelsModel" "runCell" "[I", .fieldLink RX8 124 "LedgeLevelsModel" "cell" "I", .fieldLink RX8 76 "LedgeLevelsModel" "runSpeed" "[I", .fieldLink RX8 127 "LedgeLevelsModel" "speed" "I", .fieldLink RX8 79 "LedgeLevelsModel" "runTaken" "[I", .fieldLink RX8 118 "LedgeLevelsModel" "taken" "I", .fieldLink RX8 67 "LedgeLevelsModel" "runState" "[I", .fieldLink RX8 121 "LedgeLevelsModel" "state" "I", .fieldLink RX8 70 "LedgeLevelsModel" "runWork" "[I", .fieldLink RX8 61 "LedgeLevelsModel" "record" "[I", .fieldLink RX8 82 "LedgeLevelsModel" "runSteps" "[I"] ++ wsX80)
def wsX8_run_r1 : List Cond := [Cond.fieldLink RX8 101 "LedgeLevelsModel" "thrown" "I", Cond.fieldLink RX8 55 "LedgeLevelsModel" "best" "[I", Cond.fieldLink RX8 70 "LedgeLevelsModel" "runWork" "[I", Cond.fieldLink RX8 82 "LedgeLevelsModel" "runSteps" "[I", Cond.fieldLink RX8 52 "LedgeLevelsModel" "from" "[I", Cond.methodLink RX8 149 yX8_isPerson, Cond.static yX8_isPerson, Cond.initialized RX8, Cond.code yX8_isPerson cX8_isPerson 1 (some .boolean), Cond.methodLink RX8 105 yX8_in, Cond.static yX8_in, Cond.code yX8_in cX8_in 3 (some .boolean), Cond.methodLink RX8 190 yX8_isWork, Cond.instanceMethod yX8_isWork, Cond.selects RX8 yX8_isWork yX8_isWork, Cond.code yX8_isWork cX8_isWork 2 (some .boolean), Cond.fieldLink RX8 112 "LedgeLevelsModel" "works" "I", Cond.methodLink RX8 153 yX8_fails, Cond.instanceMethod yX8_fails, Cond.selects RX8 yX8_fails yX8_fails, Cond.code yX8_fails cX8_fails 2 (some .int), Cond.methodLink RX8 174 yX8_lays, Cond.instanceMethod yX8_lays, Cond.selects RX8 yX8_lays yX8_lays]
def wsX8_run_r2 : List Cond := [Cond.code yX8_lays cX8_lays 4 none, Cond.fieldLink RX8 115 "LedgeLevelsModel" "allKeys" "I", Cond.fieldLink RX8 85 "LedgeLevelsModel" "ground" "[I", Cond.fieldLink RX8 49 "LedgeLevelsModel" "shape" "[I", Cond.fieldLink RX8 16 "LedgeLevelsModel" "grid" "[I", Cond.fieldLink RX8 88 "LedgeLevelsModel" "keyBit" "[I", Cond.methodLink RX8 138 yX8_starts, Cond.instanceMethod yX8_starts, Cond.selects RX8 yX8_starts yX8_starts, Cond.code yX8_starts cX8_starts 2 none, Cond.fieldLink RX8 127 "LedgeLevelsModel" "speed" "I", Cond.fieldLink RX8 118 "LedgeLevelsModel" "taken" "I", Cond.methodLink RX8 130 yX8_comes, Cond.instanceMethod yX8_comes, Cond.selects RX8 yX8_comes yX8_comes, Cond.code yX8_comes cX8_comes 3 none, Cond.fieldLink RX8 121 "LedgeLevelsModel" "state" "I", Cond.fieldLink RX8 124 "LedgeLevelsModel" "cell" "I", Cond.methodLink RX8 193 yX8_keeps, Cond.instanceMethod yX8_keeps, Cond.selects RX8 yX8_keeps yX8_keeps, Cond.code yX8_keeps cX8_keeps 3 (some .int), Cond.fieldLink RX8 73 "LedgeLevelsModel" "runCell" "[I", Cond.fieldLink RX8 76 "LedgeLevelsModel" "runSpeed" "[I"]
def wsX8_run_r3 : List Cond := [Cond.fieldLink RX8 79 "LedgeLevelsModel" "runTaken" "[I", Cond.fieldLink RX8 67 "LedgeLevelsModel" "runState" "[I", Cond.fieldLink RX8 61 "LedgeLevelsModel" "record" "[I"]
def wsX8_run : List Cond := .code yX8_run cX8_run 3 (some .int) :: ((wsX8_run_r1 ++ (wsX8_run_r2 ++ wsX8_run_r3)) ++ wsX80)
def wsX8_step_r1 : List Cond := [Cond.fieldLink RX8 101 "LedgeLevelsModel" "thrown" "I", Cond.fieldLink RX8 67 "LedgeLevelsModel" "runState" "[I", Cond.fieldLink RX8 82 "LedgeLevelsModel" "runSteps" "[I", Cond.fieldLink RX8 70 "LedgeLevelsModel" "runWork" "[I", Cond.fieldLink RX8 73 "LedgeLevelsModel" "runCell" "[I", Cond.fieldLink RX8 124 "LedgeLevelsModel" "cell" "I", Cond.fieldLink RX8 76 "LedgeLevelsModel" "runSpeed" "[I", Cond.fieldLink RX8 127 "LedgeLevelsModel" "speed" "I", Cond.fieldLink RX8 79 "LedgeLevelsModel" "runTaken" "[I", Cond.fieldLink RX8 118 "LedgeLevelsModel" "taken" "I", Cond.fieldLink RX8 121 "LedgeLevelsModel" "state" "I", Cond.methodLink RX8 149 yX8_isPerson, Cond.static yX8_isPerson, Cond.initialized RX8, Cond.code yX8_isPerson cX8_isPerson 1 (some .boolean), Cond.methodLink RX8 105 yX8_in, Cond.static yX8_in, Cond.code yX8_in cX8_in 3 (some .boolean), Cond.methodLink RX8 153 yX8_fails, Cond.instanceMethod yX8_fails, Cond.selects RX8 yX8_fails yX8_fails, Cond.code yX8_fails cX8_fails 2 (some .int), Cond.methodLink RX8 174 yX8_lays, Cond.instanceMethod yX8_lays]
def wsX8_step_r2 : List Cond := [Cond.selects RX8 yX8_lays yX8_lays, Cond.code yX8_lays cX8_lays 4 none, Cond.fieldLink RX8 115 "LedgeLevelsModel" "allKeys" "I", Cond.fieldLink RX8 85 "LedgeLevelsModel" "ground" "[I", Cond.fieldLink RX8 49 "LedgeLevelsModel" "shape" "[I", Cond.fieldLink RX8 16 "LedgeLevelsModel" "grid" "[I", Cond.fieldLink RX8 88 "LedgeLevelsModel" "keyBit" "[I", Cond.methodLink RX8 146 yX8_moves, Cond.instanceMethod yX8_moves, Cond.selects RX8 yX8_moves yX8_moves, Cond.code yX8_moves cX8_moves 8 none, Cond.fieldLink RX8 7 "LedgeLevelsModel" "strength" "[I", Cond.methodLink RX8 134 yX8_isSolid, Cond.instanceMethod yX8_isSolid, Cond.selects RX8 yX8_isSolid yX8_isSolid, Cond.code yX8_isSolid cX8_isSolid 4 (some .boolean), Cond.methodLink RX8 130 yX8_comes, Cond.instanceMethod yX8_comes, Cond.selects RX8 yX8_comes yX8_comes, Cond.code yX8_comes cX8_comes 3 none, Cond.methodLink RX8 193 yX8_keeps, Cond.instanceMethod yX8_keeps, Cond.selects RX8 yX8_keeps yX8_keeps, Cond.code yX8_keeps cX8_keeps 3 (some .int)]
def wsX8_step_r3 : List Cond := [Cond.fieldLink RX8 61 "LedgeLevelsModel" "record" "[I"]
def wsX8_step : List Cond := .code yX8_step cX8_step 3 (some .int) :: ((wsX8_step_r1 ++ (wsX8_step_r2 ++ wsX8_step_r3)) ++ wsX80)
def wsX8_levels : List Cond := .code yX8_levels cX8_levels 1 (some .int) :: ([.fieldLink RX8 101 "LedgeLevelsModel" "thrown" "I", .fieldLink RX8 109 "LedgeLevelsModel" "levels" "I"] ++ wsX80)
def wsX8_at : List Cond := .code yX8_at cX8_at 3 (some .int) :: ([.fieldLink RX8 101 "LedgeLevelsModel" "thrown" "I", .fieldLink RX8 16 "LedgeLevelsModel" "grid" "[I", .methodLink RX8 161 yX8_isLevel, .instanceMethod yX8_isLevel, .selects RX8 yX8_isLevel yX8_isLevel, .initialized RX8, .code yX8_isLevel cX8_isLevel 2 (some .boolean), .fieldLink RX8 109 "LedgeLevelsModel" "levels" "I", .methodLink RX8 105 yX8_in, .static yX8_in, .code yX8_in cX8_in 3 (some .boolean), .methodLink RX8 164 yX8_isCell, .static yX8_isCell, .code yX8_isCell cX8_isCell 1 (some .boolean), .methodLink RX8 153 yX8_fails, .instanceMethod yX8_fails, .selects RX8 yX8_fails yX8_fails, .code yX8_fails cX8_fails 2 (some .int)] ++ wsX80)
def wsX8_start : List Cond := .code yX8_start cX8_start 2 (some .int) :: ([.fieldLink RX8 101 "LedgeLevelsModel" "thrown" "I", .fieldLink RX8 19 "LedgeLevelsModel" "begins" "[I", .methodLink RX8 161 yX8_isLevel, .instanceMethod yX8_isLevel, .selects RX8 yX8_isLevel yX8_isLevel, .initialized RX8, .code yX8_isLevel cX8_isLevel 2 (some .boolean), .fieldLink RX8 109 "LedgeLevelsModel" "levels" "I", .methodLink RX8 105 yX8_in, .static yX8_in, .code yX8_in cX8_in 3 (some .boolean), .methodLink RX8 153 yX8_fails, .instanceMethod yX8_fails, .selects RX8 yX8_fails yX8_fails, .code yX8_fails cX8_fails 2 (some .int)] ++ wsX80)
def wsX8_edits : List Cond := .code yX8_edits cX8_edits 3 (some .int) :: ([.fieldLink RX8 101 "LedgeLevelsModel" "thrown" "I", .fieldLink RX8 28 "LedgeLevelsModel" "undos" "[I", .fieldLink RX8 37 "LedgeLevelsModel" "redos" "[I", .methodLink RX8 161 yX8_isLevel, .instanceMethod yX8_isLevel, .selects RX8 yX8_isLevel yX8_isLevel, .initialized RX8, .code yX8_isLevel cX8_isLevel 2 (some .boolean), .fieldLink RX8 109 "LedgeLevelsModel" "levels" "I", .methodLink RX8 105 yX8_in, .static yX8_in, .code yX8_in cX8_in 3 (some .boolean), .methodLink RX8 153 yX8_fails, .instanceMethod yX8_fails, .selects RX8 yX8_fails yX8_fails, .code yX8_fails cX8_fails 2 (some .int)] ++ wsX80)
def wsX8_proof : List Cond := .code yX8_proof cX8_proof 2 (some .int) :: ([.fieldLink RX8 101 "LedgeLevelsModel" "thrown" "I", .fieldLink RX8 22 "LedgeLevelsModel" "proofs" "[I", .methodLink RX8 161 yX8_isLevel, .instanceMethod yX8_isLevel, .selects RX8 yX8_isLevel yX8_isLevel, .initialized RX8, .code yX8_isLevel cX8_isLevel 2 (some .boolean), .fieldLink RX8 109 "LedgeLevelsModel" "levels" "I", .methodLink RX8 105 yX8_in, .static yX8_in, .code yX8_in cX8_in 3 (some .boolean), .methodLink RX8 153 yX8_fails, .instanceMethod yX8_fails, .selects RX8 yX8_fails yX8_fails, .code yX8_fails cX8_fails 2 (some .int)] ++ wsX80)
def wsX8_shortest_r1 : List Cond := [Cond.fieldLink RX8 101 "LedgeLevelsModel" "thrown" "I", Cond.fieldLink RX8 19 "LedgeLevelsModel" "begins" "[I", Cond.methodLink RX8 161 yX8_isLevel, Cond.instanceMethod yX8_isLevel, Cond.selects RX8 yX8_isLevel yX8_isLevel, Cond.initialized RX8, Cond.code yX8_isLevel cX8_isLevel 2 (some .boolean), Cond.fieldLink RX8 109 "LedgeLevelsModel" "levels" "I", Cond.methodLink RX8 105 yX8_in, Cond.static yX8_in, Cond.code yX8_in cX8_in 3 (some .boolean), Cond.methodLink RX8 153 yX8_fails, Cond.instanceMethod yX8_fails, Cond.selects RX8 yX8_fails yX8_fails, Cond.code yX8_fails cX8_fails 2 (some .int), Cond.methodLink RX8 174 yX8_lays, Cond.instanceMethod yX8_lays, Cond.selects RX8 yX8_lays yX8_lays, Cond.code yX8_lays cX8_lays 4 none, Cond.fieldLink RX8 115 "LedgeLevelsModel" "allKeys" "I", Cond.fieldLink RX8 85 "LedgeLevelsModel" "ground" "[I", Cond.fieldLink RX8 49 "LedgeLevelsModel" "shape" "[I", Cond.fieldLink RX8 16 "LedgeLevelsModel" "grid" "[I", Cond.fieldLink RX8 88 "LedgeLevelsModel" "keyBit" "[I"]
def wsX8_shortest_r2 : List Cond := [Cond.methodLink RX8 178 yX8_searches, Cond.instanceMethod yX8_searches, Cond.selects RX8 yX8_searches yX8_searches, Cond.code yX8_searches cX8_searches 6 (some .int), Cond.fieldLink RX8 94 "LedgeLevelsModel" "far" "[I", Cond.fieldLink RX8 97 "LedgeLevelsModel" "reached" "[Z", Cond.fieldLink RX8 121 "LedgeLevelsModel" "state" "I", Cond.fieldLink RX8 91 "LedgeLevelsModel" "queue" "[I", Cond.fieldLink RX8 124 "LedgeLevelsModel" "cell" "I", Cond.fieldLink RX8 127 "LedgeLevelsModel" "speed" "I", Cond.fieldLink RX8 118 "LedgeLevelsModel" "taken" "I", Cond.methodLink RX8 138 yX8_starts, Cond.instanceMethod yX8_starts, Cond.selects RX8 yX8_starts yX8_starts, Cond.code yX8_starts cX8_starts 2 none, Cond.methodLink RX8 130 yX8_comes, Cond.instanceMethod yX8_comes, Cond.selects RX8 yX8_comes yX8_comes, Cond.code yX8_comes cX8_comes 3 none, Cond.methodLink RX8 142 yX8_code, Cond.instanceMethod yX8_code, Cond.selects RX8 yX8_code yX8_code, Cond.code yX8_code cX8_code 1 (some .int), Cond.methodLink RX8 146 yX8_moves]
def wsX8_shortest_r3 : List Cond := [Cond.instanceMethod yX8_moves, Cond.selects RX8 yX8_moves yX8_moves, Cond.code yX8_moves cX8_moves 8 none, Cond.fieldLink RX8 7 "LedgeLevelsModel" "strength" "[I", Cond.methodLink RX8 134 yX8_isSolid, Cond.instanceMethod yX8_isSolid, Cond.selects RX8 yX8_isSolid yX8_isSolid, Cond.code yX8_isSolid cX8_isSolid 4 (some .boolean)]
def wsX8_shortest : List Cond := .code yX8_shortest cX8_shortest 4 (some .int) :: ((wsX8_shortest_r1 ++ (wsX8_shortest_r2 ++ wsX8_shortest_r3)) ++ wsX80)
def wsX8_reach_r1 : List Cond := [Cond.fieldLink RX8 101 "LedgeLevelsModel" "thrown" "I", Cond.fieldLink RX8 19 "LedgeLevelsModel" "begins" "[I", Cond.fieldLink RX8 97 "LedgeLevelsModel" "reached" "[Z", Cond.methodLink RX8 161 yX8_isLevel, Cond.instanceMethod yX8_isLevel, Cond.selects RX8 yX8_isLevel yX8_isLevel, Cond.initialized RX8, Cond.code yX8_isLevel cX8_isLevel 2 (some .boolean), Cond.fieldLink RX8 109 "LedgeLevelsModel" "levels" "I", Cond.methodLink RX8 105 yX8_in, Cond.static yX8_in, Cond.code yX8_in cX8_in 3 (some .boolean), Cond.methodLink RX8 153 yX8_fails, Cond.instanceMethod yX8_fails, Cond.selects RX8 yX8_fails yX8_fails, Cond.code yX8_fails cX8_fails 2 (some .int), Cond.methodLink RX8 174 yX8_lays, Cond.instanceMethod yX8_lays, Cond.selects RX8 yX8_lays yX8_lays, Cond.code yX8_lays cX8_lays 4 none, Cond.fieldLink RX8 115 "LedgeLevelsModel" "allKeys" "I", Cond.fieldLink RX8 85 "LedgeLevelsModel" "ground" "[I", Cond.fieldLink RX8 49 "LedgeLevelsModel" "shape" "[I", Cond.fieldLink RX8 16 "LedgeLevelsModel" "grid" "[I"]
def wsX8_reach_r2 : List Cond := [Cond.fieldLink RX8 88 "LedgeLevelsModel" "keyBit" "[I", Cond.methodLink RX8 178 yX8_searches, Cond.instanceMethod yX8_searches, Cond.selects RX8 yX8_searches yX8_searches, Cond.code yX8_searches cX8_searches 6 (some .int), Cond.fieldLink RX8 94 "LedgeLevelsModel" "far" "[I", Cond.fieldLink RX8 121 "LedgeLevelsModel" "state" "I", Cond.fieldLink RX8 91 "LedgeLevelsModel" "queue" "[I", Cond.fieldLink RX8 124 "LedgeLevelsModel" "cell" "I", Cond.fieldLink RX8 127 "LedgeLevelsModel" "speed" "I", Cond.fieldLink RX8 118 "LedgeLevelsModel" "taken" "I", Cond.methodLink RX8 138 yX8_starts, Cond.instanceMethod yX8_starts, Cond.selects RX8 yX8_starts yX8_starts, Cond.code yX8_starts cX8_starts 2 none, Cond.methodLink RX8 130 yX8_comes, Cond.instanceMethod yX8_comes, Cond.selects RX8 yX8_comes yX8_comes, Cond.code yX8_comes cX8_comes 3 none, Cond.methodLink RX8 142 yX8_code, Cond.instanceMethod yX8_code, Cond.selects RX8 yX8_code yX8_code, Cond.code yX8_code cX8_code 1 (some .int), Cond.methodLink RX8 146 yX8_moves]
def wsX8_reach_r3 : List Cond := [Cond.instanceMethod yX8_moves, Cond.selects RX8 yX8_moves yX8_moves, Cond.code yX8_moves cX8_moves 8 none, Cond.fieldLink RX8 7 "LedgeLevelsModel" "strength" "[I", Cond.methodLink RX8 134 yX8_isSolid, Cond.instanceMethod yX8_isSolid, Cond.selects RX8 yX8_isSolid yX8_isSolid, Cond.code yX8_isSolid cX8_isSolid 4 (some .boolean)]
def wsX8_reach : List Cond := .code yX8_reach cX8_reach 5 (some .int) :: ((wsX8_reach_r1 ++ (wsX8_reach_r2 ++ wsX8_reach_r3)) ++ wsX80)
def wsX8_farthest_r1 : List Cond := [Cond.fieldLink RX8 101 "LedgeLevelsModel" "thrown" "I", Cond.fieldLink RX8 19 "LedgeLevelsModel" "begins" "[I", Cond.fieldLink RX8 97 "LedgeLevelsModel" "reached" "[Z", Cond.methodLink RX8 161 yX8_isLevel, Cond.instanceMethod yX8_isLevel, Cond.selects RX8 yX8_isLevel yX8_isLevel, Cond.initialized RX8, Cond.code yX8_isLevel cX8_isLevel 2 (some .boolean), Cond.fieldLink RX8 109 "LedgeLevelsModel" "levels" "I", Cond.methodLink RX8 105 yX8_in, Cond.static yX8_in, Cond.code yX8_in cX8_in 3 (some .boolean), Cond.methodLink RX8 153 yX8_fails, Cond.instanceMethod yX8_fails, Cond.selects RX8 yX8_fails yX8_fails, Cond.code yX8_fails cX8_fails 2 (some .int), Cond.methodLink RX8 174 yX8_lays, Cond.instanceMethod yX8_lays, Cond.selects RX8 yX8_lays yX8_lays, Cond.code yX8_lays cX8_lays 4 none, Cond.fieldLink RX8 115 "LedgeLevelsModel" "allKeys" "I", Cond.fieldLink RX8 85 "LedgeLevelsModel" "ground" "[I", Cond.fieldLink RX8 49 "LedgeLevelsModel" "shape" "[I", Cond.fieldLink RX8 16 "LedgeLevelsModel" "grid" "[I"]
def wsX8_farthest_r2 : List Cond := [Cond.fieldLink RX8 88 "LedgeLevelsModel" "keyBit" "[I", Cond.methodLink RX8 178 yX8_searches, Cond.instanceMethod yX8_searches, Cond.selects RX8 yX8_searches yX8_searches, Cond.code yX8_searches cX8_searches 6 (some .int), Cond.fieldLink RX8 94 "LedgeLevelsModel" "far" "[I", Cond.fieldLink RX8 121 "LedgeLevelsModel" "state" "I", Cond.fieldLink RX8 91 "LedgeLevelsModel" "queue" "[I", Cond.fieldLink RX8 124 "LedgeLevelsModel" "cell" "I", Cond.fieldLink RX8 127 "LedgeLevelsModel" "speed" "I", Cond.fieldLink RX8 118 "LedgeLevelsModel" "taken" "I", Cond.methodLink RX8 138 yX8_starts, Cond.instanceMethod yX8_starts, Cond.selects RX8 yX8_starts yX8_starts, Cond.code yX8_starts cX8_starts 2 none, Cond.methodLink RX8 130 yX8_comes, Cond.instanceMethod yX8_comes, Cond.selects RX8 yX8_comes yX8_comes, Cond.code yX8_comes cX8_comes 3 none, Cond.methodLink RX8 142 yX8_code, Cond.instanceMethod yX8_code, Cond.selects RX8 yX8_code yX8_code, Cond.code yX8_code cX8_code 1 (some .int), Cond.methodLink RX8 146 yX8_moves]
def wsX8_farthest_r3 : List Cond := [Cond.instanceMethod yX8_moves, Cond.selects RX8 yX8_moves yX8_moves, Cond.code yX8_moves cX8_moves 8 none, Cond.fieldLink RX8 7 "LedgeLevelsModel" "strength" "[I", Cond.methodLink RX8 134 yX8_isSolid, Cond.instanceMethod yX8_isSolid, Cond.selects RX8 yX8_isSolid yX8_isSolid, Cond.code yX8_isSolid cX8_isSolid 4 (some .boolean)]
def wsX8_farthest : List Cond := .code yX8_farthest cX8_farthest 5 (some .int) :: ((wsX8_farthest_r1 ++ (wsX8_farthest_r2 ++ wsX8_farthest_r3)) ++ wsX80)
def wsX8_strength : List Cond := .code yX8_strength cX8_strength 2 (some .int) :: ([.fieldLink RX8 101 "LedgeLevelsModel" "thrown" "I", .fieldLink RX8 7 "LedgeLevelsModel" "strength" "[I", .methodLink RX8 105 yX8_in, .static yX8_in, .initialized RX8, .code yX8_in cX8_in 3 (some .boolean), .methodLink RX8 153 yX8_fails, .instanceMethod yX8_fails, .selects RX8 yX8_fails yX8_fails, .code yX8_fails cX8_fails 2 (some .int)] ++ wsX80)
def wsX8_works : List Cond := .code yX8_works cX8_works 1 (some .int) :: ([.fieldLink RX8 101 "LedgeLevelsModel" "thrown" "I", .fieldLink RX8 112 "LedgeLevelsModel" "works" "I"] ++ wsX80)
def wsX8_author : List Cond := .code yX8_author cX8_author 2 (some .int) :: ([.fieldLink RX8 101 "LedgeLevelsModel" "thrown" "I", .fieldLink RX8 46 "LedgeLevelsModel" "author" "[I", .methodLink RX8 190 yX8_isWork, .instanceMethod yX8_isWork, .selects RX8 yX8_isWork yX8_isWork, .initialized RX8, .code yX8_isWork cX8_isWork 2 (some .boolean), .fieldLink RX8 112 "LedgeLevelsModel" "works" "I", .methodLink RX8 105 yX8_in, .static yX8_in, .code yX8_in cX8_in 3 (some .boolean), .methodLink RX8 153 yX8_fails, .instanceMethod yX8_fails, .selects RX8 yX8_fails yX8_fails, .code yX8_fails cX8_fails 2 (some .int)] ++ wsX80)
def wsX8_best : List Cond := .code yX8_best cX8_best 2 (some .int) :: ([.fieldLink RX8 101 "LedgeLevelsModel" "thrown" "I", .fieldLink RX8 55 "LedgeLevelsModel" "best" "[I", .methodLink RX8 190 yX8_isWork, .instanceMethod yX8_isWork, .selects RX8 yX8_isWork yX8_isWork, .initialized RX8, .code yX8_isWork cX8_isWork 2 (some .boolean), .fieldLink RX8 112 "LedgeLevelsModel" "works" "I", .methodLink RX8 105 yX8_in, .static yX8_in, .code yX8_in cX8_in 3 (some .boolean), .methodLink RX8 153 yX8_fails, .instanceMethod yX8_fails, .selects RX8 yX8_fails yX8_fails, .code yX8_fails cX8_fails 2 (some .int)] ++ wsX80)
def wsX8_parent : List Cond := .code yX8_parent cX8_parent 2 (some .int) :: ([.fieldLink RX8 101 "LedgeLevelsModel" "thrown" "I", .fieldLink RX8 58 "LedgeLevelsModel" "parent" "[I", .methodLink RX8 190 yX8_isWork, .instanceMethod yX8_isWork, .selects RX8 yX8_isWork yX8_isWork, .initialized RX8, .code yX8_isWork cX8_isWork 2 (some .boolean), .fieldLink RX8 112 "LedgeLevelsModel" "works" "I", .methodLink RX8 105 yX8_in, .static yX8_in, .code yX8_in cX8_in 3 (some .boolean), .methodLink RX8 153 yX8_fails, .instanceMethod yX8_fails, .selects RX8 yX8_fails yX8_fails, .code yX8_fails cX8_fails 2 (some .int)] ++ wsX80)
def wsX8_isInLine : List Cond := .code yX8_isInLine cX8_isInLine 4 (some .boolean) :: ([.fieldLink RX8 58 "LedgeLevelsModel" "parent" "[I"] ++ wsX80)
def wsX8_line : List Cond := .code yX8_line cX8_line 4 (some .int) :: ([.fieldLink RX8 101 "LedgeLevelsModel" "thrown" "I", .fieldLink RX8 112 "LedgeLevelsModel" "works" "I", .methodLink RX8 190 yX8_isWork, .instanceMethod yX8_isWork, .selects RX8 yX8_isWork yX8_isWork, .initialized RX8, .code yX8_isWork cX8_isWork 2 (some .boolean), .methodLink RX8 105 yX8_in, .static yX8_in, .code yX8_in cX8_in 3 (some .boolean), .methodLink RX8 153 yX8_fails, .instanceMethod yX8_fails, .selects RX8 yX8_fails yX8_fails, .code yX8_fails cX8_fails 2 (some .int), .methodLink RX8 196 yX8_isInLine, .instanceMethod yX8_isInLine, .selects RX8 yX8_isInLine yX8_isInLine, .code yX8_isInLine cX8_isInLine 4 (some .boolean), .fieldLink RX8 58 "LedgeLevelsModel" "parent" "[I"] ++ wsX80)
def wsX8_sumOf : List Cond := .code yX8_sumOf cX8_sumOf 4 (some .int) :: ([.fieldLink RX8 64 "LedgeLevelsModel" "stars" "[I"] ++ wsX80)
def wsX8_stars : List Cond := .code yX8_stars cX8_stars 2 (some .int) :: ([.fieldLink RX8 101 "LedgeLevelsModel" "thrown" "I", .methodLink RX8 190 yX8_isWork, .instanceMethod yX8_isWork, .selects RX8 yX8_isWork yX8_isWork, .initialized RX8, .code yX8_isWork cX8_isWork 2 (some .boolean), .fieldLink RX8 112 "LedgeLevelsModel" "works" "I", .methodLink RX8 105 yX8_in, .static yX8_in, .code yX8_in cX8_in 3 (some .boolean), .methodLink RX8 199 yX8_sumOf, .instanceMethod yX8_sumOf, .selects RX8 yX8_sumOf yX8_sumOf, .code yX8_sumOf cX8_sumOf 4 (some .int), .fieldLink RX8 64 "LedgeLevelsModel" "stars" "[I", .methodLink RX8 153 yX8_fails, .instanceMethod yX8_fails, .selects RX8 yX8_fails yX8_fails, .code yX8_fails cX8_fails 2 (some .int)] ++ wsX80)
def wsX8_credit : List Cond := .code yX8_credit cX8_credit 5 (some .int) :: ([.fieldLink RX8 101 "LedgeLevelsModel" "thrown" "I", .fieldLink RX8 112 "LedgeLevelsModel" "works" "I", .fieldLink RX8 46 "LedgeLevelsModel" "author" "[I", .fieldLink RX8 58 "LedgeLevelsModel" "parent" "[I", .methodLink RX8 149 yX8_isPerson, .static yX8_isPerson, .initialized RX8, .code yX8_isPerson cX8_isPerson 1 (some .boolean), .methodLink RX8 105 yX8_in, .static yX8_in, .code yX8_in cX8_in 3 (some .boolean), .methodLink RX8 153 yX8_fails, .instanceMethod yX8_fails, .selects RX8 yX8_fails yX8_fails, .code yX8_fails cX8_fails 2 (some .int), .methodLink RX8 199 yX8_sumOf, .instanceMethod yX8_sumOf, .selects RX8 yX8_sumOf yX8_sumOf, .code yX8_sumOf cX8_sumOf 4 (some .int), .fieldLink RX8 64 "LedgeLevelsModel" "stars" "[I"] ++ wsX80)
def wsX8_record : List Cond := .code yX8_record cX8_record 2 (some .int) :: ([.fieldLink RX8 101 "LedgeLevelsModel" "thrown" "I", .fieldLink RX8 61 "LedgeLevelsModel" "record" "[I", .methodLink RX8 190 yX8_isWork, .instanceMethod yX8_isWork, .selects RX8 yX8_isWork yX8_isWork, .initialized RX8, .code yX8_isWork cX8_isWork 2 (some .boolean), .fieldLink RX8 112 "LedgeLevelsModel" "works" "I", .methodLink RX8 105 yX8_in, .static yX8_in, .code yX8_in cX8_in 3 (some .boolean), .methodLink RX8 153 yX8_fails, .instanceMethod yX8_fails, .selects RX8 yX8_fails yX8_fails, .code yX8_fails cX8_fails 2 (some .int)] ++ wsX80)
def wsX8_runState : List Cond := .code yX8_runState cX8_runState 2 (some .int) :: ([.fieldLink RX8 101 "LedgeLevelsModel" "thrown" "I", .fieldLink RX8 67 "LedgeLevelsModel" "runState" "[I", .methodLink RX8 149 yX8_isPerson, .static yX8_isPerson, .initialized RX8, .code yX8_isPerson cX8_isPerson 1 (some .boolean), .methodLink RX8 105 yX8_in, .static yX8_in, .code yX8_in cX8_in 3 (some .boolean), .methodLink RX8 153 yX8_fails, .instanceMethod yX8_fails, .selects RX8 yX8_fails yX8_fails, .code yX8_fails cX8_fails 2 (some .int)] ++ wsX80)
def wsX8_body : List Cond := .code yX8_body cX8_body 2 (some .int) :: ([.fieldLink RX8 101 "LedgeLevelsModel" "thrown" "I", .fieldLink RX8 67 "LedgeLevelsModel" "runState" "[I", .fieldLink RX8 73 "LedgeLevelsModel" "runCell" "[I", .methodLink RX8 149 yX8_isPerson, .static yX8_isPerson, .initialized RX8, .code yX8_isPerson cX8_isPerson 1 (some .boolean), .methodLink RX8 105 yX8_in, .static yX8_in, .code yX8_in cX8_in 3 (some .boolean), .methodLink RX8 153 yX8_fails, .instanceMethod yX8_fails, .selects RX8 yX8_fails yX8_fails, .code yX8_fails cX8_fails 2 (some .int)] ++ wsX80)
def wsX8_speed : List Cond := .code yX8_speed cX8_speed 2 (some .int) :: ([.fieldLink RX8 101 "LedgeLevelsModel" "thrown" "I", .fieldLink RX8 76 "LedgeLevelsModel" "runSpeed" "[I", .methodLink RX8 149 yX8_isPerson, .static yX8_isPerson, .initialized RX8, .code yX8_isPerson cX8_isPerson 1 (some .boolean), .methodLink RX8 105 yX8_in, .static yX8_in, .code yX8_in cX8_in 3 (some .boolean), .methodLink RX8 153 yX8_fails, .instanceMethod yX8_fails, .selects RX8 yX8_fails yX8_fails, .code yX8_fails cX8_fails 2 (some .int)] ++ wsX80)
def wsX8_keys : List Cond := .code yX8_keys cX8_keys 2 (some .int) :: ([.fieldLink RX8 101 "LedgeLevelsModel" "thrown" "I", .fieldLink RX8 79 "LedgeLevelsModel" "runTaken" "[I", .methodLink RX8 149 yX8_isPerson, .static yX8_isPerson, .initialized RX8, .code yX8_isPerson cX8_isPerson 1 (some .boolean), .methodLink RX8 105 yX8_in, .static yX8_in, .code yX8_in cX8_in 3 (some .boolean), .methodLink RX8 153 yX8_fails, .instanceMethod yX8_fails, .selects RX8 yX8_fails yX8_fails, .code yX8_fails cX8_fails 2 (some .int)] ++ wsX80)
def wsX8_stepsOf : List Cond := .code yX8_stepsOf cX8_stepsOf 2 (some .int) :: ([.fieldLink RX8 101 "LedgeLevelsModel" "thrown" "I", .fieldLink RX8 82 "LedgeLevelsModel" "runSteps" "[I", .methodLink RX8 149 yX8_isPerson, .static yX8_isPerson, .initialized RX8, .code yX8_isPerson cX8_isPerson 1 (some .boolean), .methodLink RX8 105 yX8_in, .static yX8_in, .code yX8_in cX8_in 3 (some .boolean), .methodLink RX8 153 yX8_fails, .instanceMethod yX8_fails, .selects RX8 yX8_fails yX8_fails, .code yX8_fails cX8_fails 2 (some .int)] ++ wsX80)
def wsL_begin_r1 : List Cond := [Cond.classLink RL 13 "java/lang/IndexOutOfBoundsException", Cond.classLink RL 15 "java/lang/IllegalStateException", Cond.methodLink RL 7 yX7_begin, Cond.instanceMethod yX7_begin, Cond.selects RX7 yX7_begin yX7_begin, Cond.initialized RX7, Cond.code yX7_begin cX7_begin 4 (some .int), Cond.fieldLink RX7 40 "LedgeLevels" "levelCount" "I", Cond.methodLink RX7 48 yX7_checkPerson, Cond.static yX7_checkPerson, Cond.code yX7_checkPerson cX7_checkPerson 1 none, Cond.classLink RX7 267 "java/lang/IndexOutOfBoundsException", Cond.initialized "java/lang/IndexOutOfBoundsException", Cond.methodLink RX7 52 yX7_addLevel, Cond.instanceMethod yX7_addLevel, Cond.selects RX7 yX7_addLevel yX7_addLevel, Cond.code yX7_addLevel cX7_addLevel 4 (some (.object "LedgeLevels$Level")), Cond.classLink RX7 88 "java/lang/IllegalStateException", Cond.initialized "java/lang/IllegalStateException", Cond.fieldLink RX7 15 "LedgeLevels" "levels" "[LLedgeLevels$Level;", Cond.classLink RX7 13 RX3, Cond.instantiable RX3 6, Cond.initialized RX3, Cond.methodLink RX7 287 yX3_init]
def wsL_begin_r2 : List Cond := [Cond.instanceMethod yX3_init, Cond.code yX3_init cX3_init 3 none, Cond.methodLink RX3 3 objectInit, Cond.instanceMethod objectInit, Cond.code objectInit ⟨#[0xb1]⟩ 1 none, Cond.classLink RX3 9 RX1, Cond.instantiable RX1 3, Cond.initialized RX1, Cond.fieldLink RX3 12 "LedgeLevels$Level" "grid" "LLedgeLevels$Grid;", Cond.classLink RX3 18 RX2, Cond.instantiable RX2 5, Cond.initialized RX2, Cond.fieldLink RX3 21 "LedgeLevels$Level" "history" "LLedgeLevels$History;", Cond.fieldLink RX3 25 "LedgeLevels$Level" "start" "I", Cond.fieldLink RX3 29 "LedgeLevels$Level" "proof" "I", Cond.fieldLink RX3 32 "LedgeLevels$Level" "author" "I", Cond.fieldLink RX3 35 "LedgeLevels$Level" "parent" "LLedgeLevels$Work;", Cond.instanceMethod yX1_init, Cond.code yX1_init cX1_init 1 none, Cond.methodLink RX1 3 objectInit, Cond.arrayClass .int, Cond.fieldLink RX1 9 "LedgeLevels$Grid" "kinds" "[I", Cond.fieldLink RX1 15 "LedgeLevels$Grid" "keyCells" "[I", Cond.fieldLink RX1 18 "LedgeLevels$Grid" "allKeys" "I"]
def wsL_begin_r3 : List Cond := [Cond.instanceMethod yX2_init, Cond.code yX2_init cX2_init 1 none, Cond.methodLink RX2 3 objectInit, Cond.fieldLink RX2 9 "LedgeLevels$History" "cells" "[I", Cond.fieldLink RX2 15 "LedgeLevels$History" "kindsBefore" "[I", Cond.fieldLink RX2 18 "LedgeLevels$History" "kindsAfter" "[I", Cond.fieldLink RX2 21 "LedgeLevels$History" "done" "I", Cond.fieldLink RX2 25 "LedgeLevels$History" "undone" "I", Cond.methodLink RX7 60 yX1_put, Cond.instanceMethod yX1_put, Cond.selects RX1 yX1_put yX1_put, Cond.code yX1_put cX1_put 3 none, Cond.static yX7_isCell, Cond.code yX7_isCell cX7_isCell 1 (some .boolean), Cond.methodLink RX1 26 yX1_changeKey, Cond.instanceMethod yX1_changeKey, Cond.selects RX1 yX1_changeKey yX1_changeKey, Cond.code yX1_changeKey cX1_changeKey 4 none]
def wsL_begin : List Cond := .codeWith yL_begin cL_begin 4 (some .int) [(0, 9, 12, 13), (0, 9, 15, 15)] :: ((wsL_begin_r1 ++ (wsL_begin_r2 ++ wsL_begin_r3)) ++ wsX30 ++ wsX70 ++ wsX10 ++ wsX20 ++ (vx_atS RX7 271 "java/lang/IndexOutOfBoundsException" ["java/lang/RuntimeException", "java/lang/Exception"]).filter goodWord ++ (vx_atS RX7 92 "java/lang/IllegalStateException" ["java/lang/RuntimeException", "java/lang/Exception"]).filter goodWord)
def wsL_set_r1 : List Cond := [Cond.classLink RL 13 "java/lang/IndexOutOfBoundsException", Cond.classLink RL 21 "java/lang/IllegalArgumentException", Cond.classLink RL 15 "java/lang/IllegalStateException", Cond.methodLink RL 17 yX7_set, Cond.instanceMethod yX7_set, Cond.selects RX7 yX7_set yX7_set, Cond.initialized RX7, Cond.code yX7_set cX7_set 6 (some .int), Cond.classLink RX7 73 "java/lang/IllegalArgumentException", Cond.initialized "java/lang/IllegalArgumentException", Cond.classLink RX7 88 "java/lang/IllegalStateException", Cond.initialized "java/lang/IllegalStateException", Cond.methodLink RX7 66 yX7_levelOf, Cond.instanceMethod yX7_levelOf, Cond.selects RX7 yX7_levelOf yX7_levelOf, Cond.code yX7_levelOf cX7_levelOf 3 (some (.object "LedgeLevels$Level")), Cond.classLink RX7 267 "java/lang/IndexOutOfBoundsException", Cond.initialized "java/lang/IndexOutOfBoundsException", Cond.fieldLink RX7 15 "LedgeLevels" "levels" "[LLedgeLevels$Level;", Cond.methodLink RX7 70 yX7_checkCell, Cond.static yX7_checkCell, Cond.code yX7_checkCell cX7_checkCell 1 none, Cond.methodLink RX7 272 yX7_isCell, Cond.static yX7_isCell]
def wsL_set_r2 : List Cond := [Cond.code yX7_isCell cX7_isCell 1 (some .boolean), Cond.methodLink RX7 80 yX1_kindAt, Cond.instanceMethod yX1_kindAt, Cond.selects RX1 yX1_kindAt yX1_kindAt, Cond.initialized RX1, Cond.code yX1_kindAt cX1_kindAt 2 (some .int), Cond.fieldLink RX1 9 "LedgeLevels$Grid" "kinds" "[I", Cond.methodLink RX7 84 yX1_keyCount, Cond.instanceMethod yX1_keyCount, Cond.selects RX1 yX1_keyCount yX1_keyCount, Cond.code yX1_keyCount cX1_keyCount 1 (some .int), Cond.fieldLink RX1 18 "LedgeLevels$Grid" "allKeys" "I", Cond.methodLink RX1 37 yJ6_bitCount_0f7a4, Cond.static yJ6_bitCount_0f7a4, Cond.initialized RJ6, Cond.code yJ6_bitCount_0f7a4 cJ6_bitCount_0f7a4 1 (some .int), Cond.constant RJ6 265 (1431655765), Cond.constant RJ6 266 (858993459), Cond.constant RJ6 267 (252645135), Cond.methodLink RX7 97 yX2_remember, Cond.instanceMethod yX2_remember, Cond.selects RX2 yX2_remember yX2_remember, Cond.initialized RX2, Cond.code yX2_remember cX2_remember 4 none]
def wsL_set_r3 : List Cond := [Cond.fieldLink RX2 21 "LedgeLevels$History" "done" "I", Cond.fieldLink RX2 9 "LedgeLevels$History" "cells" "[I", Cond.fieldLink RX2 15 "LedgeLevels$History" "kindsBefore" "[I", Cond.fieldLink RX2 18 "LedgeLevels$History" "kindsAfter" "[I", Cond.fieldLink RX2 25 "LedgeLevels$History" "undone" "I", Cond.methodLink RX2 28 yX2_forgetEarliest, Cond.instanceMethod yX2_forgetEarliest, Cond.selects RX2 yX2_forgetEarliest yX2_forgetEarliest, Cond.code yX2_forgetEarliest cX2_forgetEarliest 2 none, Cond.methodLink RX7 103 yX3_putAnew, Cond.instanceMethod yX3_putAnew, Cond.selects RX3 yX3_putAnew yX3_putAnew, Cond.initialized RX3, Cond.code yX3_putAnew cX3_putAnew 3 none, Cond.fieldLink RX3 12 "LedgeLevels$Level" "grid" "LLedgeLevels$Grid;", Cond.fieldLink RX3 29 "LedgeLevels$Level" "proof" "I", Cond.methodLink RX3 39 yX1_put, Cond.instanceMethod yX1_put, Cond.selects RX1 yX1_put yX1_put, Cond.code yX1_put cX1_put 3 none, Cond.methodLink RX1 26 yX1_changeKey, Cond.instanceMethod yX1_changeKey, Cond.selects RX1 yX1_changeKey yX1_changeKey, Cond.code yX1_changeKey cX1_changeKey 4 none]
def wsL_set_r4 : List Cond := [Cond.fieldLink RX1 15 "LedgeLevels$Grid" "keyCells" "[I"]
def wsL_set : List Cond := .codeWith yL_set cL_set 6 (some .int) [(0, 12, 15, 13), (0, 12, 19, 21), (0, 12, 23, 15)] :: ((wsL_set_r1 ++ (wsL_set_r2 ++ (wsL_set_r3 ++ wsL_set_r4))) ++ wsX30 ++ wsX70 ++ wsX10 ++ wsX20 ++ (vx_atS RX7 77 "java/lang/IllegalArgumentException" ["java/lang/RuntimeException", "java/lang/Exception"]).filter goodWord ++ (vx_atS RX7 92 "java/lang/IllegalStateException" ["java/lang/RuntimeException", "java/lang/Exception"]).filter goodWord ++ (vx_atS RX7 271 "java/lang/IndexOutOfBoundsException" ["java/lang/RuntimeException", "java/lang/Exception"]).filter goodWord)
def wsL_setStart : List Cond := .codeWith yL_setStart cL_setStart 5 (some .int) [(0, 10, 13, 13)] :: ([.classLink RL 13 "java/lang/IndexOutOfBoundsException", .methodLink RL 23 yX7_setStart, .instanceMethod yX7_setStart, .selects RX7 yX7_setStart yX7_setStart, .initialized RX7, .code yX7_setStart cX7_setStart 5 (some .int), .methodLink RX7 66 yX7_levelOf, .instanceMethod yX7_levelOf, .selects RX7 yX7_levelOf yX7_levelOf, .code yX7_levelOf cX7_levelOf 3 (some (.object "LedgeLevels$Level")), .classLink RX7 267 "java/lang/IndexOutOfBoundsException", .initialized "java/lang/IndexOutOfBoundsException", .fieldLink RX7 15 "LedgeLevels" "levels" "[LLedgeLevels$Level;", .methodLink RX7 70 yX7_checkCell, .static yX7_checkCell, .code yX7_checkCell cX7_checkCell 1 none, .methodLink RX7 272 yX7_isCell, .static yX7_isCell, .code yX7_isCell cX7_isCell 1 (some .boolean)] ++ wsX30 ++ wsX70 ++ (vx_atS RX7 271 "java/lang/IndexOutOfBoundsException" ["java/lang/RuntimeException", "java/lang/Exception"]).filter goodWord)
def wsL_undo_r1 : List Cond := [Cond.classLink RL 13 "java/lang/IndexOutOfBoundsException", Cond.classLink RL 15 "java/lang/IllegalStateException", Cond.methodLink RL 27 yX7_undo, Cond.instanceMethod yX7_undo, Cond.selects RX7 yX7_undo yX7_undo, Cond.initialized RX7, Cond.code yX7_undo cX7_undo 5 (some .int), Cond.classLink RX7 88 "java/lang/IllegalStateException", Cond.initialized "java/lang/IllegalStateException", Cond.methodLink RX7 66 yX7_levelOf, Cond.instanceMethod yX7_levelOf, Cond.selects RX7 yX7_levelOf yX7_levelOf, Cond.code yX7_levelOf cX7_levelOf 3 (some (.object "LedgeLevels$Level")), Cond.classLink RX7 267 "java/lang/IndexOutOfBoundsException", Cond.initialized "java/lang/IndexOutOfBoundsException", Cond.fieldLink RX7 15 "LedgeLevels" "levels" "[LLedgeLevels$Level;", Cond.methodLink RX7 117 yX2_stepBack, Cond.instanceMethod yX2_stepBack, Cond.selects RX2 yX2_stepBack yX2_stepBack, Cond.initialized RX2, Cond.code yX2_stepBack cX2_stepBack 1 none, Cond.fieldLink RX2 21 "LedgeLevels$History" "done" "I", Cond.fieldLink RX2 25 "LedgeLevels$History" "undone" "I", Cond.methodLink RX7 120 yX2_cellOfNext]
def wsL_undo_r2 : List Cond := [Cond.instanceMethod yX2_cellOfNext, Cond.selects RX2 yX2_cellOfNext yX2_cellOfNext, Cond.code yX2_cellOfNext cX2_cellOfNext 1 (some .int), Cond.fieldLink RX2 9 "LedgeLevels$History" "cells" "[I", Cond.methodLink RX2 31 yX2_hasNext, Cond.instanceMethod yX2_hasNext, Cond.selects RX2 yX2_hasNext yX2_hasNext, Cond.code yX2_hasNext cX2_hasNext 1 (some .boolean), Cond.methodLink RX7 123 yX2_kindBeforeNext, Cond.instanceMethod yX2_kindBeforeNext, Cond.selects RX2 yX2_kindBeforeNext yX2_kindBeforeNext, Cond.code yX2_kindBeforeNext cX2_kindBeforeNext 1 (some .int), Cond.fieldLink RX2 15 "LedgeLevels$History" "kindsBefore" "[I", Cond.methodLink RX7 103 yX3_putAnew, Cond.instanceMethod yX3_putAnew, Cond.selects RX3 yX3_putAnew yX3_putAnew, Cond.initialized RX3, Cond.code yX3_putAnew cX3_putAnew 3 none, Cond.fieldLink RX3 12 "LedgeLevels$Level" "grid" "LLedgeLevels$Grid;", Cond.fieldLink RX3 29 "LedgeLevels$Level" "proof" "I", Cond.methodLink RX3 39 yX1_put, Cond.instanceMethod yX1_put, Cond.selects RX1 yX1_put yX1_put, Cond.initialized RX1]
def wsL_undo_r3 : List Cond := [Cond.code yX1_put cX1_put 3 none, Cond.fieldLink RX1 9 "LedgeLevels$Grid" "kinds" "[I", Cond.static yX7_isCell, Cond.code yX7_isCell cX7_isCell 1 (some .boolean), Cond.methodLink RX1 26 yX1_changeKey, Cond.instanceMethod yX1_changeKey, Cond.selects RX1 yX1_changeKey yX1_changeKey, Cond.code yX1_changeKey cX1_changeKey 4 none, Cond.fieldLink RX1 15 "LedgeLevels$Grid" "keyCells" "[I", Cond.fieldLink RX1 18 "LedgeLevels$Grid" "allKeys" "I"]
def wsL_undo : List Cond := .codeWith yL_undo cL_undo 4 (some .int) [(0, 9, 12, 13), (0, 9, 15, 15)] :: ((wsL_undo_r1 ++ (wsL_undo_r2 ++ wsL_undo_r3)) ++ wsX30 ++ wsX20 ++ wsX70 ++ wsX10 ++ (vx_atS RX7 92 "java/lang/IllegalStateException" ["java/lang/RuntimeException", "java/lang/Exception"]).filter goodWord ++ (vx_atS RX7 271 "java/lang/IndexOutOfBoundsException" ["java/lang/RuntimeException", "java/lang/Exception"]).filter goodWord)
def wsL_redo_r1 : List Cond := [Cond.classLink RL 13 "java/lang/IndexOutOfBoundsException", Cond.classLink RL 15 "java/lang/IllegalStateException", Cond.methodLink RL 30 yX7_redo, Cond.instanceMethod yX7_redo, Cond.selects RX7 yX7_redo yX7_redo, Cond.initialized RX7, Cond.code yX7_redo cX7_redo 5 (some .int), Cond.classLink RX7 88 "java/lang/IllegalStateException", Cond.initialized "java/lang/IllegalStateException", Cond.methodLink RX7 66 yX7_levelOf, Cond.instanceMethod yX7_levelOf, Cond.selects RX7 yX7_levelOf yX7_levelOf, Cond.code yX7_levelOf cX7_levelOf 3 (some (.object "LedgeLevels$Level")), Cond.classLink RX7 267 "java/lang/IndexOutOfBoundsException", Cond.initialized "java/lang/IndexOutOfBoundsException", Cond.fieldLink RX7 15 "LedgeLevels" "levels" "[LLedgeLevels$Level;", Cond.methodLink RX7 120 yX2_cellOfNext, Cond.instanceMethod yX2_cellOfNext, Cond.selects RX2 yX2_cellOfNext yX2_cellOfNext, Cond.initialized RX2, Cond.code yX2_cellOfNext cX2_cellOfNext 1 (some .int), Cond.fieldLink RX2 9 "LedgeLevels$History" "cells" "[I", Cond.fieldLink RX2 21 "LedgeLevels$History" "done" "I", Cond.methodLink RX2 31 yX2_hasNext]
def wsL_redo_r2 : List Cond := [Cond.instanceMethod yX2_hasNext, Cond.selects RX2 yX2_hasNext yX2_hasNext, Cond.code yX2_hasNext cX2_hasNext 1 (some .boolean), Cond.methodLink RX7 131 yX2_kindAfterNext, Cond.instanceMethod yX2_kindAfterNext, Cond.selects RX2 yX2_kindAfterNext yX2_kindAfterNext, Cond.code yX2_kindAfterNext cX2_kindAfterNext 1 (some .int), Cond.fieldLink RX2 18 "LedgeLevels$History" "kindsAfter" "[I", Cond.methodLink RX7 103 yX3_putAnew, Cond.instanceMethod yX3_putAnew, Cond.selects RX3 yX3_putAnew yX3_putAnew, Cond.initialized RX3, Cond.code yX3_putAnew cX3_putAnew 3 none, Cond.fieldLink RX3 12 "LedgeLevels$Level" "grid" "LLedgeLevels$Grid;", Cond.fieldLink RX3 29 "LedgeLevels$Level" "proof" "I", Cond.methodLink RX3 39 yX1_put, Cond.instanceMethod yX1_put, Cond.selects RX1 yX1_put yX1_put, Cond.initialized RX1, Cond.code yX1_put cX1_put 3 none, Cond.fieldLink RX1 9 "LedgeLevels$Grid" "kinds" "[I", Cond.static yX7_isCell, Cond.code yX7_isCell cX7_isCell 1 (some .boolean), Cond.methodLink RX1 26 yX1_changeKey]
def wsL_redo_r3 : List Cond := [Cond.instanceMethod yX1_changeKey, Cond.selects RX1 yX1_changeKey yX1_changeKey, Cond.code yX1_changeKey cX1_changeKey 4 none, Cond.fieldLink RX1 15 "LedgeLevels$Grid" "keyCells" "[I", Cond.fieldLink RX1 18 "LedgeLevels$Grid" "allKeys" "I", Cond.methodLink RX7 134 yX2_stepOn, Cond.instanceMethod yX2_stepOn, Cond.selects RX2 yX2_stepOn yX2_stepOn, Cond.code yX2_stepOn cX2_stepOn 1 none, Cond.fieldLink RX2 25 "LedgeLevels$History" "undone" "I"]
def wsL_redo : List Cond := .codeWith yL_redo cL_redo 4 (some .int) [(0, 9, 12, 13), (0, 9, 15, 15)] :: ((wsL_redo_r1 ++ (wsL_redo_r2 ++ wsL_redo_r3)) ++ wsX30 ++ wsX20 ++ wsX70 ++ wsX10 ++ (vx_atS RX7 92 "java/lang/IllegalStateException" ["java/lang/RuntimeException", "java/lang/Exception"]).filter goodWord ++ (vx_atS RX7 271 "java/lang/IndexOutOfBoundsException" ["java/lang/RuntimeException", "java/lang/Exception"]).filter goodWord)
def wsL_setSpring_r1 : List Cond := [Cond.classLink RL 13 "java/lang/IndexOutOfBoundsException", Cond.classLink RL 21 "java/lang/IllegalArgumentException", Cond.methodLink RL 33 yX7_setSpring, Cond.instanceMethod yX7_setSpring, Cond.selects RX7 yX7_setSpring yX7_setSpring, Cond.initialized RX7, Cond.code yX7_setSpring cX7_setSpring 5 (some .int), Cond.classLink RX7 73 "java/lang/IllegalArgumentException", Cond.initialized "java/lang/IllegalArgumentException", Cond.fieldLink RX7 7 "LedgeLevels" "strengths" "[I", Cond.fieldLink RX7 44 "LedgeLevels" "workCount" "I", Cond.fieldLink RX7 36 "LedgeLevels" "search" "LLedgeLevels$Search;", Cond.methodLink RX7 137 yX7_checkSpring, Cond.static yX7_checkSpring, Cond.code yX7_checkSpring cX7_checkSpring 1 none, Cond.classLink RX7 267 "java/lang/IndexOutOfBoundsException", Cond.initialized "java/lang/IndexOutOfBoundsException", Cond.methodLink RX7 142 yX7_workOf, Cond.instanceMethod yX7_workOf, Cond.selects RX7 yX7_workOf yX7_workOf, Cond.code yX7_workOf cX7_workOf 3 (some (.object "LedgeLevels$Work")), Cond.fieldLink RX7 21 "LedgeLevels" "works" "[LLedgeLevels$Work;", Cond.methodLink RX7 147 yX1_has, Cond.instanceMethod yX1_has]
def wsL_setSpring_r2 : List Cond := [Cond.selects RX1 yX1_has yX1_has, Cond.initialized RX1, Cond.code yX1_has cX1_has 3 (some .boolean), Cond.fieldLink RX1 9 "LedgeLevels$Grid" "kinds" "[I", Cond.methodLink RX7 152 yX5_explore, Cond.instanceMethod yX5_explore, Cond.selects RX5 yX5_explore yX5_explore, Cond.initialized RX5, Cond.code yX5_explore cX5_explore 8 (some .int), Cond.fieldLink RX5 37 "LedgeLevels$Search" "body" "LLedgeLevels$Body;", Cond.fieldLink RX5 26 "LedgeLevels$Search" "tail" "I", Cond.fieldLink RX5 29 "LedgeLevels$Search" "won" "I", Cond.methodLink RX5 41 yX5_restart, Cond.instanceMethod yX5_restart, Cond.selects RX5 yX5_restart yX5_restart, Cond.code yX5_restart cX5_restart 2 none, Cond.fieldLink RX5 22 "LedgeLevels$Search" "number" "I", Cond.fieldLink RX5 18 "LedgeLevels$Search" "reached" "[Z", Cond.methodLink RX5 44 yX0_placeAtStart, Cond.instanceMethod yX0_placeAtStart, Cond.selects RX0 yX0_placeAtStart yX0_placeAtStart, Cond.initialized RX0, Cond.code yX0_placeAtStart cX0_placeAtStart 3 none, Cond.fieldLink RX0 15 "LedgeLevels$Body" "speed" "I"]
def wsL_setSpring_r3 : List Cond := [Cond.fieldLink RX0 18 "LedgeLevels$Body" "taken" "I", Cond.fieldLink RX0 21 "LedgeLevels$Body" "fate" "I", Cond.methodLink RX0 28 yX0_comeTo, Cond.instanceMethod yX0_comeTo, Cond.selects RX0 yX0_comeTo yX0_comeTo, Cond.code yX0_comeTo cX0_comeTo 4 none, Cond.fieldLink RX0 9 "LedgeLevels$Body" "cell" "I", Cond.static yX7_isCell, Cond.code yX7_isCell cX7_isCell 1 (some .boolean), Cond.methodLink RX0 47 yX1_kindAt, Cond.instanceMethod yX1_kindAt, Cond.selects RX1 yX1_kindAt yX1_kindAt, Cond.code yX1_kindAt cX1_kindAt 2 (some .int), Cond.methodLink RX0 63 yX1_keyBit, Cond.instanceMethod yX1_keyBit, Cond.selects RX1 yX1_keyBit yX1_keyBit, Cond.code yX1_keyBit cX1_keyBit 3 (some .int), Cond.fieldLink RX1 15 "LedgeLevels$Grid" "keyCells" "[I", Cond.methodLink RX5 48 yX5_noteBody, Cond.instanceMethod yX5_noteBody, Cond.selects RX5 yX5_noteBody yX5_noteBody, Cond.code yX5_noteBody cX5_noteBody 2 none, Cond.methodLink RX5 80 yX0_packed, Cond.instanceMethod yX0_packed]
def wsL_setSpring_r4 : List Cond := [Cond.selects RX0 yX0_packed yX0_packed, Cond.code yX0_packed cX0_packed 1 (some .int), Cond.methodLink RX5 84 yX5_enqueueNew, Cond.instanceMethod yX5_enqueueNew, Cond.selects RX5 yX5_enqueueNew yX5_enqueueNew, Cond.code yX5_enqueueNew cX5_enqueueNew 2 none, Cond.fieldLink RX5 15 "LedgeLevels$Search" "seenIn" "[I", Cond.methodLink RX5 87 yX5_enqueue, Cond.instanceMethod yX5_enqueue, Cond.selects RX5 yX5_enqueue yX5_enqueue, Cond.code yX5_enqueue cX5_enqueue 2 none, Cond.fieldLink RX5 9 "LedgeLevels$Search" "queue" "[I", Cond.methodLink RX5 52 yX5_queuedAt, Cond.instanceMethod yX5_queuedAt, Cond.selects RX5 yX5_queuedAt yX5_queuedAt, Cond.code yX5_queuedAt cX5_queuedAt 2 (some .int), Cond.methodLink RX5 56 yX5_tryInputsFrom, Cond.instanceMethod yX5_tryInputsFrom, Cond.selects RX5 yX5_tryInputsFrom yX5_tryInputsFrom, Cond.code yX5_tryInputsFrom cX5_tryInputsFrom 6 none, Cond.methodLink RX5 60 yX0_unpack, Cond.instanceMethod yX0_unpack, Cond.selects RX0 yX0_unpack yX0_unpack, Cond.code yX0_unpack cX0_unpack 2 none]
def wsL_setSpring_r5 : List Cond := [Cond.methodLink RX5 63 yX0_stands, Cond.instanceMethod yX0_stands, Cond.selects RX0 yX0_stands yX0_stands, Cond.code yX0_stands cX0_stands 2 (some .boolean), Cond.methodLink RX0 32 yX0_isSolidIn, Cond.instanceMethod yX0_isSolidIn, Cond.selects RX0 yX0_isSolidIn yX0_isSolidIn, Cond.code yX0_isSolidIn cX0_isSolidIn 4 (some .boolean), Cond.methodLink RX5 67 yX0_move, Cond.instanceMethod yX0_move, Cond.selects RX0 yX0_move yX0_move, Cond.code yX0_move cX0_move 3 none, Cond.methodLink RX0 36 yX0_stands, Cond.methodLink RX0 40 yX0_goSideways, Cond.instanceMethod yX0_goSideways, Cond.selects RX0 yX0_goSideways yX0_goSideways, Cond.code yX0_goSideways cX0_goSideways 5 none, Cond.methodLink RX0 43 yX0_goUpOrDown, Cond.instanceMethod yX0_goUpOrDown, Cond.selects RX0 yX0_goUpOrDown yX0_goUpOrDown, Cond.code yX0_goUpOrDown cX0_goUpOrDown 5 none, Cond.methodLink RX0 53 yX0_strengthOf, Cond.instanceMethod yX0_strengthOf, Cond.selects RX0 yX0_strengthOf yX0_strengthOf]
def wsL_setSpring_r6 : List Cond := [Cond.code yX0_strengthOf cX0_strengthOf 3 (some .int), Cond.fieldLink RX0 24 "LedgeLevels$Body" "strengths" "[I", Cond.methodLink RX7 159 yX7_endRunsIfWithdrawn, Cond.instanceMethod yX7_endRunsIfWithdrawn, Cond.selects RX7 yX7_endRunsIfWithdrawn yX7_endRunsIfWithdrawn, Cond.code yX7_endRunsIfWithdrawn cX7_endRunsIfWithdrawn 4 none, Cond.methodLink RX7 190 yX7_runOf, Cond.instanceMethod yX7_runOf, Cond.selects RX7 yX7_runOf yX7_runOf, Cond.code yX7_runOf cX7_runOf 3 (some (.object "LedgeLevels$Run")), Cond.fieldLink RX7 27 "LedgeLevels" "runs" "[LLedgeLevels$Run;", Cond.methodLink RX7 163 yX7_voidProofsWith, Cond.instanceMethod yX7_voidProofsWith, Cond.selects RX7 yX7_voidProofsWith yX7_voidProofsWith, Cond.code yX7_voidProofsWith cX7_voidProofsWith 5 (some .int), Cond.fieldLink RX7 40 "LedgeLevels" "levelCount" "I", Cond.methodLink RX7 66 yX7_levelOf, Cond.instanceMethod yX7_levelOf, Cond.selects RX7 yX7_levelOf yX7_levelOf, Cond.code yX7_levelOf cX7_levelOf 3 (some (.object "LedgeLevels$Level")), Cond.fieldLink RX7 15 "LedgeLevels" "levels" "[LLedgeLevels$Level;"]
def wsL_setSpring : List Cond := .codeWith yL_setSpring cL_setSpring 5 (some .int) [(0, 10, 13, 13), (0, 10, 17, 21)] :: ((wsL_setSpring_r1 ++ (wsL_setSpring_r2 ++ (wsL_setSpring_r3 ++ (wsL_setSpring_r4 ++ (wsL_setSpring_r5 ++ wsL_setSpring_r6))))) ++ wsX70 ++ wsX60 ++ wsX10 ++ wsX50 ++ wsX00 ++ wsX40 ++ wsX30 ++ (vx_atS RX7 77 "java/lang/IllegalArgumentException" ["java/lang/RuntimeException", "java/lang/Exception"]).filter goodWord ++ (vx_atS RX7 271 "java/lang/IndexOutOfBoundsException" ["java/lang/RuntimeException", "java/lang/Exception"]).filter goodWord)
def wsL_prove_r1 : List Cond := [Cond.classLink RL 13 "java/lang/IndexOutOfBoundsException", Cond.methodLink RL 36 yX7_prove, Cond.instanceMethod yX7_prove, Cond.selects RX7 yX7_prove yX7_prove, Cond.initialized RX7, Cond.code yX7_prove cX7_prove 3 (some .int), Cond.fieldLink RX7 36 "LedgeLevels" "search" "LLedgeLevels$Search;", Cond.methodLink RX7 66 yX7_levelOf, Cond.instanceMethod yX7_levelOf, Cond.selects RX7 yX7_levelOf yX7_levelOf, Cond.code yX7_levelOf cX7_levelOf 3 (some (.object "LedgeLevels$Level")), Cond.classLink RX7 267 "java/lang/IndexOutOfBoundsException", Cond.initialized "java/lang/IndexOutOfBoundsException", Cond.fieldLink RX7 15 "LedgeLevels" "levels" "[LLedgeLevels$Level;", Cond.methodLink RX7 152 yX5_explore, Cond.instanceMethod yX5_explore, Cond.selects RX5 yX5_explore yX5_explore, Cond.initialized RX5, Cond.code yX5_explore cX5_explore 8 (some .int), Cond.fieldLink RX5 37 "LedgeLevels$Search" "body" "LLedgeLevels$Body;", Cond.fieldLink RX5 26 "LedgeLevels$Search" "tail" "I", Cond.fieldLink RX5 29 "LedgeLevels$Search" "won" "I", Cond.methodLink RX5 41 yX5_restart, Cond.instanceMethod yX5_restart]
def wsL_prove_r2 : List Cond := [Cond.selects RX5 yX5_restart yX5_restart, Cond.code yX5_restart cX5_restart 2 none, Cond.fieldLink RX5 22 "LedgeLevels$Search" "number" "I", Cond.fieldLink RX5 18 "LedgeLevels$Search" "reached" "[Z", Cond.methodLink RX5 44 yX0_placeAtStart, Cond.instanceMethod yX0_placeAtStart, Cond.selects RX0 yX0_placeAtStart yX0_placeAtStart, Cond.initialized RX0, Cond.code yX0_placeAtStart cX0_placeAtStart 3 none, Cond.fieldLink RX0 15 "LedgeLevels$Body" "speed" "I", Cond.fieldLink RX0 18 "LedgeLevels$Body" "taken" "I", Cond.fieldLink RX0 21 "LedgeLevels$Body" "fate" "I", Cond.methodLink RX0 28 yX0_comeTo, Cond.instanceMethod yX0_comeTo, Cond.selects RX0 yX0_comeTo yX0_comeTo, Cond.code yX0_comeTo cX0_comeTo 4 none, Cond.fieldLink RX0 9 "LedgeLevels$Body" "cell" "I", Cond.static yX7_isCell, Cond.code yX7_isCell cX7_isCell 1 (some .boolean), Cond.methodLink RX0 47 yX1_kindAt, Cond.instanceMethod yX1_kindAt, Cond.selects RX1 yX1_kindAt yX1_kindAt, Cond.initialized RX1, Cond.code yX1_kindAt cX1_kindAt 2 (some .int)]
def wsL_prove_r3 : List Cond := [Cond.fieldLink RX1 9 "LedgeLevels$Grid" "kinds" "[I", Cond.methodLink RX0 63 yX1_keyBit, Cond.instanceMethod yX1_keyBit, Cond.selects RX1 yX1_keyBit yX1_keyBit, Cond.code yX1_keyBit cX1_keyBit 3 (some .int), Cond.fieldLink RX1 15 "LedgeLevels$Grid" "keyCells" "[I", Cond.methodLink RX5 48 yX5_noteBody, Cond.instanceMethod yX5_noteBody, Cond.selects RX5 yX5_noteBody yX5_noteBody, Cond.code yX5_noteBody cX5_noteBody 2 none, Cond.methodLink RX5 80 yX0_packed, Cond.instanceMethod yX0_packed, Cond.selects RX0 yX0_packed yX0_packed, Cond.code yX0_packed cX0_packed 1 (some .int), Cond.methodLink RX5 84 yX5_enqueueNew, Cond.instanceMethod yX5_enqueueNew, Cond.selects RX5 yX5_enqueueNew yX5_enqueueNew, Cond.code yX5_enqueueNew cX5_enqueueNew 2 none, Cond.fieldLink RX5 15 "LedgeLevels$Search" "seenIn" "[I", Cond.methodLink RX5 87 yX5_enqueue, Cond.instanceMethod yX5_enqueue, Cond.selects RX5 yX5_enqueue yX5_enqueue, Cond.code yX5_enqueue cX5_enqueue 2 none, Cond.fieldLink RX5 9 "LedgeLevels$Search" "queue" "[I"]
def wsL_prove_r4 : List Cond := [Cond.methodLink RX5 52 yX5_queuedAt, Cond.instanceMethod yX5_queuedAt, Cond.selects RX5 yX5_queuedAt yX5_queuedAt, Cond.code yX5_queuedAt cX5_queuedAt 2 (some .int), Cond.methodLink RX5 56 yX5_tryInputsFrom, Cond.instanceMethod yX5_tryInputsFrom, Cond.selects RX5 yX5_tryInputsFrom yX5_tryInputsFrom, Cond.code yX5_tryInputsFrom cX5_tryInputsFrom 6 none, Cond.methodLink RX5 60 yX0_unpack, Cond.instanceMethod yX0_unpack, Cond.selects RX0 yX0_unpack yX0_unpack, Cond.code yX0_unpack cX0_unpack 2 none, Cond.methodLink RX5 63 yX0_stands, Cond.instanceMethod yX0_stands, Cond.selects RX0 yX0_stands yX0_stands, Cond.code yX0_stands cX0_stands 2 (some .boolean), Cond.methodLink RX0 32 yX0_isSolidIn, Cond.instanceMethod yX0_isSolidIn, Cond.selects RX0 yX0_isSolidIn yX0_isSolidIn, Cond.code yX0_isSolidIn cX0_isSolidIn 4 (some .boolean), Cond.methodLink RX5 67 yX0_move, Cond.instanceMethod yX0_move, Cond.selects RX0 yX0_move yX0_move, Cond.code yX0_move cX0_move 3 none]
def wsL_prove_r5 : List Cond := [Cond.methodLink RX0 36 yX0_stands, Cond.methodLink RX0 40 yX0_goSideways, Cond.instanceMethod yX0_goSideways, Cond.selects RX0 yX0_goSideways yX0_goSideways, Cond.code yX0_goSideways cX0_goSideways 5 none, Cond.methodLink RX0 43 yX0_goUpOrDown, Cond.instanceMethod yX0_goUpOrDown, Cond.selects RX0 yX0_goUpOrDown yX0_goUpOrDown, Cond.code yX0_goUpOrDown cX0_goUpOrDown 5 none, Cond.methodLink RX0 53 yX0_strengthOf, Cond.instanceMethod yX0_strengthOf, Cond.selects RX0 yX0_strengthOf yX0_strengthOf, Cond.code yX0_strengthOf cX0_strengthOf 3 (some .int), Cond.fieldLink RX0 24 "LedgeLevels$Body" "strengths" "[I"]
def wsL_prove : List Cond := .codeWith yL_prove cL_prove 4 (some .int) [(0, 9, 12, 13)] :: ((wsL_prove_r1 ++ (wsL_prove_r2 ++ (wsL_prove_r3 ++ (wsL_prove_r4 ++ wsL_prove_r5)))) ++ wsX70 ++ wsX30 ++ wsX50 ++ wsX00 ++ wsX10 ++ (vx_atS RX7 271 "java/lang/IndexOutOfBoundsException" ["java/lang/RuntimeException", "java/lang/Exception"]).filter goodWord)
def wsL_offer_r1 : List Cond := [Cond.classLink RL 13 "java/lang/IndexOutOfBoundsException", Cond.classLink RL 15 "java/lang/IllegalStateException", Cond.methodLink RL 39 yX7_offer, Cond.instanceMethod yX7_offer, Cond.selects RX7 yX7_offer yX7_offer, Cond.initialized RX7, Cond.code yX7_offer cX7_offer 3 (some .int), Cond.classLink RX7 88 "java/lang/IllegalStateException", Cond.initialized "java/lang/IllegalStateException", Cond.fieldLink RX7 44 "LedgeLevels" "workCount" "I", Cond.fieldLink RX7 21 "LedgeLevels" "works" "[LLedgeLevels$Work;", Cond.classLink RX7 19 RX6, Cond.instantiable RX6 8, Cond.initialized RX6, Cond.methodLink RX7 66 yX7_levelOf, Cond.instanceMethod yX7_levelOf, Cond.selects RX7 yX7_levelOf yX7_levelOf, Cond.code yX7_levelOf cX7_levelOf 3 (some (.object "LedgeLevels$Level")), Cond.classLink RX7 267 "java/lang/IndexOutOfBoundsException", Cond.initialized "java/lang/IndexOutOfBoundsException", Cond.fieldLink RX7 15 "LedgeLevels" "levels" "[LLedgeLevels$Level;", Cond.methodLink RX7 170 yX6_init, Cond.instanceMethod yX6_init, Cond.code yX6_init cX6_init 3 none]
def wsL_offer_r2 : List Cond := [Cond.methodLink RX6 3 objectInit, Cond.instanceMethod objectInit, Cond.code objectInit ⟨#[0xb1]⟩ 1 none, Cond.classLink RX6 9 RX1, Cond.instantiable RX1 3, Cond.initialized RX1, Cond.fieldLink RX6 12 "LedgeLevels$Work" "grid" "LLedgeLevels$Grid;", Cond.arrayClass .int, Cond.fieldLink RX6 18 "LedgeLevels$Work" "given" "[I", Cond.fieldLink RX6 22 "LedgeLevels$Work" "record" "I", Cond.fieldLink RX6 26 "LedgeLevels$Work" "number" "I", Cond.fieldLink RX6 34 "LedgeLevels$Work" "author" "I", Cond.fieldLink RX6 39 "LedgeLevels$Work" "parent" "LLedgeLevels$Work;", Cond.fieldLink RX6 48 "LedgeLevels$Work" "start" "I", Cond.fieldLink RX6 52 "LedgeLevels$Work" "best" "I", Cond.instanceMethod yX1_init, Cond.code yX1_init cX1_init 1 none, Cond.methodLink RX1 3 objectInit, Cond.fieldLink RX1 9 "LedgeLevels$Grid" "kinds" "[I", Cond.fieldLink RX1 15 "LedgeLevels$Grid" "keyCells" "[I", Cond.fieldLink RX1 18 "LedgeLevels$Grid" "allKeys" "I", Cond.methodLink RX6 41 yX1_putAllOf, Cond.instanceMethod yX1_putAllOf, Cond.selects RX1 yX1_putAllOf yX1_putAllOf]
def wsL_offer_r3 : List Cond := [Cond.code yX1_putAllOf cX1_putAllOf 3 none, Cond.methodLink RX1 30 yX1_kindAt, Cond.instanceMethod yX1_kindAt, Cond.selects RX1 yX1_kindAt yX1_kindAt, Cond.code yX1_kindAt cX1_kindAt 2 (some .int), Cond.methodLink RX1 34 yX1_put, Cond.instanceMethod yX1_put, Cond.selects RX1 yX1_put yX1_put, Cond.code yX1_put cX1_put 3 none, Cond.static yX7_isCell, Cond.code yX7_isCell cX7_isCell 1 (some .boolean), Cond.methodLink RX1 26 yX1_changeKey, Cond.instanceMethod yX1_changeKey, Cond.selects RX1 yX1_changeKey yX1_changeKey, Cond.code yX1_changeKey cX1_changeKey 4 none]
def wsL_offer : List Cond := .codeWith yL_offer cL_offer 4 (some .int) [(0, 9, 12, 13), (0, 9, 15, 15)] :: ((wsL_offer_r1 ++ (wsL_offer_r2 ++ wsL_offer_r3)) ++ wsX30 ++ wsX70 ++ wsX60 ++ wsX10 ++ (vx_atS RX7 92 "java/lang/IllegalStateException" ["java/lang/RuntimeException", "java/lang/Exception"]).filter goodWord ++ (vx_atS RX7 271 "java/lang/IndexOutOfBoundsException" ["java/lang/RuntimeException", "java/lang/Exception"]).filter goodWord)
def wsL_copy_r1 : List Cond := [Cond.classLink RL 13 "java/lang/IndexOutOfBoundsException", Cond.classLink RL 15 "java/lang/IllegalStateException", Cond.methodLink RL 42 yX7_copy, Cond.instanceMethod yX7_copy, Cond.selects RX7 yX7_copy yX7_copy, Cond.initialized RX7, Cond.code yX7_copy cX7_copy 5 (some .int), Cond.fieldLink RX7 40 "LedgeLevels" "levelCount" "I", Cond.methodLink RX7 142 yX7_workOf, Cond.instanceMethod yX7_workOf, Cond.selects RX7 yX7_workOf yX7_workOf, Cond.code yX7_workOf cX7_workOf 3 (some (.object "LedgeLevels$Work")), Cond.classLink RX7 267 "java/lang/IndexOutOfBoundsException", Cond.initialized "java/lang/IndexOutOfBoundsException", Cond.fieldLink RX7 21 "LedgeLevels" "works" "[LLedgeLevels$Work;", Cond.methodLink RX7 48 yX7_checkPerson, Cond.static yX7_checkPerson, Cond.code yX7_checkPerson cX7_checkPerson 1 none, Cond.methodLink RX7 173 yX7_checkNotWithdrawn, Cond.static yX7_checkNotWithdrawn, Cond.code yX7_checkNotWithdrawn cX7_checkNotWithdrawn 1 none, Cond.classLink RX7 88 "java/lang/IllegalStateException", Cond.initialized "java/lang/IllegalStateException", Cond.methodLink RX7 52 yX7_addLevel]
def wsL_copy_r2 : List Cond := [Cond.instanceMethod yX7_addLevel, Cond.selects RX7 yX7_addLevel yX7_addLevel, Cond.code yX7_addLevel cX7_addLevel 4 (some (.object "LedgeLevels$Level")), Cond.fieldLink RX7 15 "LedgeLevels" "levels" "[LLedgeLevels$Level;", Cond.classLink RX7 13 RX3, Cond.instantiable RX3 6, Cond.initialized RX3, Cond.methodLink RX7 287 yX3_init, Cond.instanceMethod yX3_init, Cond.code yX3_init cX3_init 3 none, Cond.methodLink RX3 3 objectInit, Cond.instanceMethod objectInit, Cond.code objectInit ⟨#[0xb1]⟩ 1 none, Cond.classLink RX3 9 RX1, Cond.instantiable RX1 3, Cond.initialized RX1, Cond.fieldLink RX3 12 "LedgeLevels$Level" "grid" "LLedgeLevels$Grid;", Cond.classLink RX3 18 RX2, Cond.instantiable RX2 5, Cond.initialized RX2, Cond.fieldLink RX3 21 "LedgeLevels$Level" "history" "LLedgeLevels$History;", Cond.fieldLink RX3 25 "LedgeLevels$Level" "start" "I", Cond.fieldLink RX3 29 "LedgeLevels$Level" "proof" "I", Cond.fieldLink RX3 32 "LedgeLevels$Level" "author" "I"]
def wsL_copy_r3 : List Cond := [Cond.fieldLink RX3 35 "LedgeLevels$Level" "parent" "LLedgeLevels$Work;", Cond.instanceMethod yX1_init, Cond.code yX1_init cX1_init 1 none, Cond.methodLink RX1 3 objectInit, Cond.arrayClass .int, Cond.fieldLink RX1 9 "LedgeLevels$Grid" "kinds" "[I", Cond.fieldLink RX1 15 "LedgeLevels$Grid" "keyCells" "[I", Cond.fieldLink RX1 18 "LedgeLevels$Grid" "allKeys" "I", Cond.instanceMethod yX2_init, Cond.code yX2_init cX2_init 1 none, Cond.methodLink RX2 3 objectInit, Cond.fieldLink RX2 9 "LedgeLevels$History" "cells" "[I", Cond.fieldLink RX2 15 "LedgeLevels$History" "kindsBefore" "[I", Cond.fieldLink RX2 18 "LedgeLevels$History" "kindsAfter" "[I", Cond.fieldLink RX2 21 "LedgeLevels$History" "done" "I", Cond.fieldLink RX2 25 "LedgeLevels$History" "undone" "I", Cond.methodLink RX7 176 yX1_putAllOf, Cond.instanceMethod yX1_putAllOf, Cond.selects RX1 yX1_putAllOf yX1_putAllOf, Cond.code yX1_putAllOf cX1_putAllOf 3 none, Cond.methodLink RX1 30 yX1_kindAt, Cond.instanceMethod yX1_kindAt, Cond.selects RX1 yX1_kindAt yX1_kindAt, Cond.code yX1_kindAt cX1_kindAt 2 (some .int)]
def wsL_copy_r4 : List Cond := [Cond.methodLink RX1 34 yX1_put, Cond.instanceMethod yX1_put, Cond.selects RX1 yX1_put yX1_put, Cond.code yX1_put cX1_put 3 none, Cond.static yX7_isCell, Cond.code yX7_isCell cX7_isCell 1 (some .boolean), Cond.methodLink RX1 26 yX1_changeKey, Cond.instanceMethod yX1_changeKey, Cond.selects RX1 yX1_changeKey yX1_changeKey, Cond.code yX1_changeKey cX1_changeKey 4 none]
def wsL_copy : List Cond := .codeWith yL_copy cL_copy 5 (some .int) [(0, 10, 13, 13), (0, 10, 17, 15)] :: ((wsL_copy_r1 ++ (wsL_copy_r2 ++ (wsL_copy_r3 ++ wsL_copy_r4))) ++ wsX30 ++ wsX60 ++ wsX70 ++ wsX10 ++ wsX20 ++ (vx_atS RX7 271 "java/lang/IndexOutOfBoundsException" ["java/lang/RuntimeException", "java/lang/Exception"]).filter goodWord ++ (vx_atS RX7 92 "java/lang/IllegalStateException" ["java/lang/RuntimeException", "java/lang/Exception"]).filter goodWord)
def wsL_star_r1 : List Cond := [Cond.classLink RL 13 "java/lang/IndexOutOfBoundsException", Cond.classLink RL 21 "java/lang/IllegalArgumentException", Cond.classLink RL 15 "java/lang/IllegalStateException", Cond.methodLink RL 45 yX7_star, Cond.instanceMethod yX7_star, Cond.selects RX7 yX7_star yX7_star, Cond.initialized RX7, Cond.code yX7_star cX7_star 6 (some .int), Cond.classLink RX7 73 "java/lang/IllegalArgumentException", Cond.initialized "java/lang/IllegalArgumentException", Cond.classLink RX7 88 "java/lang/IllegalStateException", Cond.initialized "java/lang/IllegalStateException", Cond.methodLink RX7 142 yX7_workOf, Cond.instanceMethod yX7_workOf, Cond.selects RX7 yX7_workOf yX7_workOf, Cond.code yX7_workOf cX7_workOf 3 (some (.object "LedgeLevels$Work")), Cond.classLink RX7 267 "java/lang/IndexOutOfBoundsException", Cond.initialized "java/lang/IndexOutOfBoundsException", Cond.fieldLink RX7 21 "LedgeLevels" "works" "[LLedgeLevels$Work;", Cond.methodLink RX7 48 yX7_checkPerson, Cond.static yX7_checkPerson, Cond.code yX7_checkPerson cX7_checkPerson 1 none, Cond.methodLink RX7 173 yX7_checkNotWithdrawn, Cond.static yX7_checkNotWithdrawn]
def wsL_star_r2 : List Cond := [Cond.code yX7_checkNotWithdrawn cX7_checkNotWithdrawn 1 none]
def wsL_star : List Cond := .codeWith yL_star cL_star 6 (some .int) [(0, 12, 15, 13), (0, 12, 19, 21), (0, 12, 23, 15)] :: ((wsL_star_r1 ++ wsL_star_r2) ++ wsX60 ++ wsX70 ++ (vx_atS RX7 77 "java/lang/IllegalArgumentException" ["java/lang/RuntimeException", "java/lang/Exception"]).filter goodWord ++ (vx_atS RX7 92 "java/lang/IllegalStateException" ["java/lang/RuntimeException", "java/lang/Exception"]).filter goodWord ++ (vx_atS RX7 271 "java/lang/IndexOutOfBoundsException" ["java/lang/RuntimeException", "java/lang/Exception"]).filter goodWord)
def wsL_run_r1 : List Cond := [Cond.classLink RL 13 "java/lang/IndexOutOfBoundsException", Cond.classLink RL 15 "java/lang/IllegalStateException", Cond.methodLink RL 48 yX7_run, Cond.instanceMethod yX7_run, Cond.selects RX7 yX7_run yX7_run, Cond.initialized RX7, Cond.code yX7_run cX7_run 5 (some .int), Cond.methodLink RX7 190 yX7_runOf, Cond.instanceMethod yX7_runOf, Cond.selects RX7 yX7_runOf yX7_runOf, Cond.code yX7_runOf cX7_runOf 3 (some (.object "LedgeLevels$Run")), Cond.classLink RX7 267 "java/lang/IndexOutOfBoundsException", Cond.initialized "java/lang/IndexOutOfBoundsException", Cond.fieldLink RX7 27 "LedgeLevels" "runs" "[LLedgeLevels$Run;", Cond.methodLink RX7 142 yX7_workOf, Cond.instanceMethod yX7_workOf, Cond.selects RX7 yX7_workOf yX7_workOf, Cond.code yX7_workOf cX7_workOf 3 (some (.object "LedgeLevels$Work")), Cond.fieldLink RX7 21 "LedgeLevels" "works" "[LLedgeLevels$Work;", Cond.methodLink RX7 173 yX7_checkNotWithdrawn, Cond.static yX7_checkNotWithdrawn, Cond.code yX7_checkNotWithdrawn cX7_checkNotWithdrawn 1 none, Cond.classLink RX7 88 "java/lang/IllegalStateException", Cond.initialized "java/lang/IllegalStateException"]
def wsL_run_r2 : List Cond := [Cond.methodLink RX7 194 yX4_beginOn, Cond.instanceMethod yX4_beginOn, Cond.selects RX4 yX4_beginOn yX4_beginOn, Cond.initialized RX4, Cond.code yX4_beginOn cX4_beginOn 2 none, Cond.fieldLink RX4 9 "LedgeLevels$Run" "work" "LLedgeLevels$Work;", Cond.fieldLink RX4 19 "LedgeLevels$Run" "steps" "I", Cond.fieldLink RX4 27 "LedgeLevels$Run" "body" "LLedgeLevels$Body;", Cond.methodLink RX4 40 yX0_placeAtStart, Cond.instanceMethod yX0_placeAtStart, Cond.selects RX0 yX0_placeAtStart yX0_placeAtStart, Cond.initialized RX0, Cond.code yX0_placeAtStart cX0_placeAtStart 3 none, Cond.fieldLink RX0 15 "LedgeLevels$Body" "speed" "I", Cond.fieldLink RX0 18 "LedgeLevels$Body" "taken" "I", Cond.fieldLink RX0 21 "LedgeLevels$Body" "fate" "I", Cond.methodLink RX0 28 yX0_comeTo, Cond.instanceMethod yX0_comeTo, Cond.selects RX0 yX0_comeTo yX0_comeTo, Cond.code yX0_comeTo cX0_comeTo 4 none, Cond.fieldLink RX0 9 "LedgeLevels$Body" "cell" "I", Cond.static yX7_isCell, Cond.code yX7_isCell cX7_isCell 1 (some .boolean), Cond.methodLink RX0 47 yX1_kindAt]
def wsL_run_r3 : List Cond := [Cond.instanceMethod yX1_kindAt, Cond.selects RX1 yX1_kindAt yX1_kindAt, Cond.initialized RX1, Cond.code yX1_kindAt cX1_kindAt 2 (some .int), Cond.fieldLink RX1 9 "LedgeLevels$Grid" "kinds" "[I", Cond.methodLink RX0 63 yX1_keyBit, Cond.instanceMethod yX1_keyBit, Cond.selects RX1 yX1_keyBit yX1_keyBit, Cond.code yX1_keyBit cX1_keyBit 3 (some .int), Cond.fieldLink RX1 15 "LedgeLevels$Grid" "keyCells" "[I", Cond.methodLink RX4 44 yX4_takeStateOfBody, Cond.instanceMethod yX4_takeStateOfBody, Cond.selects RX4 yX4_takeStateOfBody yX4_takeStateOfBody, Cond.code yX4_takeStateOfBody cX4_takeStateOfBody 1 none, Cond.fieldLink RX4 15 "LedgeLevels$Run" "state" "I", Cond.methodLink RX4 53 yX6_noteWin, Cond.instanceMethod yX6_noteWin, Cond.selects RX6 yX6_noteWin yX6_noteWin, Cond.initialized RX6, Cond.code yX6_noteWin cX6_noteWin 2 none, Cond.fieldLink RX6 22 "LedgeLevels$Work" "record" "I", Cond.methodLink RX7 197 yX4_answer, Cond.instanceMethod yX4_answer, Cond.selects RX4 yX4_answer yX4_answer]
def wsL_run_r4 : List Cond := [Cond.code yX4_answer cX4_answer 1 (some .int)]
def wsL_run : List Cond := .codeWith yL_run cL_run 5 (some .int) [(0, 10, 13, 13), (0, 10, 17, 15)] :: ((wsL_run_r1 ++ (wsL_run_r2 ++ (wsL_run_r3 ++ wsL_run_r4))) ++ wsX70 ++ wsX60 ++ wsX40 ++ wsX00 ++ wsX10 ++ (vx_atS RX7 271 "java/lang/IndexOutOfBoundsException" ["java/lang/RuntimeException", "java/lang/Exception"]).filter goodWord ++ (vx_atS RX7 92 "java/lang/IllegalStateException" ["java/lang/RuntimeException", "java/lang/Exception"]).filter goodWord)
def wsL_step_r1 : List Cond := [Cond.classLink RL 13 "java/lang/IndexOutOfBoundsException", Cond.classLink RL 21 "java/lang/IllegalArgumentException", Cond.classLink RL 15 "java/lang/IllegalStateException", Cond.methodLink RL 51 yX7_step, Cond.instanceMethod yX7_step, Cond.selects RX7 yX7_step yX7_step, Cond.initialized RX7, Cond.code yX7_step cX7_step 4 (some .int), Cond.classLink RX7 73 "java/lang/IllegalArgumentException", Cond.initialized "java/lang/IllegalArgumentException", Cond.classLink RX7 88 "java/lang/IllegalStateException", Cond.initialized "java/lang/IllegalStateException", Cond.methodLink RX7 190 yX7_runOf, Cond.instanceMethod yX7_runOf, Cond.selects RX7 yX7_runOf yX7_runOf, Cond.code yX7_runOf cX7_runOf 3 (some (.object "LedgeLevels$Run")), Cond.classLink RX7 267 "java/lang/IndexOutOfBoundsException", Cond.initialized "java/lang/IndexOutOfBoundsException", Cond.fieldLink RX7 27 "LedgeLevels" "runs" "[LLedgeLevels$Run;", Cond.methodLink RX7 212 yX4_goOn, Cond.instanceMethod yX4_goOn, Cond.selects RX4 yX4_goOn yX4_goOn, Cond.initialized RX4, Cond.code yX4_goOn cX4_goOn 2 none]
def wsL_step_r2 : List Cond := [Cond.fieldLink RX4 9 "LedgeLevels$Run" "work" "LLedgeLevels$Work;", Cond.fieldLink RX4 19 "LedgeLevels$Run" "steps" "I", Cond.fieldLink RX4 27 "LedgeLevels$Run" "body" "LLedgeLevels$Body;", Cond.methodLink RX4 47 yX0_move, Cond.instanceMethod yX0_move, Cond.selects RX0 yX0_move yX0_move, Cond.initialized RX0, Cond.code yX0_move cX0_move 3 none, Cond.fieldLink RX0 15 "LedgeLevels$Body" "speed" "I", Cond.fieldLink RX0 21 "LedgeLevels$Body" "fate" "I", Cond.methodLink RX0 36 yX0_stands, Cond.instanceMethod yX0_stands, Cond.selects RX0 yX0_stands yX0_stands, Cond.code yX0_stands cX0_stands 2 (some .boolean), Cond.fieldLink RX0 9 "LedgeLevels$Body" "cell" "I", Cond.methodLink RX0 32 yX0_isSolidIn, Cond.instanceMethod yX0_isSolidIn, Cond.selects RX0 yX0_isSolidIn yX0_isSolidIn, Cond.code yX0_isSolidIn cX0_isSolidIn 4 (some .boolean), Cond.fieldLink RX0 18 "LedgeLevels$Body" "taken" "I", Cond.methodLink RX0 47 yX1_kindAt, Cond.instanceMethod yX1_kindAt, Cond.selects RX1 yX1_kindAt yX1_kindAt, Cond.initialized RX1]
def wsL_step_r3 : List Cond := [Cond.code yX1_kindAt cX1_kindAt 2 (some .int), Cond.fieldLink RX1 9 "LedgeLevels$Grid" "kinds" "[I", Cond.methodLink RX0 40 yX0_goSideways, Cond.instanceMethod yX0_goSideways, Cond.selects RX0 yX0_goSideways yX0_goSideways, Cond.code yX0_goSideways cX0_goSideways 5 none, Cond.methodLink RX0 28 yX0_comeTo, Cond.instanceMethod yX0_comeTo, Cond.selects RX0 yX0_comeTo yX0_comeTo, Cond.code yX0_comeTo cX0_comeTo 4 none, Cond.static yX7_isCell, Cond.code yX7_isCell cX7_isCell 1 (some .boolean), Cond.methodLink RX0 63 yX1_keyBit, Cond.instanceMethod yX1_keyBit, Cond.selects RX1 yX1_keyBit yX1_keyBit, Cond.code yX1_keyBit cX1_keyBit 3 (some .int), Cond.fieldLink RX1 15 "LedgeLevels$Grid" "keyCells" "[I", Cond.methodLink RX0 43 yX0_goUpOrDown, Cond.instanceMethod yX0_goUpOrDown, Cond.selects RX0 yX0_goUpOrDown yX0_goUpOrDown, Cond.code yX0_goUpOrDown cX0_goUpOrDown 5 none, Cond.methodLink RX0 53 yX0_strengthOf, Cond.instanceMethod yX0_strengthOf, Cond.selects RX0 yX0_strengthOf yX0_strengthOf]
def wsL_step_r4 : List Cond := [Cond.code yX0_strengthOf cX0_strengthOf 3 (some .int), Cond.fieldLink RX0 24 "LedgeLevels$Body" "strengths" "[I", Cond.methodLink RX4 44 yX4_takeStateOfBody, Cond.instanceMethod yX4_takeStateOfBody, Cond.selects RX4 yX4_takeStateOfBody yX4_takeStateOfBody, Cond.code yX4_takeStateOfBody cX4_takeStateOfBody 1 none, Cond.fieldLink RX4 15 "LedgeLevels$Run" "state" "I", Cond.methodLink RX4 53 yX6_noteWin, Cond.instanceMethod yX6_noteWin, Cond.selects RX6 yX6_noteWin yX6_noteWin, Cond.initialized RX6, Cond.code yX6_noteWin cX6_noteWin 2 none, Cond.fieldLink RX6 22 "LedgeLevels$Work" "record" "I", Cond.methodLink RX7 197 yX4_answer, Cond.instanceMethod yX4_answer, Cond.selects RX4 yX4_answer yX4_answer, Cond.code yX4_answer cX4_answer 1 (some .int)]
def wsL_step : List Cond := .codeWith yL_step cL_step 5 (some .int) [(0, 10, 13, 13), (0, 10, 17, 21), (0, 10, 21, 15)] :: ((wsL_step_r1 ++ (wsL_step_r2 ++ (wsL_step_r3 ++ wsL_step_r4))) ++ wsX40 ++ wsX70 ++ wsX60 ++ wsX00 ++ wsX10 ++ (vx_atS RX7 77 "java/lang/IllegalArgumentException" ["java/lang/RuntimeException", "java/lang/Exception"]).filter goodWord ++ (vx_atS RX7 92 "java/lang/IllegalStateException" ["java/lang/RuntimeException", "java/lang/Exception"]).filter goodWord ++ (vx_atS RX7 271 "java/lang/IndexOutOfBoundsException" ["java/lang/RuntimeException", "java/lang/Exception"]).filter goodWord)
def wsL_at_r1 : List Cond := [Cond.classLink RL 13 "java/lang/IndexOutOfBoundsException", Cond.methodLink RL 54 yX7_at, Cond.instanceMethod yX7_at, Cond.selects RX7 yX7_at yX7_at, Cond.initialized RX7, Cond.code yX7_at cX7_at 4 (some .int), Cond.methodLink RX7 66 yX7_levelOf, Cond.instanceMethod yX7_levelOf, Cond.selects RX7 yX7_levelOf yX7_levelOf, Cond.code yX7_levelOf cX7_levelOf 3 (some (.object "LedgeLevels$Level")), Cond.classLink RX7 267 "java/lang/IndexOutOfBoundsException", Cond.initialized "java/lang/IndexOutOfBoundsException", Cond.fieldLink RX7 15 "LedgeLevels" "levels" "[LLedgeLevels$Level;", Cond.methodLink RX7 70 yX7_checkCell, Cond.static yX7_checkCell, Cond.code yX7_checkCell cX7_checkCell 1 none, Cond.methodLink RX7 272 yX7_isCell, Cond.static yX7_isCell, Cond.code yX7_isCell cX7_isCell 1 (some .boolean), Cond.methodLink RX7 80 yX1_kindAt, Cond.instanceMethod yX1_kindAt, Cond.selects RX1 yX1_kindAt yX1_kindAt, Cond.initialized RX1, Cond.code yX1_kindAt cX1_kindAt 2 (some .int)]
def wsL_at_r2 : List Cond := [Cond.fieldLink RX1 9 "LedgeLevels$Grid" "kinds" "[I"]
def wsL_at : List Cond := .codeWith yL_at cL_at 5 (some .int) [(0, 10, 13, 13)] :: ((wsL_at_r1 ++ wsL_at_r2) ++ wsX30 ++ wsX70 ++ wsX10 ++ (vx_atS RX7 271 "java/lang/IndexOutOfBoundsException" ["java/lang/RuntimeException", "java/lang/Exception"]).filter goodWord)
def wsL_start : List Cond := .codeWith yL_start cL_start 4 (some .int) [(0, 9, 12, 13)] :: ([.classLink RL 13 "java/lang/IndexOutOfBoundsException", .methodLink RL 57 yX7_start, .instanceMethod yX7_start, .selects RX7 yX7_start yX7_start, .initialized RX7, .code yX7_start cX7_start 2 (some .int), .methodLink RX7 66 yX7_levelOf, .instanceMethod yX7_levelOf, .selects RX7 yX7_levelOf yX7_levelOf, .code yX7_levelOf cX7_levelOf 3 (some (.object "LedgeLevels$Level")), .classLink RX7 267 "java/lang/IndexOutOfBoundsException", .initialized "java/lang/IndexOutOfBoundsException", .fieldLink RX7 15 "LedgeLevels" "levels" "[LLedgeLevels$Level;"] ++ wsX30 ++ wsX70 ++ (vx_atS RX7 271 "java/lang/IndexOutOfBoundsException" ["java/lang/RuntimeException", "java/lang/Exception"]).filter goodWord)
def wsL_edits : List Cond := .codeWith yL_edits cL_edits 5 (some .int) [(0, 10, 13, 13)] :: ([.classLink RL 13 "java/lang/IndexOutOfBoundsException", .methodLink RL 60 yX7_edits, .instanceMethod yX7_edits, .selects RX7 yX7_edits yX7_edits, .initialized RX7, .code yX7_edits cX7_edits 4 (some .int), .methodLink RX7 66 yX7_levelOf, .instanceMethod yX7_levelOf, .selects RX7 yX7_levelOf yX7_levelOf, .code yX7_levelOf cX7_levelOf 3 (some (.object "LedgeLevels$Level")), .classLink RX7 267 "java/lang/IndexOutOfBoundsException", .initialized "java/lang/IndexOutOfBoundsException", .fieldLink RX7 15 "LedgeLevels" "levels" "[LLedgeLevels$Level;"] ++ wsX30 ++ wsX20 ++ wsX70 ++ (vx_atS RX7 271 "java/lang/IndexOutOfBoundsException" ["java/lang/RuntimeException", "java/lang/Exception"]).filter goodWord)
def wsL_proof : List Cond := .codeWith yL_proof cL_proof 4 (some .int) [(0, 9, 12, 13)] :: ([.classLink RL 13 "java/lang/IndexOutOfBoundsException", .methodLink RL 64 yX7_proof, .instanceMethod yX7_proof, .selects RX7 yX7_proof yX7_proof, .initialized RX7, .code yX7_proof cX7_proof 2 (some .int), .methodLink RX7 66 yX7_levelOf, .instanceMethod yX7_levelOf, .selects RX7 yX7_levelOf yX7_levelOf, .code yX7_levelOf cX7_levelOf 3 (some (.object "LedgeLevels$Level")), .classLink RX7 267 "java/lang/IndexOutOfBoundsException", .initialized "java/lang/IndexOutOfBoundsException", .fieldLink RX7 15 "LedgeLevels" "levels" "[LLedgeLevels$Level;"] ++ wsX30 ++ wsX70 ++ (vx_atS RX7 271 "java/lang/IndexOutOfBoundsException" ["java/lang/RuntimeException", "java/lang/Exception"]).filter goodWord)
def wsL_shortest_r1 : List Cond := [Cond.classLink RL 13 "java/lang/IndexOutOfBoundsException", Cond.classLink RL 21 "java/lang/IllegalArgumentException", Cond.methodLink RL 67 yX7_shortest, Cond.instanceMethod yX7_shortest, Cond.selects RX7 yX7_shortest yX7_shortest, Cond.initialized RX7, Cond.code yX7_shortest cX7_shortest 4 (some .int), Cond.classLink RX7 73 "java/lang/IllegalArgumentException", Cond.initialized "java/lang/IllegalArgumentException", Cond.fieldLink RX7 36 "LedgeLevels" "search" "LLedgeLevels$Search;", Cond.methodLink RX7 66 yX7_levelOf, Cond.instanceMethod yX7_levelOf, Cond.selects RX7 yX7_levelOf yX7_levelOf, Cond.code yX7_levelOf cX7_levelOf 3 (some (.object "LedgeLevels$Level")), Cond.classLink RX7 267 "java/lang/IndexOutOfBoundsException", Cond.initialized "java/lang/IndexOutOfBoundsException", Cond.fieldLink RX7 15 "LedgeLevels" "levels" "[LLedgeLevels$Level;", Cond.methodLink RX7 217 yX5_fewestStepsByRows, Cond.instanceMethod yX5_fewestStepsByRows, Cond.selects RX5 yX5_fewestStepsByRows yX5_fewestStepsByRows, Cond.initialized RX5, Cond.code yX5_fewestStepsByRows cX5_fewestStepsByRows 8 (some .int), Cond.fieldLink RX5 37 "LedgeLevels$Search" "body" "LLedgeLevels$Body;", Cond.fieldLink RX5 26 "LedgeLevels$Search" "tail" "I"]
def wsL_shortest_r2 : List Cond := [Cond.methodLink RX5 41 yX5_restart, Cond.instanceMethod yX5_restart, Cond.selects RX5 yX5_restart yX5_restart, Cond.code yX5_restart cX5_restart 2 none, Cond.fieldLink RX5 22 "LedgeLevels$Search" "number" "I", Cond.fieldLink RX5 29 "LedgeLevels$Search" "won" "I", Cond.fieldLink RX5 18 "LedgeLevels$Search" "reached" "[Z", Cond.methodLink RX5 44 yX0_placeAtStart, Cond.instanceMethod yX0_placeAtStart, Cond.selects RX0 yX0_placeAtStart yX0_placeAtStart, Cond.initialized RX0, Cond.code yX0_placeAtStart cX0_placeAtStart 3 none, Cond.fieldLink RX0 15 "LedgeLevels$Body" "speed" "I", Cond.fieldLink RX0 18 "LedgeLevels$Body" "taken" "I", Cond.fieldLink RX0 21 "LedgeLevels$Body" "fate" "I", Cond.methodLink RX0 28 yX0_comeTo, Cond.instanceMethod yX0_comeTo, Cond.selects RX0 yX0_comeTo yX0_comeTo, Cond.code yX0_comeTo cX0_comeTo 4 none, Cond.fieldLink RX0 9 "LedgeLevels$Body" "cell" "I", Cond.static yX7_isCell, Cond.code yX7_isCell cX7_isCell 1 (some .boolean), Cond.methodLink RX0 47 yX1_kindAt, Cond.instanceMethod yX1_kindAt]
def wsL_shortest_r3 : List Cond := [Cond.selects RX1 yX1_kindAt yX1_kindAt, Cond.initialized RX1, Cond.code yX1_kindAt cX1_kindAt 2 (some .int), Cond.fieldLink RX1 9 "LedgeLevels$Grid" "kinds" "[I", Cond.methodLink RX0 63 yX1_keyBit, Cond.instanceMethod yX1_keyBit, Cond.selects RX1 yX1_keyBit yX1_keyBit, Cond.code yX1_keyBit cX1_keyBit 3 (some .int), Cond.fieldLink RX1 15 "LedgeLevels$Grid" "keyCells" "[I", Cond.methodLink RX5 80 yX0_packed, Cond.instanceMethod yX0_packed, Cond.selects RX0 yX0_packed yX0_packed, Cond.code yX0_packed cX0_packed 1 (some .int), Cond.methodLink RX5 87 yX5_enqueue, Cond.instanceMethod yX5_enqueue, Cond.selects RX5 yX5_enqueue yX5_enqueue, Cond.code yX5_enqueue cX5_enqueue 2 none, Cond.fieldLink RX5 9 "LedgeLevels$Search" "queue" "[I", Cond.methodLink RX5 52 yX5_queuedAt, Cond.instanceMethod yX5_queuedAt, Cond.selects RX5 yX5_queuedAt yX5_queuedAt, Cond.code yX5_queuedAt cX5_queuedAt 2 (some .int), Cond.methodLink RX5 90 yX5_winsByOneMore, Cond.instanceMethod yX5_winsByOneMore]
def wsL_shortest_r4 : List Cond := [Cond.selects RX5 yX5_winsByOneMore yX5_winsByOneMore, Cond.code yX5_winsByOneMore cX5_winsByOneMore 5 (some .boolean), Cond.methodLink RX5 60 yX0_unpack, Cond.instanceMethod yX0_unpack, Cond.selects RX0 yX0_unpack yX0_unpack, Cond.code yX0_unpack cX0_unpack 2 none, Cond.methodLink RX5 67 yX0_move, Cond.instanceMethod yX0_move, Cond.selects RX0 yX0_move yX0_move, Cond.code yX0_move cX0_move 3 none, Cond.methodLink RX0 36 yX0_stands, Cond.instanceMethod yX0_stands, Cond.selects RX0 yX0_stands yX0_stands, Cond.code yX0_stands cX0_stands 2 (some .boolean), Cond.methodLink RX0 32 yX0_isSolidIn, Cond.instanceMethod yX0_isSolidIn, Cond.selects RX0 yX0_isSolidIn yX0_isSolidIn, Cond.code yX0_isSolidIn cX0_isSolidIn 4 (some .boolean), Cond.methodLink RX0 40 yX0_goSideways, Cond.instanceMethod yX0_goSideways, Cond.selects RX0 yX0_goSideways yX0_goSideways, Cond.code yX0_goSideways cX0_goSideways 5 none, Cond.methodLink RX0 43 yX0_goUpOrDown, Cond.instanceMethod yX0_goUpOrDown]
def wsL_shortest_r5 : List Cond := [Cond.selects RX0 yX0_goUpOrDown yX0_goUpOrDown, Cond.code yX0_goUpOrDown cX0_goUpOrDown 5 none, Cond.methodLink RX0 53 yX0_strengthOf, Cond.instanceMethod yX0_strengthOf, Cond.selects RX0 yX0_strengthOf yX0_strengthOf, Cond.code yX0_strengthOf cX0_strengthOf 3 (some .int), Cond.fieldLink RX0 24 "LedgeLevels$Body" "strengths" "[I"]
def wsL_shortest : List Cond := .codeWith yL_shortest cL_shortest 5 (some .int) [(0, 10, 13, 13), (0, 10, 17, 21)] :: ((wsL_shortest_r1 ++ (wsL_shortest_r2 ++ (wsL_shortest_r3 ++ (wsL_shortest_r4 ++ wsL_shortest_r5)))) ++ wsX70 ++ wsX30 ++ wsX50 ++ wsX00 ++ wsX10 ++ (vx_atS RX7 77 "java/lang/IllegalArgumentException" ["java/lang/RuntimeException", "java/lang/Exception"]).filter goodWord ++ (vx_atS RX7 271 "java/lang/IndexOutOfBoundsException" ["java/lang/RuntimeException", "java/lang/Exception"]).filter goodWord)
def wsL_reach_r1 : List Cond := [Cond.classLink RL 13 "java/lang/IndexOutOfBoundsException", Cond.methodLink RL 70 yX7_reach, Cond.instanceMethod yX7_reach, Cond.selects RX7 yX7_reach yX7_reach, Cond.initialized RX7, Cond.code yX7_reach cX7_reach 3 (some .int), Cond.fieldLink RX7 36 "LedgeLevels" "search" "LLedgeLevels$Search;", Cond.methodLink RX7 66 yX7_levelOf, Cond.instanceMethod yX7_levelOf, Cond.selects RX7 yX7_levelOf yX7_levelOf, Cond.code yX7_levelOf cX7_levelOf 3 (some (.object "LedgeLevels$Level")), Cond.classLink RX7 267 "java/lang/IndexOutOfBoundsException", Cond.initialized "java/lang/IndexOutOfBoundsException", Cond.fieldLink RX7 15 "LedgeLevels" "levels" "[LLedgeLevels$Level;", Cond.methodLink RX7 152 yX5_explore, Cond.instanceMethod yX5_explore, Cond.selects RX5 yX5_explore yX5_explore, Cond.initialized RX5, Cond.code yX5_explore cX5_explore 8 (some .int), Cond.fieldLink RX5 37 "LedgeLevels$Search" "body" "LLedgeLevels$Body;", Cond.fieldLink RX5 26 "LedgeLevels$Search" "tail" "I", Cond.fieldLink RX5 29 "LedgeLevels$Search" "won" "I", Cond.methodLink RX5 41 yX5_restart, Cond.instanceMethod yX5_restart]
def wsL_reach_r2 : List Cond := [Cond.selects RX5 yX5_restart yX5_restart, Cond.code yX5_restart cX5_restart 2 none, Cond.fieldLink RX5 22 "LedgeLevels$Search" "number" "I", Cond.fieldLink RX5 18 "LedgeLevels$Search" "reached" "[Z", Cond.methodLink RX5 44 yX0_placeAtStart, Cond.instanceMethod yX0_placeAtStart, Cond.selects RX0 yX0_placeAtStart yX0_placeAtStart, Cond.initialized RX0, Cond.code yX0_placeAtStart cX0_placeAtStart 3 none, Cond.fieldLink RX0 15 "LedgeLevels$Body" "speed" "I", Cond.fieldLink RX0 18 "LedgeLevels$Body" "taken" "I", Cond.fieldLink RX0 21 "LedgeLevels$Body" "fate" "I", Cond.methodLink RX0 28 yX0_comeTo, Cond.instanceMethod yX0_comeTo, Cond.selects RX0 yX0_comeTo yX0_comeTo, Cond.code yX0_comeTo cX0_comeTo 4 none, Cond.fieldLink RX0 9 "LedgeLevels$Body" "cell" "I", Cond.static yX7_isCell, Cond.code yX7_isCell cX7_isCell 1 (some .boolean), Cond.methodLink RX0 47 yX1_kindAt, Cond.instanceMethod yX1_kindAt, Cond.selects RX1 yX1_kindAt yX1_kindAt, Cond.initialized RX1, Cond.code yX1_kindAt cX1_kindAt 2 (some .int)]
def wsL_reach_r3 : List Cond := [Cond.fieldLink RX1 9 "LedgeLevels$Grid" "kinds" "[I", Cond.methodLink RX0 63 yX1_keyBit, Cond.instanceMethod yX1_keyBit, Cond.selects RX1 yX1_keyBit yX1_keyBit, Cond.code yX1_keyBit cX1_keyBit 3 (some .int), Cond.fieldLink RX1 15 "LedgeLevels$Grid" "keyCells" "[I", Cond.methodLink RX5 48 yX5_noteBody, Cond.instanceMethod yX5_noteBody, Cond.selects RX5 yX5_noteBody yX5_noteBody, Cond.code yX5_noteBody cX5_noteBody 2 none, Cond.methodLink RX5 80 yX0_packed, Cond.instanceMethod yX0_packed, Cond.selects RX0 yX0_packed yX0_packed, Cond.code yX0_packed cX0_packed 1 (some .int), Cond.methodLink RX5 84 yX5_enqueueNew, Cond.instanceMethod yX5_enqueueNew, Cond.selects RX5 yX5_enqueueNew yX5_enqueueNew, Cond.code yX5_enqueueNew cX5_enqueueNew 2 none, Cond.fieldLink RX5 15 "LedgeLevels$Search" "seenIn" "[I", Cond.methodLink RX5 87 yX5_enqueue, Cond.instanceMethod yX5_enqueue, Cond.selects RX5 yX5_enqueue yX5_enqueue, Cond.code yX5_enqueue cX5_enqueue 2 none, Cond.fieldLink RX5 9 "LedgeLevels$Search" "queue" "[I"]
def wsL_reach_r4 : List Cond := [Cond.methodLink RX5 52 yX5_queuedAt, Cond.instanceMethod yX5_queuedAt, Cond.selects RX5 yX5_queuedAt yX5_queuedAt, Cond.code yX5_queuedAt cX5_queuedAt 2 (some .int), Cond.methodLink RX5 56 yX5_tryInputsFrom, Cond.instanceMethod yX5_tryInputsFrom, Cond.selects RX5 yX5_tryInputsFrom yX5_tryInputsFrom, Cond.code yX5_tryInputsFrom cX5_tryInputsFrom 6 none, Cond.methodLink RX5 60 yX0_unpack, Cond.instanceMethod yX0_unpack, Cond.selects RX0 yX0_unpack yX0_unpack, Cond.code yX0_unpack cX0_unpack 2 none, Cond.methodLink RX5 63 yX0_stands, Cond.instanceMethod yX0_stands, Cond.selects RX0 yX0_stands yX0_stands, Cond.code yX0_stands cX0_stands 2 (some .boolean), Cond.methodLink RX0 32 yX0_isSolidIn, Cond.instanceMethod yX0_isSolidIn, Cond.selects RX0 yX0_isSolidIn yX0_isSolidIn, Cond.code yX0_isSolidIn cX0_isSolidIn 4 (some .boolean), Cond.methodLink RX5 67 yX0_move, Cond.instanceMethod yX0_move, Cond.selects RX0 yX0_move yX0_move, Cond.code yX0_move cX0_move 3 none]
def wsL_reach_r5 : List Cond := [Cond.methodLink RX0 36 yX0_stands, Cond.methodLink RX0 40 yX0_goSideways, Cond.instanceMethod yX0_goSideways, Cond.selects RX0 yX0_goSideways yX0_goSideways, Cond.code yX0_goSideways cX0_goSideways 5 none, Cond.methodLink RX0 43 yX0_goUpOrDown, Cond.instanceMethod yX0_goUpOrDown, Cond.selects RX0 yX0_goUpOrDown yX0_goUpOrDown, Cond.code yX0_goUpOrDown cX0_goUpOrDown 5 none, Cond.methodLink RX0 53 yX0_strengthOf, Cond.instanceMethod yX0_strengthOf, Cond.selects RX0 yX0_strengthOf yX0_strengthOf, Cond.code yX0_strengthOf cX0_strengthOf 3 (some .int), Cond.fieldLink RX0 24 "LedgeLevels$Body" "strengths" "[I", Cond.methodLink RX7 221 yX5_reachedCount, Cond.instanceMethod yX5_reachedCount, Cond.selects RX5 yX5_reachedCount yX5_reachedCount, Cond.code yX5_reachedCount cX5_reachedCount 6 (some .int)]
def wsL_reach : List Cond := .codeWith yL_reach cL_reach 4 (some .int) [(0, 9, 12, 13)] :: ((wsL_reach_r1 ++ (wsL_reach_r2 ++ (wsL_reach_r3 ++ (wsL_reach_r4 ++ wsL_reach_r5)))) ++ wsX70 ++ wsX30 ++ wsX50 ++ wsX00 ++ wsX10 ++ (vx_atS RX7 271 "java/lang/IndexOutOfBoundsException" ["java/lang/RuntimeException", "java/lang/Exception"]).filter goodWord)
def wsL_farthest_r1 : List Cond := [Cond.classLink RL 13 "java/lang/IndexOutOfBoundsException", Cond.methodLink RL 73 yX7_farthest, Cond.instanceMethod yX7_farthest, Cond.selects RX7 yX7_farthest yX7_farthest, Cond.initialized RX7, Cond.code yX7_farthest cX7_farthest 3 (some .int), Cond.fieldLink RX7 36 "LedgeLevels" "search" "LLedgeLevels$Search;", Cond.methodLink RX7 66 yX7_levelOf, Cond.instanceMethod yX7_levelOf, Cond.selects RX7 yX7_levelOf yX7_levelOf, Cond.code yX7_levelOf cX7_levelOf 3 (some (.object "LedgeLevels$Level")), Cond.classLink RX7 267 "java/lang/IndexOutOfBoundsException", Cond.initialized "java/lang/IndexOutOfBoundsException", Cond.fieldLink RX7 15 "LedgeLevels" "levels" "[LLedgeLevels$Level;", Cond.methodLink RX7 152 yX5_explore, Cond.instanceMethod yX5_explore, Cond.selects RX5 yX5_explore yX5_explore, Cond.initialized RX5, Cond.code yX5_explore cX5_explore 8 (some .int), Cond.fieldLink RX5 37 "LedgeLevels$Search" "body" "LLedgeLevels$Body;", Cond.fieldLink RX5 26 "LedgeLevels$Search" "tail" "I", Cond.fieldLink RX5 29 "LedgeLevels$Search" "won" "I", Cond.methodLink RX5 41 yX5_restart, Cond.instanceMethod yX5_restart]
def wsL_farthest_r2 : List Cond := [Cond.selects RX5 yX5_restart yX5_restart, Cond.code yX5_restart cX5_restart 2 none, Cond.fieldLink RX5 22 "LedgeLevels$Search" "number" "I", Cond.fieldLink RX5 18 "LedgeLevels$Search" "reached" "[Z", Cond.methodLink RX5 44 yX0_placeAtStart, Cond.instanceMethod yX0_placeAtStart, Cond.selects RX0 yX0_placeAtStart yX0_placeAtStart, Cond.initialized RX0, Cond.code yX0_placeAtStart cX0_placeAtStart 3 none, Cond.fieldLink RX0 15 "LedgeLevels$Body" "speed" "I", Cond.fieldLink RX0 18 "LedgeLevels$Body" "taken" "I", Cond.fieldLink RX0 21 "LedgeLevels$Body" "fate" "I", Cond.methodLink RX0 28 yX0_comeTo, Cond.instanceMethod yX0_comeTo, Cond.selects RX0 yX0_comeTo yX0_comeTo, Cond.code yX0_comeTo cX0_comeTo 4 none, Cond.fieldLink RX0 9 "LedgeLevels$Body" "cell" "I", Cond.static yX7_isCell, Cond.code yX7_isCell cX7_isCell 1 (some .boolean), Cond.methodLink RX0 47 yX1_kindAt, Cond.instanceMethod yX1_kindAt, Cond.selects RX1 yX1_kindAt yX1_kindAt, Cond.initialized RX1, Cond.code yX1_kindAt cX1_kindAt 2 (some .int)]
def wsL_farthest_r3 : List Cond := [Cond.fieldLink RX1 9 "LedgeLevels$Grid" "kinds" "[I", Cond.methodLink RX0 63 yX1_keyBit, Cond.instanceMethod yX1_keyBit, Cond.selects RX1 yX1_keyBit yX1_keyBit, Cond.code yX1_keyBit cX1_keyBit 3 (some .int), Cond.fieldLink RX1 15 "LedgeLevels$Grid" "keyCells" "[I", Cond.methodLink RX5 48 yX5_noteBody, Cond.instanceMethod yX5_noteBody, Cond.selects RX5 yX5_noteBody yX5_noteBody, Cond.code yX5_noteBody cX5_noteBody 2 none, Cond.methodLink RX5 80 yX0_packed, Cond.instanceMethod yX0_packed, Cond.selects RX0 yX0_packed yX0_packed, Cond.code yX0_packed cX0_packed 1 (some .int), Cond.methodLink RX5 84 yX5_enqueueNew, Cond.instanceMethod yX5_enqueueNew, Cond.selects RX5 yX5_enqueueNew yX5_enqueueNew, Cond.code yX5_enqueueNew cX5_enqueueNew 2 none, Cond.fieldLink RX5 15 "LedgeLevels$Search" "seenIn" "[I", Cond.methodLink RX5 87 yX5_enqueue, Cond.instanceMethod yX5_enqueue, Cond.selects RX5 yX5_enqueue yX5_enqueue, Cond.code yX5_enqueue cX5_enqueue 2 none, Cond.fieldLink RX5 9 "LedgeLevels$Search" "queue" "[I"]
def wsL_farthest_r4 : List Cond := [Cond.methodLink RX5 52 yX5_queuedAt, Cond.instanceMethod yX5_queuedAt, Cond.selects RX5 yX5_queuedAt yX5_queuedAt, Cond.code yX5_queuedAt cX5_queuedAt 2 (some .int), Cond.methodLink RX5 56 yX5_tryInputsFrom, Cond.instanceMethod yX5_tryInputsFrom, Cond.selects RX5 yX5_tryInputsFrom yX5_tryInputsFrom, Cond.code yX5_tryInputsFrom cX5_tryInputsFrom 6 none, Cond.methodLink RX5 60 yX0_unpack, Cond.instanceMethod yX0_unpack, Cond.selects RX0 yX0_unpack yX0_unpack, Cond.code yX0_unpack cX0_unpack 2 none, Cond.methodLink RX5 63 yX0_stands, Cond.instanceMethod yX0_stands, Cond.selects RX0 yX0_stands yX0_stands, Cond.code yX0_stands cX0_stands 2 (some .boolean), Cond.methodLink RX0 32 yX0_isSolidIn, Cond.instanceMethod yX0_isSolidIn, Cond.selects RX0 yX0_isSolidIn yX0_isSolidIn, Cond.code yX0_isSolidIn cX0_isSolidIn 4 (some .boolean), Cond.methodLink RX5 67 yX0_move, Cond.instanceMethod yX0_move, Cond.selects RX0 yX0_move yX0_move, Cond.code yX0_move cX0_move 3 none]
def wsL_farthest_r5 : List Cond := [Cond.methodLink RX0 36 yX0_stands, Cond.methodLink RX0 40 yX0_goSideways, Cond.instanceMethod yX0_goSideways, Cond.selects RX0 yX0_goSideways yX0_goSideways, Cond.code yX0_goSideways cX0_goSideways 5 none, Cond.methodLink RX0 43 yX0_goUpOrDown, Cond.instanceMethod yX0_goUpOrDown, Cond.selects RX0 yX0_goUpOrDown yX0_goUpOrDown, Cond.code yX0_goUpOrDown cX0_goUpOrDown 5 none, Cond.methodLink RX0 53 yX0_strengthOf, Cond.instanceMethod yX0_strengthOf, Cond.selects RX0 yX0_strengthOf yX0_strengthOf, Cond.code yX0_strengthOf cX0_strengthOf 3 (some .int), Cond.fieldLink RX0 24 "LedgeLevels$Body" "strengths" "[I", Cond.methodLink RX7 224 yX5_farthestReached, Cond.instanceMethod yX5_farthestReached, Cond.selects RX5 yX5_farthestReached yX5_farthestReached, Cond.code yX5_farthestReached cX5_farthestReached 4 (some .int)]
def wsL_farthest : List Cond := .codeWith yL_farthest cL_farthest 4 (some .int) [(0, 9, 12, 13)] :: ((wsL_farthest_r1 ++ (wsL_farthest_r2 ++ (wsL_farthest_r3 ++ (wsL_farthest_r4 ++ wsL_farthest_r5)))) ++ wsX70 ++ wsX30 ++ wsX50 ++ wsX00 ++ wsX10 ++ (vx_atS RX7 271 "java/lang/IndexOutOfBoundsException" ["java/lang/RuntimeException", "java/lang/Exception"]).filter goodWord)
def wsL_strength : List Cond := .codeWith yL_strength cL_strength 4 (some .int) [(0, 9, 12, 13)] :: ([.classLink RL 13 "java/lang/IndexOutOfBoundsException", .methodLink RL 76 yX7_strength, .instanceMethod yX7_strength, .selects RX7 yX7_strength yX7_strength, .initialized RX7, .code yX7_strength cX7_strength 2 (some .int), .fieldLink RX7 7 "LedgeLevels" "strengths" "[I", .methodLink RX7 137 yX7_checkSpring, .static yX7_checkSpring, .code yX7_checkSpring cX7_checkSpring 1 none, .classLink RX7 267 "java/lang/IndexOutOfBoundsException", .initialized "java/lang/IndexOutOfBoundsException"] ++ wsX70 ++ (vx_atS RX7 271 "java/lang/IndexOutOfBoundsException" ["java/lang/RuntimeException", "java/lang/Exception"]).filter goodWord)
def wsL_author : List Cond := .codeWith yL_author cL_author 4 (some .int) [(0, 9, 12, 13)] :: ([.classLink RL 13 "java/lang/IndexOutOfBoundsException", .methodLink RL 79 yX7_author, .instanceMethod yX7_author, .selects RX7 yX7_author yX7_author, .initialized RX7, .code yX7_author cX7_author 2 (some .int), .methodLink RX7 142 yX7_workOf, .instanceMethod yX7_workOf, .selects RX7 yX7_workOf yX7_workOf, .code yX7_workOf cX7_workOf 3 (some (.object "LedgeLevels$Work")), .classLink RX7 267 "java/lang/IndexOutOfBoundsException", .initialized "java/lang/IndexOutOfBoundsException", .fieldLink RX7 21 "LedgeLevels" "works" "[LLedgeLevels$Work;"] ++ wsX60 ++ wsX70 ++ (vx_atS RX7 271 "java/lang/IndexOutOfBoundsException" ["java/lang/RuntimeException", "java/lang/Exception"]).filter goodWord)
def wsL_best : List Cond := .codeWith yL_best cL_best 4 (some .int) [(0, 9, 12, 13)] :: ([.classLink RL 13 "java/lang/IndexOutOfBoundsException", .methodLink RL 82 yX7_best, .instanceMethod yX7_best, .selects RX7 yX7_best yX7_best, .initialized RX7, .code yX7_best cX7_best 2 (some .int), .methodLink RX7 142 yX7_workOf, .instanceMethod yX7_workOf, .selects RX7 yX7_workOf yX7_workOf, .code yX7_workOf cX7_workOf 3 (some (.object "LedgeLevels$Work")), .classLink RX7 267 "java/lang/IndexOutOfBoundsException", .initialized "java/lang/IndexOutOfBoundsException", .fieldLink RX7 21 "LedgeLevels" "works" "[LLedgeLevels$Work;"] ++ wsX60 ++ wsX70 ++ (vx_atS RX7 271 "java/lang/IndexOutOfBoundsException" ["java/lang/RuntimeException", "java/lang/Exception"]).filter goodWord)
def wsL_parent : List Cond := .codeWith yL_parent cL_parent 4 (some .int) [(0, 9, 12, 13)] :: ([.classLink RL 13 "java/lang/IndexOutOfBoundsException", .methodLink RL 85 yX7_parent, .instanceMethod yX7_parent, .selects RX7 yX7_parent yX7_parent, .initialized RX7, .code yX7_parent cX7_parent 3 (some .int), .methodLink RX7 142 yX7_workOf, .instanceMethod yX7_workOf, .selects RX7 yX7_workOf yX7_workOf, .code yX7_workOf cX7_workOf 3 (some (.object "LedgeLevels$Work")), .classLink RX7 267 "java/lang/IndexOutOfBoundsException", .initialized "java/lang/IndexOutOfBoundsException", .fieldLink RX7 21 "LedgeLevels" "works" "[LLedgeLevels$Work;"] ++ wsX60 ++ wsX70 ++ (vx_atS RX7 271 "java/lang/IndexOutOfBoundsException" ["java/lang/RuntimeException", "java/lang/Exception"]).filter goodWord)
def wsL_line : List Cond := .codeWith yL_line cL_line 4 (some .int) [(0, 9, 12, 13)] :: ([.classLink RL 13 "java/lang/IndexOutOfBoundsException", .methodLink RL 88 yX7_line, .instanceMethod yX7_line, .selects RX7 yX7_line yX7_line, .initialized RX7, .code yX7_line cX7_line 5 (some .int), .fieldLink RX7 44 "LedgeLevels" "workCount" "I", .methodLink RX7 142 yX7_workOf, .instanceMethod yX7_workOf, .selects RX7 yX7_workOf yX7_workOf, .code yX7_workOf cX7_workOf 3 (some (.object "LedgeLevels$Work")), .classLink RX7 267 "java/lang/IndexOutOfBoundsException", .initialized "java/lang/IndexOutOfBoundsException", .fieldLink RX7 21 "LedgeLevels" "works" "[LLedgeLevels$Work;", .methodLink RX7 234 yX6_comesFrom, .instanceMethod yX6_comesFrom, .selects RX6 yX6_comesFrom yX6_comesFrom, .initialized RX6, .code yX6_comesFrom cX6_comesFrom 3 (some .boolean), .fieldLink RX6 39 "LedgeLevels$Work" "parent" "LLedgeLevels$Work;"] ++ wsX70 ++ wsX60 ++ (vx_atS RX7 271 "java/lang/IndexOutOfBoundsException" ["java/lang/RuntimeException", "java/lang/Exception"]).filter goodWord)
def wsL_stars : List Cond := .codeWith yL_stars cL_stars 4 (some .int) [(0, 9, 12, 13)] :: ([.classLink RL 13 "java/lang/IndexOutOfBoundsException", .methodLink RL 91 yX7_stars, .instanceMethod yX7_stars, .selects RX7 yX7_stars yX7_stars, .initialized RX7, .code yX7_stars cX7_stars 2 (some .int), .methodLink RX7 142 yX7_workOf, .instanceMethod yX7_workOf, .selects RX7 yX7_workOf yX7_workOf, .code yX7_workOf cX7_workOf 3 (some (.object "LedgeLevels$Work")), .classLink RX7 267 "java/lang/IndexOutOfBoundsException", .initialized "java/lang/IndexOutOfBoundsException", .fieldLink RX7 21 "LedgeLevels" "works" "[LLedgeLevels$Work;", .methodLink RX7 238 yX6_starSum, .instanceMethod yX6_starSum, .selects RX6 yX6_starSum yX6_starSum, .initialized RX6, .code yX6_starSum cX6_starSum 6 (some .int), .fieldLink RX6 18 "LedgeLevels$Work" "given" "[I"] ++ wsX70 ++ wsX60 ++ (vx_atS RX7 271 "java/lang/IndexOutOfBoundsException" ["java/lang/RuntimeException", "java/lang/Exception"]).filter goodWord)
def wsL_credit_r1 : List Cond := [Cond.classLink RL 13 "java/lang/IndexOutOfBoundsException", Cond.methodLink RL 94 yX7_credit, Cond.instanceMethod yX7_credit, Cond.selects RX7 yX7_credit yX7_credit, Cond.initialized RX7, Cond.code yX7_credit cX7_credit 5 (some .int), Cond.fieldLink RX7 44 "LedgeLevels" "workCount" "I", Cond.methodLink RX7 48 yX7_checkPerson, Cond.static yX7_checkPerson, Cond.code yX7_checkPerson cX7_checkPerson 1 none, Cond.classLink RX7 267 "java/lang/IndexOutOfBoundsException", Cond.initialized "java/lang/IndexOutOfBoundsException", Cond.methodLink RX7 142 yX7_workOf, Cond.instanceMethod yX7_workOf, Cond.selects RX7 yX7_workOf yX7_workOf, Cond.code yX7_workOf cX7_workOf 3 (some (.object "LedgeLevels$Work")), Cond.fieldLink RX7 21 "LedgeLevels" "works" "[LLedgeLevels$Work;", Cond.methodLink RX7 241 yX6_comesFromWorkBy, Cond.instanceMethod yX6_comesFromWorkBy, Cond.selects RX6 yX6_comesFromWorkBy yX6_comesFromWorkBy, Cond.initialized RX6, Cond.code yX6_comesFromWorkBy cX6_comesFromWorkBy 3 (some .boolean), Cond.fieldLink RX6 34 "LedgeLevels$Work" "author" "I", Cond.fieldLink RX6 39 "LedgeLevels$Work" "parent" "LLedgeLevels$Work;"]
def wsL_credit_r2 : List Cond := [Cond.methodLink RX7 238 yX6_starSum, Cond.instanceMethod yX6_starSum, Cond.selects RX6 yX6_starSum yX6_starSum, Cond.code yX6_starSum cX6_starSum 6 (some .int), Cond.fieldLink RX6 18 "LedgeLevels$Work" "given" "[I"]
def wsL_credit : List Cond := .codeWith yL_credit cL_credit 4 (some .int) [(0, 9, 12, 13)] :: ((wsL_credit_r1 ++ wsL_credit_r2) ++ wsX70 ++ wsX60 ++ (vx_atS RX7 271 "java/lang/IndexOutOfBoundsException" ["java/lang/RuntimeException", "java/lang/Exception"]).filter goodWord)
def wsL_record : List Cond := .codeWith yL_record cL_record 4 (some .int) [(0, 9, 12, 13)] :: ([.classLink RL 13 "java/lang/IndexOutOfBoundsException", .methodLink RL 97 yX7_record, .instanceMethod yX7_record, .selects RX7 yX7_record yX7_record, .initialized RX7, .code yX7_record cX7_record 2 (some .int), .methodLink RX7 142 yX7_workOf, .instanceMethod yX7_workOf, .selects RX7 yX7_workOf yX7_workOf, .code yX7_workOf cX7_workOf 3 (some (.object "LedgeLevels$Work")), .classLink RX7 267 "java/lang/IndexOutOfBoundsException", .initialized "java/lang/IndexOutOfBoundsException", .fieldLink RX7 21 "LedgeLevels" "works" "[LLedgeLevels$Work;"] ++ wsX60 ++ wsX70 ++ (vx_atS RX7 271 "java/lang/IndexOutOfBoundsException" ["java/lang/RuntimeException", "java/lang/Exception"]).filter goodWord)
def wsL_runState : List Cond := .codeWith yL_runState cL_runState 4 (some .int) [(0, 9, 12, 13)] :: ([.classLink RL 13 "java/lang/IndexOutOfBoundsException", .methodLink RL 100 yX7_runState, .instanceMethod yX7_runState, .selects RX7 yX7_runState yX7_runState, .initialized RX7, .code yX7_runState cX7_runState 2 (some .int), .methodLink RX7 190 yX7_runOf, .instanceMethod yX7_runOf, .selects RX7 yX7_runOf yX7_runOf, .code yX7_runOf cX7_runOf 3 (some (.object "LedgeLevels$Run")), .classLink RX7 267 "java/lang/IndexOutOfBoundsException", .initialized "java/lang/IndexOutOfBoundsException", .fieldLink RX7 27 "LedgeLevels" "runs" "[LLedgeLevels$Run;"] ++ wsX40 ++ wsX70 ++ (vx_atS RX7 271 "java/lang/IndexOutOfBoundsException" ["java/lang/RuntimeException", "java/lang/Exception"]).filter goodWord)
def wsL_body : List Cond := .codeWith yL_body cL_body 4 (some .int) [(0, 9, 12, 13)] :: ([.classLink RL 13 "java/lang/IndexOutOfBoundsException", .methodLink RL 103 yX7_body, .instanceMethod yX7_body, .selects RX7 yX7_body yX7_body, .initialized RX7, .code yX7_body cX7_body 3 (some .int), .methodLink RX7 190 yX7_runOf, .instanceMethod yX7_runOf, .selects RX7 yX7_runOf yX7_runOf, .code yX7_runOf cX7_runOf 3 (some (.object "LedgeLevels$Run")), .classLink RX7 267 "java/lang/IndexOutOfBoundsException", .initialized "java/lang/IndexOutOfBoundsException", .fieldLink RX7 27 "LedgeLevels" "runs" "[LLedgeLevels$Run;"] ++ wsX40 ++ wsX00 ++ wsX70 ++ (vx_atS RX7 271 "java/lang/IndexOutOfBoundsException" ["java/lang/RuntimeException", "java/lang/Exception"]).filter goodWord)
def wsL_speed : List Cond := .codeWith yL_speed cL_speed 4 (some .int) [(0, 9, 12, 13)] :: ([.classLink RL 13 "java/lang/IndexOutOfBoundsException", .methodLink RL 106 yX7_speed, .instanceMethod yX7_speed, .selects RX7 yX7_speed yX7_speed, .initialized RX7, .code yX7_speed cX7_speed 2 (some .int), .methodLink RX7 190 yX7_runOf, .instanceMethod yX7_runOf, .selects RX7 yX7_runOf yX7_runOf, .code yX7_runOf cX7_runOf 3 (some (.object "LedgeLevels$Run")), .classLink RX7 267 "java/lang/IndexOutOfBoundsException", .initialized "java/lang/IndexOutOfBoundsException", .fieldLink RX7 27 "LedgeLevels" "runs" "[LLedgeLevels$Run;"] ++ wsX40 ++ wsX00 ++ wsX70 ++ (vx_atS RX7 271 "java/lang/IndexOutOfBoundsException" ["java/lang/RuntimeException", "java/lang/Exception"]).filter goodWord)
def wsL_keys : List Cond := .codeWith yL_keys cL_keys 4 (some .int) [(0, 9, 12, 13)] :: ([.classLink RL 13 "java/lang/IndexOutOfBoundsException", .methodLink RL 109 yX7_keys, .instanceMethod yX7_keys, .selects RX7 yX7_keys yX7_keys, .initialized RX7, .code yX7_keys cX7_keys 2 (some .int), .methodLink RX7 190 yX7_runOf, .instanceMethod yX7_runOf, .selects RX7 yX7_runOf yX7_runOf, .code yX7_runOf cX7_runOf 3 (some (.object "LedgeLevels$Run")), .classLink RX7 267 "java/lang/IndexOutOfBoundsException", .initialized "java/lang/IndexOutOfBoundsException", .fieldLink RX7 27 "LedgeLevels" "runs" "[LLedgeLevels$Run;", .methodLink RX7 262 yJ6_bitCount_0f7a4, .static yJ6_bitCount_0f7a4, .initialized RJ6, .code yJ6_bitCount_0f7a4 cJ6_bitCount_0f7a4 1 (some .int), .constant RJ6 265 (1431655765), .constant RJ6 266 (858993459), .constant RJ6 267 (252645135)] ++ wsX40 ++ wsX00 ++ wsX70 ++ (vx_atS RX7 271 "java/lang/IndexOutOfBoundsException" ["java/lang/RuntimeException", "java/lang/Exception"]).filter goodWord)
def wsL_stepsOf : List Cond := .codeWith yL_stepsOf cL_stepsOf 4 (some .int) [(0, 9, 12, 13)] :: ([.classLink RL 13 "java/lang/IndexOutOfBoundsException", .methodLink RL 112 yX7_stepsOf, .instanceMethod yX7_stepsOf, .selects RX7 yX7_stepsOf yX7_stepsOf, .initialized RX7, .code yX7_stepsOf cX7_stepsOf 2 (some .int), .methodLink RX7 190 yX7_runOf, .instanceMethod yX7_runOf, .selects RX7 yX7_runOf yX7_runOf, .code yX7_runOf cX7_runOf 3 (some (.object "LedgeLevels$Run")), .classLink RX7 267 "java/lang/IndexOutOfBoundsException", .initialized "java/lang/IndexOutOfBoundsException", .fieldLink RX7 27 "LedgeLevels" "runs" "[LLedgeLevels$Run;"] ++ wsX40 ++ wsX70 ++ (vx_atS RX7 271 "java/lang/IndexOutOfBoundsException" ["java/lang/RuntimeException", "java/lang/Exception"]).filter goodWord)
def wsL_law0_r1 : List Cond := [Cond.classLink RL 8 RX7, Cond.instantiable RX7 7, Cond.initialized RX7, Cond.classLink RL 116 RX8, Cond.instantiable RX8 38, Cond.initialized RX8, Cond.arrayClass .long, Cond.methodLink RL 115 yX7_init, Cond.instanceMethod yX7_init, Cond.code yX7_init cX7_init 2 none, Cond.methodLink RX7 1 objectInit, Cond.instanceMethod objectInit, Cond.code objectInit ⟨#[0xb1]⟩ 1 none, Cond.arrayClass .int, Cond.fieldLink RX7 7 "LedgeLevels" "strengths" "[I", Cond.classLink RX7 13 RX3, Cond.fieldLink RX7 15 "LedgeLevels" "levels" "[LLedgeLevels$Level;", Cond.classLink RX7 19 RX6, Cond.fieldLink RX7 21 "LedgeLevels" "works" "[LLedgeLevels$Work;", Cond.classLink RX7 25 RX4, Cond.fieldLink RX7 27 "LedgeLevels" "runs" "[LLedgeLevels$Run;", Cond.classLink RX7 31 RX5, Cond.instantiable RX5 7, Cond.initialized RX5]
def wsL_law0_r2 : List Cond := [Cond.fieldLink RX7 36 "LedgeLevels" "search" "LLedgeLevels$Search;", Cond.fieldLink RX7 40 "LedgeLevels" "levelCount" "I", Cond.fieldLink RX7 44 "LedgeLevels" "workCount" "I", Cond.instantiable RX4 4, Cond.initialized RX4, Cond.methodLink RX7 33 yX5_init, Cond.instanceMethod yX5_init, Cond.code yX5_init cX5_init 2 none, Cond.methodLink RX5 3 objectInit, Cond.fieldLink RX5 9 "LedgeLevels$Search" "queue" "[I", Cond.fieldLink RX5 15 "LedgeLevels$Search" "seenIn" "[I", Cond.arrayClass .boolean, Cond.fieldLink RX5 18 "LedgeLevels$Search" "reached" "[Z", Cond.fieldLink RX5 22 "LedgeLevels$Search" "number" "I", Cond.fieldLink RX5 26 "LedgeLevels$Search" "tail" "I", Cond.fieldLink RX5 29 "LedgeLevels$Search" "won" "I", Cond.classLink RX5 32 RX0, Cond.instantiable RX0 5, Cond.initialized RX0, Cond.fieldLink RX5 37 "LedgeLevels$Search" "body" "LLedgeLevels$Body;", Cond.methodLink RX5 34 yX0_init, Cond.instanceMethod yX0_init, Cond.code yX0_init cX0_init 2 none, Cond.methodLink RX0 3 objectInit]
def wsL_law0_r3 : List Cond := [Cond.fieldLink RX0 9 "LedgeLevels$Body" "cell" "I", Cond.fieldLink RX0 15 "LedgeLevels$Body" "speed" "I", Cond.fieldLink RX0 18 "LedgeLevels$Body" "taken" "I", Cond.fieldLink RX0 21 "LedgeLevels$Body" "fate" "I", Cond.fieldLink RX0 24 "LedgeLevels$Body" "strengths" "[I", Cond.methodLink RX7 47 yX4_init, Cond.instanceMethod yX4_init, Cond.code yX4_init cX4_init 2 none, Cond.methodLink RX4 3 objectInit, Cond.fieldLink RX4 9 "LedgeLevels$Run" "work" "LLedgeLevels$Work;", Cond.fieldLink RX4 15 "LedgeLevels$Run" "state" "I", Cond.fieldLink RX4 19 "LedgeLevels$Run" "steps" "I", Cond.classLink RX4 22 RX0, Cond.fieldLink RX4 27 "LedgeLevels$Run" "body" "LLedgeLevels$Body;", Cond.methodLink RX4 24 yX0_init, Cond.methodLink RL 118 yX8_init, Cond.instanceMethod yX8_init, Cond.code yX8_init cX8_init 2 none, Cond.methodLink RX8 1 objectInit, Cond.fieldLink RX8 7 "LedgeLevelsModel" "strength" "[I", Cond.fieldLink RX8 13 "LedgeLevelsModel" "maker" "[I", Cond.fieldLink RX8 16 "LedgeLevelsModel" "grid" "[I", Cond.fieldLink RX8 19 "LedgeLevelsModel" "begins" "[I", Cond.fieldLink RX8 22 "LedgeLevelsModel" "proofs" "[I"]
def wsL_law0_r4 : List Cond := [Cond.fieldLink RX8 25 "LedgeLevelsModel" "origin" "[I", Cond.fieldLink RX8 28 "LedgeLevelsModel" "undos" "[I", Cond.fieldLink RX8 31 "LedgeLevelsModel" "undoCell" "[I", Cond.fieldLink RX8 34 "LedgeLevelsModel" "undoKind" "[I", Cond.fieldLink RX8 37 "LedgeLevelsModel" "redos" "[I", Cond.fieldLink RX8 40 "LedgeLevelsModel" "redoCell" "[I", Cond.fieldLink RX8 43 "LedgeLevelsModel" "redoKind" "[I", Cond.fieldLink RX8 46 "LedgeLevelsModel" "author" "[I", Cond.fieldLink RX8 49 "LedgeLevelsModel" "shape" "[I", Cond.fieldLink RX8 52 "LedgeLevelsModel" "from" "[I", Cond.fieldLink RX8 55 "LedgeLevelsModel" "best" "[I", Cond.fieldLink RX8 58 "LedgeLevelsModel" "parent" "[I", Cond.fieldLink RX8 61 "LedgeLevelsModel" "record" "[I", Cond.fieldLink RX8 64 "LedgeLevelsModel" "stars" "[I", Cond.fieldLink RX8 67 "LedgeLevelsModel" "runState" "[I", Cond.fieldLink RX8 70 "LedgeLevelsModel" "runWork" "[I", Cond.fieldLink RX8 73 "LedgeLevelsModel" "runCell" "[I", Cond.fieldLink RX8 76 "LedgeLevelsModel" "runSpeed" "[I", Cond.fieldLink RX8 79 "LedgeLevelsModel" "runTaken" "[I", Cond.fieldLink RX8 82 "LedgeLevelsModel" "runSteps" "[I", Cond.fieldLink RX8 85 "LedgeLevelsModel" "ground" "[I", Cond.fieldLink RX8 88 "LedgeLevelsModel" "keyBit" "[I", Cond.fieldLink RX8 91 "LedgeLevelsModel" "queue" "[I", Cond.fieldLink RX8 94 "LedgeLevelsModel" "far" "[I"]
def wsL_law0_r5 : List Cond := [Cond.fieldLink RX8 97 "LedgeLevelsModel" "reached" "[Z", Cond.methodLink RL 119 yL_begin, Cond.static yL_begin, Cond.initialized RL, Cond.codeWith yL_begin cL_begin 4 (some .int) [(0, 9, 12, 13), (0, 9, 15, 15)], Cond.classLink RL 13 "java/lang/IndexOutOfBoundsException", Cond.classLink RL 15 "java/lang/IllegalStateException", Cond.methodLink RL 7 yX7_begin, Cond.instanceMethod yX7_begin, Cond.selects RX7 yX7_begin yX7_begin, Cond.code yX7_begin cX7_begin 4 (some .int), Cond.methodLink RX7 48 yX7_checkPerson, Cond.static yX7_checkPerson, Cond.code yX7_checkPerson cX7_checkPerson 1 none, Cond.classLink RX7 267 "java/lang/IndexOutOfBoundsException", Cond.initialized "java/lang/IndexOutOfBoundsException", Cond.methodLink RX7 52 yX7_addLevel, Cond.instanceMethod yX7_addLevel, Cond.selects RX7 yX7_addLevel yX7_addLevel, Cond.code yX7_addLevel cX7_addLevel 4 (some (.object "LedgeLevels$Level")), Cond.classLink RX7 88 "java/lang/IllegalStateException", Cond.initialized "java/lang/IllegalStateException", Cond.instantiable RX3 6, Cond.initialized RX3]
def wsL_law0_r6 : List Cond := [Cond.methodLink RX7 287 yX3_init, Cond.instanceMethod yX3_init, Cond.code yX3_init cX3_init 3 none, Cond.methodLink RX3 3 objectInit, Cond.classLink RX3 9 RX1, Cond.instantiable RX1 3, Cond.initialized RX1, Cond.fieldLink RX3 12 "LedgeLevels$Level" "grid" "LLedgeLevels$Grid;", Cond.classLink RX3 18 RX2, Cond.instantiable RX2 5, Cond.initialized RX2, Cond.fieldLink RX3 21 "LedgeLevels$Level" "history" "LLedgeLevels$History;", Cond.fieldLink RX3 25 "LedgeLevels$Level" "start" "I", Cond.fieldLink RX3 29 "LedgeLevels$Level" "proof" "I", Cond.fieldLink RX3 32 "LedgeLevels$Level" "author" "I", Cond.fieldLink RX3 35 "LedgeLevels$Level" "parent" "LLedgeLevels$Work;", Cond.instanceMethod yX1_init, Cond.code yX1_init cX1_init 1 none, Cond.methodLink RX1 3 objectInit, Cond.fieldLink RX1 9 "LedgeLevels$Grid" "kinds" "[I", Cond.fieldLink RX1 15 "LedgeLevels$Grid" "keyCells" "[I", Cond.fieldLink RX1 18 "LedgeLevels$Grid" "allKeys" "I", Cond.instanceMethod yX2_init, Cond.code yX2_init cX2_init 1 none]
def wsL_law0_r7 : List Cond := [Cond.methodLink RX2 3 objectInit, Cond.fieldLink RX2 9 "LedgeLevels$History" "cells" "[I", Cond.fieldLink RX2 15 "LedgeLevels$History" "kindsBefore" "[I", Cond.fieldLink RX2 18 "LedgeLevels$History" "kindsAfter" "[I", Cond.fieldLink RX2 21 "LedgeLevels$History" "done" "I", Cond.fieldLink RX2 25 "LedgeLevels$History" "undone" "I", Cond.methodLink RX7 60 yX1_put, Cond.instanceMethod yX1_put, Cond.selects RX1 yX1_put yX1_put, Cond.code yX1_put cX1_put 3 none, Cond.static yX7_isCell, Cond.code yX7_isCell cX7_isCell 1 (some .boolean), Cond.methodLink RX1 26 yX1_changeKey, Cond.instanceMethod yX1_changeKey, Cond.selects RX1 yX1_changeKey yX1_changeKey, Cond.code yX1_changeKey cX1_changeKey 4 none, Cond.methodLink RL 124 yX8_begin, Cond.instanceMethod yX8_begin, Cond.selects RX8 yX8_begin yX8_begin, Cond.code yX8_begin cX8_begin 3 (some .int), Cond.fieldLink RX8 101 "LedgeLevelsModel" "thrown" "I", Cond.fieldLink RX8 109 "LedgeLevelsModel" "levels" "I", Cond.methodLink RX8 149 yX8_isPerson, Cond.static yX8_isPerson]
def wsL_law0_r8 : List Cond := [Cond.code yX8_isPerson cX8_isPerson 1 (some .boolean), Cond.methodLink RX8 105 yX8_in, Cond.static yX8_in, Cond.code yX8_in cX8_in 3 (some .boolean), Cond.methodLink RX8 153 yX8_fails, Cond.instanceMethod yX8_fails, Cond.selects RX8 yX8_fails yX8_fails, Cond.code yX8_fails cX8_fails 2 (some .int), Cond.methodLink RX8 157 yX8_opens, Cond.instanceMethod yX8_opens, Cond.selects RX8 yX8_opens yX8_opens, Cond.code yX8_opens cX8_opens 4 (some .int), Cond.methodLink RL 125 yX8_thrown, Cond.instanceMethod yX8_thrown, Cond.selects RX8 yX8_thrown yX8_thrown, Cond.code yX8_thrown cX8_thrown 1 (some .int), Cond.methodLink RL 129 yL_set, Cond.static yL_set, Cond.codeWith yL_set cL_set 6 (some .int) [(0, 12, 15, 13), (0, 12, 19, 21), (0, 12, 23, 15)], Cond.classLink RL 21 "java/lang/IllegalArgumentException", Cond.methodLink RL 17 yX7_set, Cond.instanceMethod yX7_set, Cond.selects RX7 yX7_set yX7_set, Cond.code yX7_set cX7_set 6 (some .int)]
def wsL_law0_r9 : List Cond := [Cond.classLink RX7 73 "java/lang/IllegalArgumentException", Cond.initialized "java/lang/IllegalArgumentException", Cond.methodLink RX7 66 yX7_levelOf, Cond.instanceMethod yX7_levelOf, Cond.selects RX7 yX7_levelOf yX7_levelOf, Cond.code yX7_levelOf cX7_levelOf 3 (some (.object "LedgeLevels$Level")), Cond.methodLink RX7 70 yX7_checkCell, Cond.static yX7_checkCell, Cond.code yX7_checkCell cX7_checkCell 1 none, Cond.methodLink RX7 272 yX7_isCell, Cond.methodLink RX7 80 yX1_kindAt, Cond.instanceMethod yX1_kindAt, Cond.selects RX1 yX1_kindAt yX1_kindAt, Cond.code yX1_kindAt cX1_kindAt 2 (some .int), Cond.methodLink RX7 84 yX1_keyCount, Cond.instanceMethod yX1_keyCount, Cond.selects RX1 yX1_keyCount yX1_keyCount, Cond.code yX1_keyCount cX1_keyCount 1 (some .int), Cond.methodLink RX1 37 yJ6_bitCount_0f7a4, Cond.static yJ6_bitCount_0f7a4, Cond.initialized RJ6, Cond.code yJ6_bitCount_0f7a4 cJ6_bitCount_0f7a4 1 (some .int), Cond.constant RJ6 265 (1431655765), Cond.constant RJ6 266 (858993459)]
def wsL_law0_r10 : List Cond := [Cond.constant RJ6 267 (252645135), Cond.methodLink RX7 97 yX2_remember, Cond.instanceMethod yX2_remember, Cond.selects RX2 yX2_remember yX2_remember, Cond.code yX2_remember cX2_remember 4 none, Cond.methodLink RX2 28 yX2_forgetEarliest, Cond.instanceMethod yX2_forgetEarliest, Cond.selects RX2 yX2_forgetEarliest yX2_forgetEarliest, Cond.code yX2_forgetEarliest cX2_forgetEarliest 2 none, Cond.methodLink RX7 103 yX3_putAnew, Cond.instanceMethod yX3_putAnew, Cond.selects RX3 yX3_putAnew yX3_putAnew, Cond.code yX3_putAnew cX3_putAnew 3 none, Cond.methodLink RX3 39 yX1_put, Cond.methodLink RL 132 yX8_set, Cond.instanceMethod yX8_set, Cond.selects RX8 yX8_set yX8_set, Cond.code yX8_set cX8_set 5 (some .int), Cond.methodLink RX8 161 yX8_isLevel, Cond.instanceMethod yX8_isLevel, Cond.selects RX8 yX8_isLevel yX8_isLevel, Cond.code yX8_isLevel cX8_isLevel 2 (some .boolean), Cond.methodLink RX8 164 yX8_isCell, Cond.static yX8_isCell]
def wsL_law0_r11 : List Cond := [Cond.code yX8_isCell cX8_isCell 1 (some .boolean), Cond.methodLink RX8 167 yX8_keysOf, Cond.instanceMethod yX8_keysOf, Cond.selects RX8 yX8_keysOf yX8_keysOf, Cond.code yX8_keysOf cX8_keysOf 4 (some .int), Cond.methodLink RX8 170 yX8_remembers, Cond.instanceMethod yX8_remembers, Cond.selects RX8 yX8_remembers yX8_remembers, Cond.code yX8_remembers cX8_remembers 6 none, Cond.methodLink RL 133 yL_setStart, Cond.static yL_setStart, Cond.codeWith yL_setStart cL_setStart 5 (some .int) [(0, 10, 13, 13)], Cond.methodLink RL 23 yX7_setStart, Cond.instanceMethod yX7_setStart, Cond.selects RX7 yX7_setStart yX7_setStart, Cond.code yX7_setStart cX7_setStart 5 (some .int), Cond.methodLink RL 136 yX8_setStart, Cond.instanceMethod yX8_setStart, Cond.selects RX8 yX8_setStart yX8_setStart, Cond.code yX8_setStart cX8_setStart 4 (some .int), Cond.methodLink RL 137 yL_undo, Cond.static yL_undo, Cond.codeWith yL_undo cL_undo 4 (some .int) [(0, 9, 12, 13), (0, 9, 15, 15)], Cond.methodLink RL 27 yX7_undo]
def wsL_law0_r12 : List Cond := [Cond.instanceMethod yX7_undo, Cond.selects RX7 yX7_undo yX7_undo, Cond.code yX7_undo cX7_undo 5 (some .int), Cond.methodLink RX7 117 yX2_stepBack, Cond.instanceMethod yX2_stepBack, Cond.selects RX2 yX2_stepBack yX2_stepBack, Cond.code yX2_stepBack cX2_stepBack 1 none, Cond.methodLink RX7 120 yX2_cellOfNext, Cond.instanceMethod yX2_cellOfNext, Cond.selects RX2 yX2_cellOfNext yX2_cellOfNext, Cond.code yX2_cellOfNext cX2_cellOfNext 1 (some .int), Cond.methodLink RX2 31 yX2_hasNext, Cond.instanceMethod yX2_hasNext, Cond.selects RX2 yX2_hasNext yX2_hasNext, Cond.code yX2_hasNext cX2_hasNext 1 (some .boolean), Cond.methodLink RX7 123 yX2_kindBeforeNext, Cond.instanceMethod yX2_kindBeforeNext, Cond.selects RX2 yX2_kindBeforeNext yX2_kindBeforeNext, Cond.code yX2_kindBeforeNext cX2_kindBeforeNext 1 (some .int), Cond.methodLink RL 139 yX8_undo, Cond.instanceMethod yX8_undo, Cond.selects RX8 yX8_undo yX8_undo, Cond.code yX8_undo cX8_undo 3 (some .int), Cond.methodLink RL 140 yL_redo]
def wsL_law0_r13 : List Cond := [Cond.static yL_redo, Cond.codeWith yL_redo cL_redo 4 (some .int) [(0, 9, 12, 13), (0, 9, 15, 15)], Cond.methodLink RL 30 yX7_redo, Cond.instanceMethod yX7_redo, Cond.selects RX7 yX7_redo yX7_redo, Cond.code yX7_redo cX7_redo 5 (some .int), Cond.methodLink RX7 131 yX2_kindAfterNext, Cond.instanceMethod yX2_kindAfterNext, Cond.selects RX2 yX2_kindAfterNext yX2_kindAfterNext, Cond.code yX2_kindAfterNext cX2_kindAfterNext 1 (some .int), Cond.methodLink RX7 134 yX2_stepOn, Cond.instanceMethod yX2_stepOn, Cond.selects RX2 yX2_stepOn yX2_stepOn, Cond.code yX2_stepOn cX2_stepOn 1 none, Cond.methodLink RL 142 yX8_redo, Cond.instanceMethod yX8_redo, Cond.selects RX8 yX8_redo yX8_redo, Cond.code yX8_redo cX8_redo 3 (some .int), Cond.methodLink RL 143 yL_setSpring, Cond.static yL_setSpring, Cond.codeWith yL_setSpring cL_setSpring 5 (some .int) [(0, 10, 13, 13), (0, 10, 17, 21)], Cond.methodLink RL 33 yX7_setSpring, Cond.instanceMethod yX7_setSpring, Cond.selects RX7 yX7_setSpring yX7_setSpring]
def wsL_law0_r14 : List Cond := [Cond.code yX7_setSpring cX7_setSpring 5 (some .int), Cond.methodLink RX7 137 yX7_checkSpring, Cond.static yX7_checkSpring, Cond.code yX7_checkSpring cX7_checkSpring 1 none, Cond.methodLink RX7 142 yX7_workOf, Cond.instanceMethod yX7_workOf, Cond.selects RX7 yX7_workOf yX7_workOf, Cond.code yX7_workOf cX7_workOf 3 (some (.object "LedgeLevels$Work")), Cond.methodLink RX7 147 yX1_has, Cond.instanceMethod yX1_has, Cond.selects RX1 yX1_has yX1_has, Cond.code yX1_has cX1_has 3 (some .boolean), Cond.methodLink RX7 152 yX5_explore, Cond.instanceMethod yX5_explore, Cond.selects RX5 yX5_explore yX5_explore, Cond.code yX5_explore cX5_explore 8 (some .int), Cond.methodLink RX5 41 yX5_restart, Cond.instanceMethod yX5_restart, Cond.selects RX5 yX5_restart yX5_restart, Cond.code yX5_restart cX5_restart 2 none, Cond.methodLink RX5 44 yX0_placeAtStart, Cond.instanceMethod yX0_placeAtStart, Cond.selects RX0 yX0_placeAtStart yX0_placeAtStart, Cond.code yX0_placeAtStart cX0_placeAtStart 3 none]
def wsL_law0_r15 : List Cond := [Cond.methodLink RX0 28 yX0_comeTo, Cond.instanceMethod yX0_comeTo, Cond.selects RX0 yX0_comeTo yX0_comeTo, Cond.code yX0_comeTo cX0_comeTo 4 none, Cond.methodLink RX0 47 yX1_kindAt, Cond.methodLink RX0 63 yX1_keyBit, Cond.instanceMethod yX1_keyBit, Cond.selects RX1 yX1_keyBit yX1_keyBit, Cond.code yX1_keyBit cX1_keyBit 3 (some .int), Cond.methodLink RX5 48 yX5_noteBody, Cond.instanceMethod yX5_noteBody, Cond.selects RX5 yX5_noteBody yX5_noteBody, Cond.code yX5_noteBody cX5_noteBody 2 none, Cond.methodLink RX5 80 yX0_packed, Cond.instanceMethod yX0_packed, Cond.selects RX0 yX0_packed yX0_packed, Cond.code yX0_packed cX0_packed 1 (some .int), Cond.methodLink RX5 84 yX5_enqueueNew, Cond.instanceMethod yX5_enqueueNew, Cond.selects RX5 yX5_enqueueNew yX5_enqueueNew, Cond.code yX5_enqueueNew cX5_enqueueNew 2 none, Cond.methodLink RX5 87 yX5_enqueue, Cond.instanceMethod yX5_enqueue, Cond.selects RX5 yX5_enqueue yX5_enqueue]
def wsL_law0_r16 : List Cond := [Cond.code yX5_enqueue cX5_enqueue 2 none, Cond.methodLink RX5 52 yX5_queuedAt, Cond.instanceMethod yX5_queuedAt, Cond.selects RX5 yX5_queuedAt yX5_queuedAt, Cond.code yX5_queuedAt cX5_queuedAt 2 (some .int), Cond.methodLink RX5 56 yX5_tryInputsFrom, Cond.instanceMethod yX5_tryInputsFrom, Cond.selects RX5 yX5_tryInputsFrom yX5_tryInputsFrom, Cond.code yX5_tryInputsFrom cX5_tryInputsFrom 6 none, Cond.methodLink RX5 60 yX0_unpack, Cond.instanceMethod yX0_unpack, Cond.selects RX0 yX0_unpack yX0_unpack, Cond.code yX0_unpack cX0_unpack 2 none, Cond.methodLink RX5 63 yX0_stands, Cond.instanceMethod yX0_stands, Cond.selects RX0 yX0_stands yX0_stands, Cond.code yX0_stands cX0_stands 2 (some .boolean), Cond.methodLink RX0 32 yX0_isSolidIn, Cond.instanceMethod yX0_isSolidIn, Cond.selects RX0 yX0_isSolidIn yX0_isSolidIn, Cond.code yX0_isSolidIn cX0_isSolidIn 4 (some .boolean), Cond.methodLink RX5 67 yX0_move, Cond.instanceMethod yX0_move, Cond.selects RX0 yX0_move yX0_move]
def wsL_law0_r17 : List Cond := [Cond.code yX0_move cX0_move 3 none, Cond.methodLink RX0 36 yX0_stands, Cond.methodLink RX0 40 yX0_goSideways, Cond.instanceMethod yX0_goSideways, Cond.selects RX0 yX0_goSideways yX0_goSideways, Cond.code yX0_goSideways cX0_goSideways 5 none, Cond.methodLink RX0 43 yX0_goUpOrDown, Cond.instanceMethod yX0_goUpOrDown, Cond.selects RX0 yX0_goUpOrDown yX0_goUpOrDown, Cond.code yX0_goUpOrDown cX0_goUpOrDown 5 none, Cond.methodLink RX0 53 yX0_strengthOf, Cond.instanceMethod yX0_strengthOf, Cond.selects RX0 yX0_strengthOf yX0_strengthOf, Cond.code yX0_strengthOf cX0_strengthOf 3 (some .int), Cond.methodLink RX7 159 yX7_endRunsIfWithdrawn, Cond.instanceMethod yX7_endRunsIfWithdrawn, Cond.selects RX7 yX7_endRunsIfWithdrawn yX7_endRunsIfWithdrawn, Cond.code yX7_endRunsIfWithdrawn cX7_endRunsIfWithdrawn 4 none, Cond.methodLink RX7 190 yX7_runOf, Cond.instanceMethod yX7_runOf, Cond.selects RX7 yX7_runOf yX7_runOf, Cond.code yX7_runOf cX7_runOf 3 (some (.object "LedgeLevels$Run")), Cond.methodLink RX7 163 yX7_voidProofsWith, Cond.instanceMethod yX7_voidProofsWith]
def wsL_law0_r18 : List Cond := [Cond.selects RX7 yX7_voidProofsWith yX7_voidProofsWith, Cond.code yX7_voidProofsWith cX7_voidProofsWith 5 (some .int), Cond.methodLink RL 145 yX8_setSpring, Cond.instanceMethod yX8_setSpring, Cond.selects RX8 yX8_setSpring yX8_setSpring, Cond.code yX8_setSpring cX8_setSpring 6 (some .int), Cond.fieldLink RX8 112 "LedgeLevelsModel" "works" "I", Cond.methodLink RX8 181 yX8_isInLevel, Cond.instanceMethod yX8_isInLevel, Cond.selects RX8 yX8_isInLevel yX8_isInLevel, Cond.code yX8_isInLevel cX8_isInLevel 5 (some .boolean), Cond.methodLink RX8 184 yX8_isInWork, Cond.instanceMethod yX8_isInWork, Cond.selects RX8 yX8_isInWork yX8_isInWork, Cond.code yX8_isInWork cX8_isInWork 5 (some .boolean), Cond.methodLink RX8 187 yX8_tries, Cond.instanceMethod yX8_tries, Cond.selects RX8 yX8_tries yX8_tries, Cond.code yX8_tries cX8_tries 4 none, Cond.methodLink RX8 174 yX8_lays, Cond.instanceMethod yX8_lays, Cond.selects RX8 yX8_lays yX8_lays, Cond.code yX8_lays cX8_lays 4 none, Cond.fieldLink RX8 115 "LedgeLevelsModel" "allKeys" "I"]
def wsL_law0_r19 : List Cond := [Cond.methodLink RX8 178 yX8_searches, Cond.instanceMethod yX8_searches, Cond.selects RX8 yX8_searches yX8_searches, Cond.code yX8_searches cX8_searches 6 (some .int), Cond.fieldLink RX8 121 "LedgeLevelsModel" "state" "I", Cond.fieldLink RX8 124 "LedgeLevelsModel" "cell" "I", Cond.fieldLink RX8 127 "LedgeLevelsModel" "speed" "I", Cond.fieldLink RX8 118 "LedgeLevelsModel" "taken" "I", Cond.methodLink RX8 138 yX8_starts, Cond.instanceMethod yX8_starts, Cond.selects RX8 yX8_starts yX8_starts, Cond.code yX8_starts cX8_starts 2 none, Cond.methodLink RX8 130 yX8_comes, Cond.instanceMethod yX8_comes, Cond.selects RX8 yX8_comes yX8_comes, Cond.code yX8_comes cX8_comes 3 none, Cond.methodLink RX8 142 yX8_code, Cond.instanceMethod yX8_code, Cond.selects RX8 yX8_code yX8_code, Cond.code yX8_code cX8_code 1 (some .int), Cond.methodLink RX8 146 yX8_moves, Cond.instanceMethod yX8_moves, Cond.selects RX8 yX8_moves yX8_moves, Cond.code yX8_moves cX8_moves 8 none]
def wsL_law0_r20 : List Cond := [Cond.methodLink RX8 134 yX8_isSolid, Cond.instanceMethod yX8_isSolid, Cond.selects RX8 yX8_isSolid yX8_isSolid, Cond.code yX8_isSolid cX8_isSolid 4 (some .boolean), Cond.methodLink RL 146 yL_prove, Cond.static yL_prove, Cond.codeWith yL_prove cL_prove 4 (some .int) [(0, 9, 12, 13)], Cond.methodLink RL 36 yX7_prove, Cond.instanceMethod yX7_prove, Cond.selects RX7 yX7_prove yX7_prove, Cond.code yX7_prove cX7_prove 3 (some .int), Cond.methodLink RL 148 yX8_prove, Cond.instanceMethod yX8_prove, Cond.selects RX8 yX8_prove yX8_prove, Cond.code yX8_prove cX8_prove 2 (some .int), Cond.methodLink RL 149 yL_offer, Cond.static yL_offer, Cond.codeWith yL_offer cL_offer 4 (some .int) [(0, 9, 12, 13), (0, 9, 15, 15)], Cond.methodLink RL 39 yX7_offer, Cond.instanceMethod yX7_offer, Cond.selects RX7 yX7_offer yX7_offer, Cond.code yX7_offer cX7_offer 3 (some .int), Cond.instantiable RX6 8, Cond.initialized RX6]
def wsL_law0_r21 : List Cond := [Cond.methodLink RX7 170 yX6_init, Cond.instanceMethod yX6_init, Cond.code yX6_init cX6_init 3 none, Cond.methodLink RX6 3 objectInit, Cond.classLink RX6 9 RX1, Cond.fieldLink RX6 12 "LedgeLevels$Work" "grid" "LLedgeLevels$Grid;", Cond.fieldLink RX6 18 "LedgeLevels$Work" "given" "[I", Cond.fieldLink RX6 22 "LedgeLevels$Work" "record" "I", Cond.fieldLink RX6 26 "LedgeLevels$Work" "number" "I", Cond.fieldLink RX6 34 "LedgeLevels$Work" "author" "I", Cond.fieldLink RX6 39 "LedgeLevels$Work" "parent" "LLedgeLevels$Work;", Cond.fieldLink RX6 48 "LedgeLevels$Work" "start" "I", Cond.fieldLink RX6 52 "LedgeLevels$Work" "best" "I", Cond.methodLink RX6 41 yX1_putAllOf, Cond.instanceMethod yX1_putAllOf, Cond.selects RX1 yX1_putAllOf yX1_putAllOf, Cond.code yX1_putAllOf cX1_putAllOf 3 none, Cond.methodLink RX1 30 yX1_kindAt, Cond.methodLink RX1 34 yX1_put, Cond.methodLink RL 151 yX8_offer, Cond.instanceMethod yX8_offer, Cond.selects RX8 yX8_offer yX8_offer, Cond.code yX8_offer cX8_offer 3 (some .int), Cond.methodLink RL 152 yL_copy]
def wsL_law0_r22 : List Cond := [Cond.static yL_copy, Cond.codeWith yL_copy cL_copy 5 (some .int) [(0, 10, 13, 13), (0, 10, 17, 15)], Cond.methodLink RL 42 yX7_copy, Cond.instanceMethod yX7_copy, Cond.selects RX7 yX7_copy yX7_copy, Cond.code yX7_copy cX7_copy 5 (some .int), Cond.methodLink RX7 173 yX7_checkNotWithdrawn, Cond.static yX7_checkNotWithdrawn, Cond.code yX7_checkNotWithdrawn cX7_checkNotWithdrawn 1 none, Cond.methodLink RX7 176 yX1_putAllOf, Cond.methodLink RL 154 yX8_copy, Cond.instanceMethod yX8_copy, Cond.selects RX8 yX8_copy yX8_copy, Cond.code yX8_copy cX8_copy 4 (some .int), Cond.methodLink RX8 190 yX8_isWork, Cond.instanceMethod yX8_isWork, Cond.selects RX8 yX8_isWork yX8_isWork, Cond.code yX8_isWork cX8_isWork 2 (some .boolean), Cond.methodLink RL 155 yL_star, Cond.static yL_star, Cond.codeWith yL_star cL_star 6 (some .int) [(0, 12, 15, 13), (0, 12, 19, 21), (0, 12, 23, 15)], Cond.methodLink RL 45 yX7_star, Cond.instanceMethod yX7_star, Cond.selects RX7 yX7_star yX7_star]
def wsL_law0_r23 : List Cond := [Cond.code yX7_star cX7_star 6 (some .int), Cond.methodLink RL 157 yX8_star, Cond.instanceMethod yX8_star, Cond.selects RX8 yX8_star yX8_star, Cond.code yX8_star cX8_star 5 (some .int), Cond.methodLink RL 158 yL_run, Cond.static yL_run, Cond.codeWith yL_run cL_run 5 (some .int) [(0, 10, 13, 13), (0, 10, 17, 15)], Cond.methodLink RL 48 yX7_run, Cond.instanceMethod yX7_run, Cond.selects RX7 yX7_run yX7_run, Cond.code yX7_run cX7_run 5 (some .int), Cond.methodLink RX7 194 yX4_beginOn, Cond.instanceMethod yX4_beginOn, Cond.selects RX4 yX4_beginOn yX4_beginOn, Cond.code yX4_beginOn cX4_beginOn 2 none, Cond.methodLink RX4 40 yX0_placeAtStart, Cond.methodLink RX4 44 yX4_takeStateOfBody, Cond.instanceMethod yX4_takeStateOfBody, Cond.selects RX4 yX4_takeStateOfBody yX4_takeStateOfBody, Cond.code yX4_takeStateOfBody cX4_takeStateOfBody 1 none, Cond.methodLink RX4 53 yX6_noteWin, Cond.instanceMethod yX6_noteWin, Cond.selects RX6 yX6_noteWin yX6_noteWin]
def wsL_law0_r24 : List Cond := [Cond.code yX6_noteWin cX6_noteWin 2 none, Cond.methodLink RX7 197 yX4_answer, Cond.instanceMethod yX4_answer, Cond.selects RX4 yX4_answer yX4_answer, Cond.code yX4_answer cX4_answer 1 (some .int), Cond.methodLink RL 160 yX8_run, Cond.instanceMethod yX8_run, Cond.selects RX8 yX8_run yX8_run, Cond.code yX8_run cX8_run 3 (some .int), Cond.methodLink RX8 193 yX8_keeps, Cond.instanceMethod yX8_keeps, Cond.selects RX8 yX8_keeps yX8_keeps, Cond.code yX8_keeps cX8_keeps 3 (some .int), Cond.methodLink RL 161 yL_step, Cond.static yL_step, Cond.codeWith yL_step cL_step 5 (some .int) [(0, 10, 13, 13), (0, 10, 17, 21), (0, 10, 21, 15)], Cond.methodLink RL 51 yX7_step, Cond.instanceMethod yX7_step, Cond.selects RX7 yX7_step yX7_step, Cond.code yX7_step cX7_step 4 (some .int), Cond.methodLink RX7 212 yX4_goOn, Cond.instanceMethod yX4_goOn, Cond.selects RX4 yX4_goOn yX4_goOn, Cond.code yX4_goOn cX4_goOn 2 none]
def wsL_law0_r25 : List Cond := [Cond.methodLink RX4 47 yX0_move, Cond.methodLink RL 163 yX8_step, Cond.instanceMethod yX8_step, Cond.selects RX8 yX8_step yX8_step, Cond.code yX8_step cX8_step 3 (some .int), Cond.methodLink RL 164 yX7_levels, Cond.instanceMethod yX7_levels, Cond.selects RX7 yX7_levels yX7_levels, Cond.code yX7_levels cX7_levels 1 (some .int), Cond.methodLink RL 167 yX8_levels, Cond.instanceMethod yX8_levels, Cond.selects RX8 yX8_levels yX8_levels, Cond.code yX8_levels cX8_levels 1 (some .int), Cond.methodLink RL 168 yL_at, Cond.static yL_at, Cond.codeWith yL_at cL_at 5 (some .int) [(0, 10, 13, 13)], Cond.methodLink RL 54 yX7_at, Cond.instanceMethod yX7_at, Cond.selects RX7 yX7_at yX7_at, Cond.code yX7_at cX7_at 4 (some .int), Cond.methodLink RL 170 yX8_at, Cond.instanceMethod yX8_at, Cond.selects RX8 yX8_at yX8_at, Cond.code yX8_at cX8_at 3 (some .int)]
def wsL_law0_r26 : List Cond := [Cond.methodLink RL 171 yL_start, Cond.static yL_start, Cond.codeWith yL_start cL_start 4 (some .int) [(0, 9, 12, 13)], Cond.methodLink RL 57 yX7_start, Cond.instanceMethod yX7_start, Cond.selects RX7 yX7_start yX7_start, Cond.code yX7_start cX7_start 2 (some .int), Cond.methodLink RL 173 yX8_start, Cond.instanceMethod yX8_start, Cond.selects RX8 yX8_start yX8_start, Cond.code yX8_start cX8_start 2 (some .int), Cond.methodLink RL 174 yL_edits, Cond.static yL_edits, Cond.codeWith yL_edits cL_edits 5 (some .int) [(0, 10, 13, 13)], Cond.methodLink RL 60 yX7_edits, Cond.instanceMethod yX7_edits, Cond.selects RX7 yX7_edits yX7_edits, Cond.code yX7_edits cX7_edits 4 (some .int), Cond.methodLink RL 177 yX8_edits, Cond.instanceMethod yX8_edits, Cond.selects RX8 yX8_edits yX8_edits, Cond.code yX8_edits cX8_edits 3 (some .int), Cond.methodLink RL 178 yL_proof, Cond.static yL_proof]
def wsL_law0_r27 : List Cond := [Cond.codeWith yL_proof cL_proof 4 (some .int) [(0, 9, 12, 13)], Cond.methodLink RL 64 yX7_proof, Cond.instanceMethod yX7_proof, Cond.selects RX7 yX7_proof yX7_proof, Cond.code yX7_proof cX7_proof 2 (some .int), Cond.methodLink RL 180 yX8_proof, Cond.instanceMethod yX8_proof, Cond.selects RX8 yX8_proof yX8_proof, Cond.code yX8_proof cX8_proof 2 (some .int), Cond.methodLink RL 181 yL_shortest, Cond.static yL_shortest, Cond.codeWith yL_shortest cL_shortest 5 (some .int) [(0, 10, 13, 13), (0, 10, 17, 21)], Cond.methodLink RL 67 yX7_shortest, Cond.instanceMethod yX7_shortest, Cond.selects RX7 yX7_shortest yX7_shortest, Cond.code yX7_shortest cX7_shortest 4 (some .int), Cond.methodLink RX7 217 yX5_fewestStepsByRows, Cond.instanceMethod yX5_fewestStepsByRows, Cond.selects RX5 yX5_fewestStepsByRows yX5_fewestStepsByRows, Cond.code yX5_fewestStepsByRows cX5_fewestStepsByRows 8 (some .int), Cond.methodLink RX5 90 yX5_winsByOneMore, Cond.instanceMethod yX5_winsByOneMore, Cond.selects RX5 yX5_winsByOneMore yX5_winsByOneMore, Cond.code yX5_winsByOneMore cX5_winsByOneMore 5 (some .boolean)]
def wsL_law0_r28 : List Cond := [Cond.methodLink RL 183 yX8_shortest, Cond.instanceMethod yX8_shortest, Cond.selects RX8 yX8_shortest yX8_shortest, Cond.code yX8_shortest cX8_shortest 4 (some .int), Cond.methodLink RL 184 yL_reach, Cond.static yL_reach, Cond.codeWith yL_reach cL_reach 4 (some .int) [(0, 9, 12, 13)], Cond.methodLink RL 70 yX7_reach, Cond.instanceMethod yX7_reach, Cond.selects RX7 yX7_reach yX7_reach, Cond.code yX7_reach cX7_reach 3 (some .int), Cond.methodLink RX7 221 yX5_reachedCount, Cond.instanceMethod yX5_reachedCount, Cond.selects RX5 yX5_reachedCount yX5_reachedCount, Cond.code yX5_reachedCount cX5_reachedCount 6 (some .int), Cond.methodLink RL 186 yX8_reach, Cond.instanceMethod yX8_reach, Cond.selects RX8 yX8_reach yX8_reach, Cond.code yX8_reach cX8_reach 5 (some .int), Cond.methodLink RL 187 yL_farthest, Cond.static yL_farthest, Cond.codeWith yL_farthest cL_farthest 4 (some .int) [(0, 9, 12, 13)], Cond.methodLink RL 73 yX7_farthest, Cond.instanceMethod yX7_farthest]
def wsL_law0_r29 : List Cond := [Cond.selects RX7 yX7_farthest yX7_farthest, Cond.code yX7_farthest cX7_farthest 3 (some .int), Cond.methodLink RX7 224 yX5_farthestReached, Cond.instanceMethod yX5_farthestReached, Cond.selects RX5 yX5_farthestReached yX5_farthestReached, Cond.code yX5_farthestReached cX5_farthestReached 4 (some .int), Cond.methodLink RL 189 yX8_farthest, Cond.instanceMethod yX8_farthest, Cond.selects RX8 yX8_farthest yX8_farthest, Cond.code yX8_farthest cX8_farthest 5 (some .int), Cond.methodLink RL 190 yL_strength, Cond.static yL_strength, Cond.codeWith yL_strength cL_strength 4 (some .int) [(0, 9, 12, 13)], Cond.methodLink RL 76 yX7_strength, Cond.instanceMethod yX7_strength, Cond.selects RX7 yX7_strength yX7_strength, Cond.code yX7_strength cX7_strength 2 (some .int), Cond.methodLink RL 192 yX8_strength, Cond.instanceMethod yX8_strength, Cond.selects RX8 yX8_strength yX8_strength, Cond.code yX8_strength cX8_strength 2 (some .int), Cond.methodLink RL 193 yX7_works, Cond.instanceMethod yX7_works, Cond.selects RX7 yX7_works yX7_works]
def wsL_law0_r30 : List Cond := [Cond.code yX7_works cX7_works 1 (some .int), Cond.methodLink RL 196 yX8_works, Cond.instanceMethod yX8_works, Cond.selects RX8 yX8_works yX8_works, Cond.code yX8_works cX8_works 1 (some .int), Cond.methodLink RL 197 yL_author, Cond.static yL_author, Cond.codeWith yL_author cL_author 4 (some .int) [(0, 9, 12, 13)], Cond.methodLink RL 79 yX7_author, Cond.instanceMethod yX7_author, Cond.selects RX7 yX7_author yX7_author, Cond.code yX7_author cX7_author 2 (some .int), Cond.methodLink RL 199 yX8_author, Cond.instanceMethod yX8_author, Cond.selects RX8 yX8_author yX8_author, Cond.code yX8_author cX8_author 2 (some .int), Cond.methodLink RL 200 yL_best, Cond.static yL_best, Cond.codeWith yL_best cL_best 4 (some .int) [(0, 9, 12, 13)], Cond.methodLink RL 82 yX7_best, Cond.instanceMethod yX7_best, Cond.selects RX7 yX7_best yX7_best, Cond.code yX7_best cX7_best 2 (some .int), Cond.methodLink RL 202 yX8_best]
def wsL_law0_r31 : List Cond := [Cond.instanceMethod yX8_best, Cond.selects RX8 yX8_best yX8_best, Cond.code yX8_best cX8_best 2 (some .int), Cond.methodLink RL 203 yL_parent, Cond.static yL_parent, Cond.codeWith yL_parent cL_parent 4 (some .int) [(0, 9, 12, 13)], Cond.methodLink RL 85 yX7_parent, Cond.instanceMethod yX7_parent, Cond.selects RX7 yX7_parent yX7_parent, Cond.code yX7_parent cX7_parent 3 (some .int), Cond.methodLink RL 205 yX8_parent, Cond.instanceMethod yX8_parent, Cond.selects RX8 yX8_parent yX8_parent, Cond.code yX8_parent cX8_parent 2 (some .int), Cond.methodLink RL 206 yL_line, Cond.static yL_line, Cond.codeWith yL_line cL_line 4 (some .int) [(0, 9, 12, 13)], Cond.methodLink RL 88 yX7_line, Cond.instanceMethod yX7_line, Cond.selects RX7 yX7_line yX7_line, Cond.code yX7_line cX7_line 5 (some .int), Cond.methodLink RX7 234 yX6_comesFrom, Cond.instanceMethod yX6_comesFrom, Cond.selects RX6 yX6_comesFrom yX6_comesFrom]
def wsL_law0_r32 : List Cond := [Cond.code yX6_comesFrom cX6_comesFrom 3 (some .boolean), Cond.methodLink RL 208 yX8_line, Cond.instanceMethod yX8_line, Cond.selects RX8 yX8_line yX8_line, Cond.code yX8_line cX8_line 4 (some .int), Cond.methodLink RX8 196 yX8_isInLine, Cond.instanceMethod yX8_isInLine, Cond.selects RX8 yX8_isInLine yX8_isInLine, Cond.code yX8_isInLine cX8_isInLine 4 (some .boolean), Cond.methodLink RL 209 yL_stars, Cond.static yL_stars, Cond.codeWith yL_stars cL_stars 4 (some .int) [(0, 9, 12, 13)], Cond.methodLink RL 91 yX7_stars, Cond.instanceMethod yX7_stars, Cond.selects RX7 yX7_stars yX7_stars, Cond.code yX7_stars cX7_stars 2 (some .int), Cond.methodLink RX7 238 yX6_starSum, Cond.instanceMethod yX6_starSum, Cond.selects RX6 yX6_starSum yX6_starSum, Cond.code yX6_starSum cX6_starSum 6 (some .int), Cond.methodLink RL 211 yX8_stars, Cond.instanceMethod yX8_stars, Cond.selects RX8 yX8_stars yX8_stars, Cond.code yX8_stars cX8_stars 2 (some .int)]
def wsL_law0_r33 : List Cond := [Cond.methodLink RX8 199 yX8_sumOf, Cond.instanceMethod yX8_sumOf, Cond.selects RX8 yX8_sumOf yX8_sumOf, Cond.code yX8_sumOf cX8_sumOf 4 (some .int), Cond.methodLink RL 212 yL_credit, Cond.static yL_credit, Cond.codeWith yL_credit cL_credit 4 (some .int) [(0, 9, 12, 13)], Cond.methodLink RL 94 yX7_credit, Cond.instanceMethod yX7_credit, Cond.selects RX7 yX7_credit yX7_credit, Cond.code yX7_credit cX7_credit 5 (some .int), Cond.methodLink RX7 241 yX6_comesFromWorkBy, Cond.instanceMethod yX6_comesFromWorkBy, Cond.selects RX6 yX6_comesFromWorkBy yX6_comesFromWorkBy, Cond.code yX6_comesFromWorkBy cX6_comesFromWorkBy 3 (some .boolean), Cond.methodLink RL 214 yX8_credit, Cond.instanceMethod yX8_credit, Cond.selects RX8 yX8_credit yX8_credit, Cond.code yX8_credit cX8_credit 5 (some .int), Cond.methodLink RL 215 yL_record, Cond.static yL_record, Cond.codeWith yL_record cL_record 4 (some .int) [(0, 9, 12, 13)], Cond.methodLink RL 97 yX7_record, Cond.instanceMethod yX7_record]
def wsL_law0_r34 : List Cond := [Cond.selects RX7 yX7_record yX7_record, Cond.code yX7_record cX7_record 2 (some .int), Cond.methodLink RL 217 yX8_record, Cond.instanceMethod yX8_record, Cond.selects RX8 yX8_record yX8_record, Cond.code yX8_record cX8_record 2 (some .int), Cond.methodLink RL 218 yL_runState, Cond.static yL_runState, Cond.codeWith yL_runState cL_runState 4 (some .int) [(0, 9, 12, 13)], Cond.methodLink RL 100 yX7_runState, Cond.instanceMethod yX7_runState, Cond.selects RX7 yX7_runState yX7_runState, Cond.code yX7_runState cX7_runState 2 (some .int), Cond.methodLink RL 220 yX8_runState, Cond.instanceMethod yX8_runState, Cond.selects RX8 yX8_runState yX8_runState, Cond.code yX8_runState cX8_runState 2 (some .int), Cond.methodLink RL 221 yL_body, Cond.static yL_body, Cond.codeWith yL_body cL_body 4 (some .int) [(0, 9, 12, 13)], Cond.methodLink RL 103 yX7_body, Cond.instanceMethod yX7_body, Cond.selects RX7 yX7_body yX7_body, Cond.code yX7_body cX7_body 3 (some .int)]
def wsL_law0_r35 : List Cond := [Cond.methodLink RL 223 yX8_body, Cond.instanceMethod yX8_body, Cond.selects RX8 yX8_body yX8_body, Cond.code yX8_body cX8_body 2 (some .int), Cond.methodLink RL 224 yL_speed, Cond.static yL_speed, Cond.codeWith yL_speed cL_speed 4 (some .int) [(0, 9, 12, 13)], Cond.methodLink RL 106 yX7_speed, Cond.instanceMethod yX7_speed, Cond.selects RX7 yX7_speed yX7_speed, Cond.code yX7_speed cX7_speed 2 (some .int), Cond.methodLink RL 226 yX8_speed, Cond.instanceMethod yX8_speed, Cond.selects RX8 yX8_speed yX8_speed, Cond.code yX8_speed cX8_speed 2 (some .int), Cond.methodLink RL 227 yL_keys, Cond.static yL_keys, Cond.codeWith yL_keys cL_keys 4 (some .int) [(0, 9, 12, 13)], Cond.methodLink RL 109 yX7_keys, Cond.instanceMethod yX7_keys, Cond.selects RX7 yX7_keys yX7_keys, Cond.code yX7_keys cX7_keys 2 (some .int), Cond.methodLink RX7 262 yJ6_bitCount_0f7a4, Cond.methodLink RL 229 yX8_keys]
def wsL_law0_r36 : List Cond := [Cond.instanceMethod yX8_keys, Cond.selects RX8 yX8_keys yX8_keys, Cond.code yX8_keys cX8_keys 2 (some .int), Cond.methodLink RL 230 yL_stepsOf, Cond.static yL_stepsOf, Cond.codeWith yL_stepsOf cL_stepsOf 4 (some .int) [(0, 9, 12, 13)], Cond.methodLink RL 112 yX7_stepsOf, Cond.instanceMethod yX7_stepsOf, Cond.selects RX7 yX7_stepsOf yX7_stepsOf, Cond.code yX7_stepsOf cX7_stepsOf 2 (some .int), Cond.methodLink RL 232 yX8_stepsOf, Cond.instanceMethod yX8_stepsOf, Cond.selects RX8 yX8_stepsOf yX8_stepsOf, Cond.code yX8_stepsOf cX8_stepsOf 2 (some .int)]
def wsL_law0 : List Cond := (wsL_law0_r1 ++ (wsL_law0_r2 ++ (wsL_law0_r3 ++ (wsL_law0_r4 ++ (wsL_law0_r5 ++ (wsL_law0_r6 ++ (wsL_law0_r7 ++ (wsL_law0_r8 ++ (wsL_law0_r9 ++ (wsL_law0_r10 ++ (wsL_law0_r11 ++ (wsL_law0_r12 ++ (wsL_law0_r13 ++ (wsL_law0_r14 ++ (wsL_law0_r15 ++ (wsL_law0_r16 ++ (wsL_law0_r17 ++ (wsL_law0_r18 ++ (wsL_law0_r19 ++ (wsL_law0_r20 ++ (wsL_law0_r21 ++ (wsL_law0_r22 ++ (wsL_law0_r23 ++ (wsL_law0_r24 ++ (wsL_law0_r25 ++ (wsL_law0_r26 ++ (wsL_law0_r27 ++ (wsL_law0_r28 ++ (wsL_law0_r29 ++ (wsL_law0_r30 ++ (wsL_law0_r31 ++ (wsL_law0_r32 ++ (wsL_law0_r33 ++ (wsL_law0_r34 ++ (wsL_law0_r35 ++ wsL_law0_r36))))))))))))))))))))))))))))))))))) ++ wsX70 ++ wsX80 ++ wsX50 ++ wsX40 ++ wsX00 ++ wsX30 ++ wsX10 ++ wsX20 ++ wsX60 ++ ([] : List Cond)
def wsL_law : List Cond := wsL_law0 ++ (vx_atS RX7 271 "java/lang/IndexOutOfBoundsException" ["java/lang/RuntimeException", "java/lang/Exception"]).filter goodWord ++ (vx_atS RX7 92 "java/lang/IllegalStateException" ["java/lang/RuntimeException", "java/lang/Exception"]).filter goodWord ++ (vx_atS RX7 77 "java/lang/IllegalArgumentException" ["java/lang/RuntimeException", "java/lang/Exception"]).filter goodWord
set_option maxRecDepth 20000 in
theorem wsL_law_in0 : ∀ w ∈ wsL_law0, w ∈ lw_tbl := fun w h => (goodIn_p wsL_law0 [63, 66, 77, 83, 135, 887, 194, 197, 269, 289, 295, 312, 363, 366, 370, 1011, 1014, 1017, 1021, 1025, 1007, 378, 382, 386, 408, 412, 415, 423, 427, 431, 1029, 1033, 1036, 1040, 1044, 439, 1048, 446, 451, 455, 459, 463, 1052, 470, 475, 479, 1056, 486, 489, 495, 500, 504, 508, 512, 516, 522, 526, 531, 535, 539, 543, 547, 551, 555, 559, 563, 568, 572, 576, 580, 584, 588, 1060, 1064, 1068, 1072, 1076, 1080, 1084, 1088, 1092, 1096, 1100, 595, 1104, 602, 608, 615, 1108, 659, 662, 1112, 1116, 671, 1120, 680, 684, 689, 693, 697, 1124, 1128, 704, 711, 1132, 181, 1136, 719, 1140, 726, 1144, 733, 1148, 740, 1152, 747, 752, 756, 1156, 763, 767, 1160, 774, 778, 1164, 785, 1168, 185, 1172, 792, 1176, 799, 1180, 806, 1184, 813, 817, 1188, 1192, 824, 828, 1196, 1200, 835, 839, 1204, 846, 1208, 853, 1212, 860, 1216, 867, 1220, 874, 1224, 882, 1228] (by decide +kernel) (by decide +kernel) w h).1
theorem wsL_law_x0 : ∀ w ∈ (vx_atS RX7 271 "java/lang/IndexOutOfBoundsException" ["java/lang/RuntimeException", "java/lang/Exception"]).filter goodWord, w ∈ lw_tbl := by decide +kernel
theorem wsL_law_x1 : ∀ w ∈ (vx_atS RX7 92 "java/lang/IllegalStateException" ["java/lang/RuntimeException", "java/lang/Exception"]).filter goodWord, w ∈ lw_tbl := by decide +kernel
theorem wsL_law_x2 : ∀ w ∈ (vx_atS RX7 77 "java/lang/IllegalArgumentException" ["java/lang/RuntimeException", "java/lang/Exception"]).filter goodWord, w ∈ lw_tbl := by decide +kernel
theorem wsL_law_in : ∀ w ∈ wsL_law, w ∈ lw_tbl := fun w h => (List.mem_append.mp h).elim (fun h => (List.mem_append.mp h).elim (fun h => (List.mem_append.mp h).elim (fun h => wsL_law_in0 w h) (fun h => wsL_law_x0 w h)) (fun h => wsL_law_x1 w h)) (fun h => wsL_law_x2 w h)
theorem inlX0 : ∀ w ∈ wsX00, w ∈ wsL_law := fun _ h => List.mem_append_left _ (List.mem_append_left _ (List.mem_append_left _ (List.mem_append_left _ (List.mem_append_left _ (List.mem_append_left _ (List.mem_append_left _ (List.mem_append_left _ (List.mem_append_right _ h))))))))
theorem inX0 : ∀ w ∈ wsX00, w ∈ lw_tbl := fun w h => wsL_law_in w (inlX0 w h)
theorem inlX1 : ∀ w ∈ wsX10, w ∈ wsL_law := fun _ h => List.mem_append_left _ (List.mem_append_left _ (List.mem_append_left _ (List.mem_append_left _ (List.mem_append_left _ (List.mem_append_left _ (List.mem_append_right _ h))))))
theorem inX1 : ∀ w ∈ wsX10, w ∈ lw_tbl := fun w h => wsL_law_in w (inlX1 w h)
theorem inlX2 : ∀ w ∈ wsX20, w ∈ wsL_law := fun _ h => List.mem_append_left _ (List.mem_append_left _ (List.mem_append_left _ (List.mem_append_left _ (List.mem_append_left _ (List.mem_append_right _ h)))))
theorem inX2 : ∀ w ∈ wsX20, w ∈ lw_tbl := fun w h => wsL_law_in w (inlX2 w h)
theorem inlX3 : ∀ w ∈ wsX30, w ∈ wsL_law := fun _ h => List.mem_append_left _ (List.mem_append_left _ (List.mem_append_left _ (List.mem_append_left _ (List.mem_append_left _ (List.mem_append_left _ (List.mem_append_left _ (List.mem_append_right _ h)))))))
theorem inX3 : ∀ w ∈ wsX30, w ∈ lw_tbl := fun w h => wsL_law_in w (inlX3 w h)
theorem inlX4 : ∀ w ∈ wsX40, w ∈ wsL_law := fun _ h => List.mem_append_left _ (List.mem_append_left _ (List.mem_append_left _ (List.mem_append_left _ (List.mem_append_left _ (List.mem_append_left _ (List.mem_append_left _ (List.mem_append_left _ (List.mem_append_left _ (List.mem_append_right _ h)))))))))
theorem inX4 : ∀ w ∈ wsX40, w ∈ lw_tbl := fun w h => wsL_law_in w (inlX4 w h)
theorem inlX5 : ∀ w ∈ wsX50, w ∈ wsL_law := fun _ h => List.mem_append_left _ (List.mem_append_left _ (List.mem_append_left _ (List.mem_append_left _ (List.mem_append_left _ (List.mem_append_left _ (List.mem_append_left _ (List.mem_append_left _ (List.mem_append_left _ (List.mem_append_left _ (List.mem_append_right _ h))))))))))
theorem inX5 : ∀ w ∈ wsX50, w ∈ lw_tbl := fun w h => wsL_law_in w (inlX5 w h)
theorem inlX6 : ∀ w ∈ wsX60, w ∈ wsL_law := fun _ h => List.mem_append_left _ (List.mem_append_left _ (List.mem_append_left _ (List.mem_append_left _ (List.mem_append_right _ h))))
theorem inX6 : ∀ w ∈ wsX60, w ∈ lw_tbl := fun w h => wsL_law_in w (inlX6 w h)
theorem inlX7 : ∀ w ∈ wsX70, w ∈ wsL_law := fun _ h => List.mem_append_left _ (List.mem_append_left _ (List.mem_append_left _ (List.mem_append_left _ (List.mem_append_left _ (List.mem_append_left _ (List.mem_append_left _ (List.mem_append_left _ (List.mem_append_left _ (List.mem_append_left _ (List.mem_append_left _ (List.mem_append_left _ (List.mem_append_right _ h))))))))))))
theorem inX7 : ∀ w ∈ wsX70, w ∈ lw_tbl := fun w h => wsL_law_in w (inlX7 w h)
theorem inlX8 : ∀ w ∈ wsX80, w ∈ wsL_law := fun _ h => List.mem_append_left _ (List.mem_append_left _ (List.mem_append_left _ (List.mem_append_left _ (List.mem_append_left _ (List.mem_append_left _ (List.mem_append_left _ (List.mem_append_left _ (List.mem_append_left _ (List.mem_append_left _ (List.mem_append_left _ (List.mem_append_right _ h)))))))))))
theorem inX8 : ∀ w ∈ wsX80, w ∈ lw_tbl := fun w h => wsL_law_in w (inlX8 w h)
theorem inJ6 : ∀ w ∈ wsJ60, w ∈ lw_tbl := by decide +kernel
theorem inJ0 : ∀ w ∈ wsJ00, w ∈ lw_tbl := by decide +kernel
theorem dX0_init_0 : decode cX0_init 0 = .ok (.aload_n 0, 1) := by decide +kernel
theorem dX0_init_1 : decode cX0_init 1 = .ok (.invokespecial 3, 3) := by decide +kernel
theorem dX0_init_4 : decode cX0_init 4 = .ok (.aload_n 0, 1) := by decide +kernel
theorem dX0_init_5 : decode cX0_init 5 = .ok (.iconst 0, 1) := by decide +kernel
theorem dX0_init_6 : decode cX0_init 6 = .ok (.putfield 9, 3) := by decide +kernel
theorem dX0_init_9 : decode cX0_init 9 = .ok (.aload_n 0, 1) := by decide +kernel
theorem dX0_init_10 : decode cX0_init 10 = .ok (.iconst 0, 1) := by decide +kernel
theorem dX0_init_11 : decode cX0_init 11 = .ok (.putfield 15, 3) := by decide +kernel
theorem dX0_init_14 : decode cX0_init 14 = .ok (.aload_n 0, 1) := by decide +kernel
theorem dX0_init_15 : decode cX0_init 15 = .ok (.iconst 0, 1) := by decide +kernel
theorem dX0_init_16 : decode cX0_init 16 = .ok (.putfield 18, 3) := by decide +kernel
theorem dX0_init_19 : decode cX0_init 19 = .ok (.aload_n 0, 1) := by decide +kernel
theorem dX0_init_20 : decode cX0_init 20 = .ok (.iconst 1, 1) := by decide +kernel
theorem dX0_init_21 : decode cX0_init 21 = .ok (.putfield 21, 3) := by decide +kernel
theorem dX0_init_24 : decode cX0_init 24 = .ok (.aload_n 0, 1) := by decide +kernel
theorem dX0_init_25 : decode cX0_init 25 = .ok (.aload_n 1, 1) := by decide +kernel
theorem dX0_init_26 : decode cX0_init 26 = .ok (.putfield 24, 3) := by decide +kernel
theorem dX0_init_29 : decode cX0_init 29 = .ok (.return_, 1) := by decide +kernel
set_option maxRecDepth 20000 in
theorem ggX0_placeAtStart_X0_comeTo : GoodIn wsX0_placeAtStart wsX0_comeTo := goodIn_r _ [8, 3, 9, 2, 10, 11, 12, 13, 14, 15, 16, 17, 18, 19, 20, 21, 22, 23, 24, 25, 26, 27, 28, 29, 30, 31] (by decide +kernel) (by decide +kernel)
set_option maxRecDepth 20000 in
theorem gX0_placeAtStart_X0_comeTo : GoodIn wsX0_placeAtStart (wsV RX0 28 RX0 yX0_comeTo wsX0_comeTo) := goodIn_app (goodIn_of _ (by decide +kernel)) ggX0_placeAtStart_X0_comeTo
theorem dX0_placeAtStart_0 : decode cX0_placeAtStart 0 = .ok (.aload_n 0, 1) := by decide +kernel
theorem dX0_placeAtStart_1 : decode cX0_placeAtStart 1 = .ok (.iconst 0, 1) := by decide +kernel
theorem dX0_placeAtStart_2 : decode cX0_placeAtStart 2 = .ok (.putfield 15, 3) := by decide +kernel
theorem dX0_placeAtStart_5 : decode cX0_placeAtStart 5 = .ok (.aload_n 0, 1) := by decide +kernel
theorem dX0_placeAtStart_6 : decode cX0_placeAtStart 6 = .ok (.iconst 0, 1) := by decide +kernel
theorem dX0_placeAtStart_7 : decode cX0_placeAtStart 7 = .ok (.putfield 18, 3) := by decide +kernel
theorem dX0_placeAtStart_10 : decode cX0_placeAtStart 10 = .ok (.aload_n 0, 1) := by decide +kernel
theorem dX0_placeAtStart_11 : decode cX0_placeAtStart 11 = .ok (.iconst 1, 1) := by decide +kernel
theorem dX0_placeAtStart_12 : decode cX0_placeAtStart 12 = .ok (.putfield 21, 3) := by decide +kernel
theorem dX0_placeAtStart_15 : decode cX0_placeAtStart 15 = .ok (.aload_n 0, 1) := by decide +kernel
theorem dX0_placeAtStart_16 : decode cX0_placeAtStart 16 = .ok (.aload_n 1, 1) := by decide +kernel
theorem dX0_placeAtStart_17 : decode cX0_placeAtStart 17 = .ok (.iload_n 2, 1) := by decide +kernel
theorem dX0_placeAtStart_18 : decode cX0_placeAtStart 18 = .ok (.invokevirtual 28, 3) := by decide +kernel
theorem dX0_placeAtStart_21 : decode cX0_placeAtStart 21 = .ok (.return_, 1) := by decide +kernel
theorem dX0_packed_0 : decode cX0_packed 0 = .ok (.aload_n 0, 1) := by decide +kernel
theorem dX0_packed_1 : decode cX0_packed 1 = .ok (.getfield 9, 3) := by decide +kernel
theorem dX0_packed_4 : decode cX0_packed 4 = .ok (.bipush 6, 2) := by decide +kernel
theorem dX0_packed_6 : decode cX0_packed 6 = .ok (.ishl, 1) := by decide +kernel
theorem dX0_packed_7 : decode cX0_packed 7 = .ok (.aload_n 0, 1) := by decide +kernel
theorem dX0_packed_8 : decode cX0_packed 8 = .ok (.getfield 15, 3) := by decide +kernel
theorem dX0_packed_11 : decode cX0_packed 11 = .ok (.iconst 4, 1) := by decide +kernel
theorem dX0_packed_12 : decode cX0_packed 12 = .ok (.iadd, 1) := by decide +kernel
theorem dX0_packed_13 : decode cX0_packed 13 = .ok (.iconst 3, 1) := by decide +kernel
theorem dX0_packed_14 : decode cX0_packed 14 = .ok (.ishl, 1) := by decide +kernel
theorem dX0_packed_15 : decode cX0_packed 15 = .ok (.ior, 1) := by decide +kernel
theorem dX0_packed_16 : decode cX0_packed 16 = .ok (.aload_n 0, 1) := by decide +kernel
theorem dX0_packed_17 : decode cX0_packed 17 = .ok (.getfield 18, 3) := by decide +kernel
theorem dX0_packed_20 : decode cX0_packed 20 = .ok (.ior, 1) := by decide +kernel
theorem dX0_packed_21 : decode cX0_packed 21 = .ok (.ireturn, 1) := by decide +kernel
theorem dX0_unpack_0 : decode cX0_unpack 0 = .ok (.aload_n 0, 1) := by decide +kernel
theorem dX0_unpack_1 : decode cX0_unpack 1 = .ok (.iload_n 1, 1) := by decide +kernel
theorem dX0_unpack_2 : decode cX0_unpack 2 = .ok (.bipush 6, 2) := by decide +kernel
theorem dX0_unpack_4 : decode cX0_unpack 4 = .ok (.ishr, 1) := by decide +kernel
theorem dX0_unpack_5 : decode cX0_unpack 5 = .ok (.putfield 9, 3) := by decide +kernel
theorem dX0_unpack_8 : decode cX0_unpack 8 = .ok (.aload_n 0, 1) := by decide +kernel
theorem dX0_unpack_9 : decode cX0_unpack 9 = .ok (.iload_n 1, 1) := by decide +kernel
theorem dX0_unpack_10 : decode cX0_unpack 10 = .ok (.iconst 3, 1) := by decide +kernel
theorem dX0_unpack_11 : decode cX0_unpack 11 = .ok (.ishr, 1) := by decide +kernel
theorem dX0_unpack_12 : decode cX0_unpack 12 = .ok (.bipush 7, 2) := by decide +kernel
theorem dX0_unpack_14 : decode cX0_unpack 14 = .ok (.iand, 1) := by decide +kernel
theorem dX0_unpack_15 : decode cX0_unpack 15 = .ok (.iconst 4, 1) := by decide +kernel
theorem dX0_unpack_16 : decode cX0_unpack 16 = .ok (.isub, 1) := by decide +kernel
theorem dX0_unpack_17 : decode cX0_unpack 17 = .ok (.putfield 15, 3) := by decide +kernel
theorem dX0_unpack_20 : decode cX0_unpack 20 = .ok (.aload_n 0, 1) := by decide +kernel
theorem dX0_unpack_21 : decode cX0_unpack 21 = .ok (.iload_n 1, 1) := by decide +kernel
theorem dX0_unpack_22 : decode cX0_unpack 22 = .ok (.bipush 7, 2) := by decide +kernel
theorem dX0_unpack_24 : decode cX0_unpack 24 = .ok (.iand, 1) := by decide +kernel
theorem dX0_unpack_25 : decode cX0_unpack 25 = .ok (.putfield 18, 3) := by decide +kernel
theorem dX0_unpack_28 : decode cX0_unpack 28 = .ok (.aload_n 0, 1) := by decide +kernel
theorem dX0_unpack_29 : decode cX0_unpack 29 = .ok (.iconst 1, 1) := by decide +kernel
theorem dX0_unpack_30 : decode cX0_unpack 30 = .ok (.putfield 21, 3) := by decide +kernel
theorem dX0_unpack_33 : decode cX0_unpack 33 = .ok (.return_, 1) := by decide +kernel
set_option maxRecDepth 20000 in
theorem ggX0_stands_X0_isSolidIn : GoodIn wsX0_stands wsX0_isSolidIn := goodIn_r _ [7, 8, 9, 10, 11, 12, 13, 14, 15, 16, 17, 18, 19, 20, 21, 22] (by decide +kernel) (by decide +kernel)
set_option maxRecDepth 20000 in
theorem gX0_stands_X0_isSolidIn : GoodIn wsX0_stands (wsV RX0 32 RX0 yX0_isSolidIn wsX0_isSolidIn) := goodIn_app (goodIn_of _ (by decide +kernel)) ggX0_stands_X0_isSolidIn
theorem dX0_stands_0 : decode cX0_stands 0 = .ok (.aload_n 0, 1) := by decide +kernel
theorem dX0_stands_1 : decode cX0_stands 1 = .ok (.getfield 15, 3) := by decide +kernel
theorem dX0_stands_4 : decode cX0_stands 4 = .ok (.ifCond .lt 22, 3) := by decide +kernel
theorem dX0_stands_7 : decode cX0_stands 7 = .ok (.aload_n 0, 1) := by decide +kernel
theorem dX0_stands_8 : decode cX0_stands 8 = .ok (.aload_n 1, 1) := by decide +kernel
theorem dX0_stands_9 : decode cX0_stands 9 = .ok (.aload_n 0, 1) := by decide +kernel
theorem dX0_stands_10 : decode cX0_stands 10 = .ok (.getfield 9, 3) := by decide +kernel
theorem dX0_stands_13 : decode cX0_stands 13 = .ok (.bipush 12, 2) := by decide +kernel
theorem dX0_stands_15 : decode cX0_stands 15 = .ok (.iadd, 1) := by decide +kernel
theorem dX0_stands_16 : decode cX0_stands 16 = .ok (.invokevirtual 32, 3) := by decide +kernel
theorem dX0_stands_19 : decode cX0_stands 19 = .ok (.ifCond .eq 7, 3) := by decide +kernel
theorem dX0_stands_22 : decode cX0_stands 22 = .ok (.iconst 1, 1) := by decide +kernel
theorem dX0_stands_23 : decode cX0_stands 23 = .ok (.goto 4, 3) := by decide +kernel
theorem dX0_stands_26 : decode cX0_stands 26 = .ok (.iconst 0, 1) := by decide +kernel
theorem dX0_stands_27 : decode cX0_stands 27 = .ok (.ireturn, 1) := by decide +kernel
set_option maxRecDepth 20000 in
theorem ggX0_move_X0_stands : GoodIn wsX0_move wsX0_stands := goodIn_r _ [7, 1, 8, 9, 10, 11, 6, 12, 13, 14, 15, 16, 17, 18, 19, 45, 46, 47, 48, 49, 50, 51, 52] (by decide +kernel) (by decide +kernel)
set_option maxRecDepth 20000 in
theorem gX0_move_X0_stands : GoodIn wsX0_move (wsV RX0 36 RX0 yX0_stands wsX0_stands) := goodIn_app (goodIn_of _ (by decide +kernel)) ggX0_move_X0_stands
set_option maxRecDepth 20000 in
theorem ggX0_move_X0_goSideways : GoodIn wsX0_move wsX0_goSideways := goodIn_r _ [23, 8, 9, 10, 11, 6, 12, 13, 14, 15, 16, 17, 18, 19, 24, 25, 26, 27, 2, 28, 29, 30, 31, 32, 33, 34, 35, 45, 46, 47, 48, 49, 50, 51, 52] (by decide +kernel) (by decide +kernel)
set_option maxRecDepth 20000 in
theorem gX0_move_X0_goSideways : GoodIn wsX0_move (wsV RX0 40 RX0 yX0_goSideways wsX0_goSideways) := goodIn_app (goodIn_of _ (by decide +kernel)) ggX0_move_X0_goSideways
set_option maxRecDepth 20000 in
theorem ggX0_move_X0_goUpOrDown : GoodIn wsX0_move wsX0_goUpOrDown := goodIn_r _ [39, 1, 8, 2, 9, 10, 11, 6, 12, 13, 14, 15, 16, 17, 18, 19, 40, 41, 42, 43, 44, 24, 25, 26, 27, 28, 29, 30, 31, 32, 33, 34, 35, 45, 46, 47, 48, 49, 50, 51, 52] (by decide +kernel) (by decide +kernel)
set_option maxRecDepth 20000 in
theorem gX0_move_X0_goUpOrDown : GoodIn wsX0_move (wsV RX0 43 RX0 yX0_goUpOrDown wsX0_goUpOrDown) := goodIn_app (goodIn_of _ (by decide +kernel)) ggX0_move_X0_goUpOrDown
theorem dX0_move_0 : decode cX0_move 0 = .ok (.aload_n 0, 1) := by decide +kernel
theorem dX0_move_1 : decode cX0_move 1 = .ok (.aload_n 1, 1) := by decide +kernel
theorem dX0_move_2 : decode cX0_move 2 = .ok (.invokevirtual 36, 3) := by decide +kernel
theorem dX0_move_5 : decode cX0_move 5 = .ok (.ifCond .eq 18, 3) := by decide +kernel
theorem dX0_move_8 : decode cX0_move 8 = .ok (.aload_n 0, 1) := by decide +kernel
theorem dX0_move_9 : decode cX0_move 9 = .ok (.iload_n 2, 1) := by decide +kernel
theorem dX0_move_10 : decode cX0_move 10 = .ok (.iconst 3, 1) := by decide +kernel
theorem dX0_move_11 : decode cX0_move 11 = .ok (.if_icmp .lt 8, 3) := by decide +kernel
theorem dX0_move_14 : decode cX0_move 14 = .ok (.bipush (-2), 2) := by decide +kernel
theorem dX0_move_16 : decode cX0_move 16 = .ok (.goto 4, 3) := by decide +kernel
theorem dX0_move_19 : decode cX0_move 19 = .ok (.iconst 0, 1) := by decide +kernel
theorem dX0_move_20 : decode cX0_move 20 = .ok (.putfield 15, 3) := by decide +kernel
theorem dX0_move_23 : decode cX0_move 23 = .ok (.aload_n 0, 1) := by decide +kernel
theorem dX0_move_24 : decode cX0_move 24 = .ok (.aload_n 1, 1) := by decide +kernel
theorem dX0_move_25 : decode cX0_move 25 = .ok (.iload_n 2, 1) := by decide +kernel
theorem dX0_move_26 : decode cX0_move 26 = .ok (.iconst 3, 1) := by decide +kernel
theorem dX0_move_27 : decode cX0_move 27 = .ok (.irem, 1) := by decide +kernel
theorem dX0_move_28 : decode cX0_move 28 = .ok (.iconst 1, 1) := by decide +kernel
theorem dX0_move_29 : decode cX0_move 29 = .ok (.isub, 1) := by decide +kernel
theorem dX0_move_30 : decode cX0_move 30 = .ok (.invokevirtual 40, 3) := by decide +kernel
theorem dX0_move_33 : decode cX0_move 33 = .ok (.aload_n 0, 1) := by decide +kernel
theorem dX0_move_34 : decode cX0_move 34 = .ok (.getfield 21, 3) := by decide +kernel
theorem dX0_move_37 : decode cX0_move 37 = .ok (.iconst 1, 1) := by decide +kernel
theorem dX0_move_38 : decode cX0_move 38 = .ok (.if_icmp .ne 8, 3) := by decide +kernel
theorem dX0_move_41 : decode cX0_move 41 = .ok (.aload_n 0, 1) := by decide +kernel
theorem dX0_move_42 : decode cX0_move 42 = .ok (.aload_n 1, 1) := by decide +kernel
theorem dX0_move_43 : decode cX0_move 43 = .ok (.invokevirtual 43, 3) := by decide +kernel
theorem dX0_move_46 : decode cX0_move 46 = .ok (.return_, 1) := by decide +kernel
set_option maxRecDepth 20000 in
theorem ggX0_goSideways_X0_isSolidIn : GoodIn wsX0_goSideways wsX0_isSolidIn := goodIn_r _ [6, 7, 8, 9, 10, 11, 12, 13, 27, 28, 29, 30, 31, 32, 33, 34] (by decide +kernel) (by decide +kernel)
set_option maxRecDepth 20000 in
theorem gX0_goSideways_X0_isSolidIn : GoodIn wsX0_goSideways (wsV RX0 32 RX0 yX0_isSolidIn wsX0_isSolidIn) := goodIn_app (goodIn_of _ (by decide +kernel)) ggX0_goSideways_X0_isSolidIn
set_option maxRecDepth 20000 in
theorem ggX0_goSideways_X0_comeTo : GoodIn wsX0_goSideways wsX0_comeTo := goodIn_r _ [17, 18, 1, 7, 19, 20, 21, 8, 9, 10, 11, 12, 13, 22, 23, 24, 25, 26, 27, 28, 29, 30, 31, 32, 33, 34] (by decide +kernel) (by decide +kernel)
set_option maxRecDepth 20000 in
theorem gX0_goSideways_X0_comeTo : GoodIn wsX0_goSideways (wsV RX0 28 RX0 yX0_comeTo wsX0_comeTo) := goodIn_app (goodIn_of _ (by decide +kernel)) ggX0_goSideways_X0_comeTo
theorem dX0_goSideways_0 : decode cX0_goSideways 0 = .ok (.aload_n 0, 1) := by decide +kernel
theorem dX0_goSideways_1 : decode cX0_goSideways 1 = .ok (.getfield 9, 3) := by decide +kernel
theorem dX0_goSideways_4 : decode cX0_goSideways 4 = .ok (.bipush 12, 2) := by decide +kernel
theorem dX0_goSideways_6 : decode cX0_goSideways 6 = .ok (.irem, 1) := by decide +kernel
theorem dX0_goSideways_7 : decode cX0_goSideways 7 = .ok (.iload_n 2, 1) := by decide +kernel
theorem dX0_goSideways_8 : decode cX0_goSideways 8 = .ok (.iadd, 1) := by decide +kernel
theorem dX0_goSideways_9 : decode cX0_goSideways 9 = .ok (.istore_n 3, 1) := by decide +kernel
theorem dX0_goSideways_10 : decode cX0_goSideways 10 = .ok (.iload_n 3, 1) := by decide +kernel
theorem dX0_goSideways_11 : decode cX0_goSideways 11 = .ok (.ifCond .lt 13, 3) := by decide +kernel
theorem dX0_goSideways_14 : decode cX0_goSideways 14 = .ok (.iload_n 3, 1) := by decide +kernel
theorem dX0_goSideways_15 : decode cX0_goSideways 15 = .ok (.bipush 12, 2) := by decide +kernel
theorem dX0_goSideways_17 : decode cX0_goSideways 17 = .ok (.if_icmp .ge 7, 3) := by decide +kernel
theorem dX0_goSideways_20 : decode cX0_goSideways 20 = .ok (.iconst 1, 1) := by decide +kernel
theorem dX0_goSideways_21 : decode cX0_goSideways 21 = .ok (.goto 4, 3) := by decide +kernel
theorem dX0_goSideways_24 : decode cX0_goSideways 24 = .ok (.iconst 0, 1) := by decide +kernel
theorem dX0_goSideways_25 : decode cX0_goSideways 25 = .ok (.istore 4, 2) := by decide +kernel
theorem dX0_goSideways_27 : decode cX0_goSideways 27 = .ok (.iload_n 2, 1) := by decide +kernel
theorem dX0_goSideways_28 : decode cX0_goSideways 28 = .ok (.ifCond .eq 33, 3) := by decide +kernel
theorem dX0_goSideways_31 : decode cX0_goSideways 31 = .ok (.iload 4, 2) := by decide +kernel
theorem dX0_goSideways_33 : decode cX0_goSideways 33 = .ok (.ifCond .eq 28, 3) := by decide +kernel
theorem dX0_goSideways_36 : decode cX0_goSideways 36 = .ok (.aload_n 0, 1) := by decide +kernel
theorem dX0_goSideways_37 : decode cX0_goSideways 37 = .ok (.aload_n 1, 1) := by decide +kernel
theorem dX0_goSideways_38 : decode cX0_goSideways 38 = .ok (.aload_n 0, 1) := by decide +kernel
theorem dX0_goSideways_39 : decode cX0_goSideways 39 = .ok (.getfield 9, 3) := by decide +kernel
theorem dX0_goSideways_42 : decode cX0_goSideways 42 = .ok (.iload_n 2, 1) := by decide +kernel
theorem dX0_goSideways_43 : decode cX0_goSideways 43 = .ok (.iadd, 1) := by decide +kernel
theorem dX0_goSideways_44 : decode cX0_goSideways 44 = .ok (.invokevirtual 32, 3) := by decide +kernel
theorem dX0_goSideways_47 : decode cX0_goSideways 47 = .ok (.ifCond .ne 14, 3) := by decide +kernel
theorem dX0_goSideways_50 : decode cX0_goSideways 50 = .ok (.aload_n 0, 1) := by decide +kernel
theorem dX0_goSideways_51 : decode cX0_goSideways 51 = .ok (.aload_n 1, 1) := by decide +kernel
theorem dX0_goSideways_52 : decode cX0_goSideways 52 = .ok (.aload_n 0, 1) := by decide +kernel
theorem dX0_goSideways_53 : decode cX0_goSideways 53 = .ok (.getfield 9, 3) := by decide +kernel
theorem dX0_goSideways_56 : decode cX0_goSideways 56 = .ok (.iload_n 2, 1) := by decide +kernel
theorem dX0_goSideways_57 : decode cX0_goSideways 57 = .ok (.iadd, 1) := by decide +kernel
theorem dX0_goSideways_58 : decode cX0_goSideways 58 = .ok (.invokevirtual 28, 3) := by decide +kernel
theorem dX0_goSideways_61 : decode cX0_goSideways 61 = .ok (.return_, 1) := by decide +kernel
set_option maxRecDepth 20000 in
theorem ggX0_goUpOrDown_X0_isSolidIn : GoodIn wsX0_goUpOrDown wsX0_isSolidIn := goodIn_r _ [8, 9, 10, 11, 12, 13, 14, 15, 33, 34, 35, 36, 37, 38, 39, 40] (by decide +kernel) (by decide +kernel)
set_option maxRecDepth 20000 in
theorem gX0_goUpOrDown_X0_isSolidIn : GoodIn wsX0_goUpOrDown (wsV RX0 32 RX0 yX0_isSolidIn wsX0_isSolidIn) := goodIn_app (goodIn_of _ (by decide +kernel)) ggX0_goUpOrDown_X0_isSolidIn
set_option maxRecDepth 20000 in
theorem ggX0_goUpOrDown_X1_kindAt : GoodIn wsX0_goUpOrDown wsX1_kindAt := goodIn_r _ [14, 15, 38, 39, 40] (by decide +kernel) (by decide +kernel)
set_option maxRecDepth 20000 in
theorem gX0_goUpOrDown_X1_kindAt : GoodIn wsX0_goUpOrDown (wsV RX0 47 RX1 yX1_kindAt wsX1_kindAt) := goodIn_app (goodIn_of _ (by decide +kernel)) ggX0_goUpOrDown_X1_kindAt
set_option maxRecDepth 20000 in
theorem ggX0_goUpOrDown_X0_strengthOf : GoodIn wsX0_goUpOrDown wsX0_strengthOf := goodIn_r _ [19, 20, 33, 34, 35, 36, 37] (by decide +kernel) (by decide +kernel)
set_option maxRecDepth 20000 in
theorem gX0_goUpOrDown_X0_strengthOf : GoodIn wsX0_goUpOrDown (wsV RX0 53 RX0 yX0_strengthOf wsX0_strengthOf) := goodIn_app (goodIn_of _ (by decide +kernel)) ggX0_goUpOrDown_X0_strengthOf
set_option maxRecDepth 20000 in
theorem ggX0_goUpOrDown_X0_comeTo : GoodIn wsX0_goUpOrDown wsX0_comeTo := goodIn_r _ [24, 3, 2, 9, 25, 26, 27, 10, 11, 12, 13, 14, 15, 28, 29, 30, 31, 32, 33, 34, 35, 36, 37, 38, 39, 40] (by decide +kernel) (by decide +kernel)
set_option maxRecDepth 20000 in
theorem gX0_goUpOrDown_X0_comeTo : GoodIn wsX0_goUpOrDown (wsV RX0 28 RX0 yX0_comeTo wsX0_comeTo) := goodIn_app (goodIn_of _ (by decide +kernel)) ggX0_goUpOrDown_X0_comeTo
theorem dX0_goUpOrDown_0 : decode cX0_goUpOrDown 0 = .ok (.aload_n 0, 1) := by decide +kernel
theorem dX0_goUpOrDown_1 : decode cX0_goUpOrDown 1 = .ok (.getfield 15, 3) := by decide +kernel
theorem dX0_goUpOrDown_4 : decode cX0_goUpOrDown 4 = .ok (.ifCond .ge 8, 3) := by decide +kernel
theorem dX0_goUpOrDown_7 : decode cX0_goUpOrDown 7 = .ok (.bipush (-12), 2) := by decide +kernel
theorem dX0_goUpOrDown_9 : decode cX0_goUpOrDown 9 = .ok (.goto 5, 3) := by decide +kernel
theorem dX0_goUpOrDown_12 : decode cX0_goUpOrDown 12 = .ok (.bipush 12, 2) := by decide +kernel
theorem dX0_goUpOrDown_14 : decode cX0_goUpOrDown 14 = .ok (.istore_n 2, 1) := by decide +kernel
theorem dX0_goUpOrDown_15 : decode cX0_goUpOrDown 15 = .ok (.aload_n 0, 1) := by decide +kernel
theorem dX0_goUpOrDown_16 : decode cX0_goUpOrDown 16 = .ok (.getfield 15, 3) := by decide +kernel
theorem dX0_goUpOrDown_19 : decode cX0_goUpOrDown 19 = .ok (.ifCond .ge 11, 3) := by decide +kernel
theorem dX0_goUpOrDown_22 : decode cX0_goUpOrDown 22 = .ok (.aload_n 0, 1) := by decide +kernel
theorem dX0_goUpOrDown_23 : decode cX0_goUpOrDown 23 = .ok (.getfield 15, 3) := by decide +kernel
theorem dX0_goUpOrDown_26 : decode cX0_goUpOrDown 26 = .ok (.ineg, 1) := by decide +kernel
theorem dX0_goUpOrDown_27 : decode cX0_goUpOrDown 27 = .ok (.goto 7, 3) := by decide +kernel
theorem dX0_goUpOrDown_30 : decode cX0_goUpOrDown 30 = .ok (.aload_n 0, 1) := by decide +kernel
theorem dX0_goUpOrDown_31 : decode cX0_goUpOrDown 31 = .ok (.getfield 15, 3) := by decide +kernel
theorem dX0_goUpOrDown_34 : decode cX0_goUpOrDown 34 = .ok (.istore_n 3, 1) := by decide +kernel
theorem dX0_goUpOrDown_35 : decode cX0_goUpOrDown 35 = .ok (.iconst 0, 1) := by decide +kernel
theorem dX0_goUpOrDown_36 : decode cX0_goUpOrDown 36 = .ok (.istore 4, 2) := by decide +kernel
theorem dX0_goUpOrDown_38 : decode cX0_goUpOrDown 38 = .ok (.iload 4, 2) := by decide +kernel
theorem dX0_goUpOrDown_40 : decode cX0_goUpOrDown 40 = .ok (.iload_n 3, 1) := by decide +kernel
theorem dX0_goUpOrDown_41 : decode cX0_goUpOrDown 41 = .ok (.if_icmp .ge 71, 3) := by decide +kernel
theorem dX0_goUpOrDown_44 : decode cX0_goUpOrDown 44 = .ok (.aload_n 0, 1) := by decide +kernel
theorem dX0_goUpOrDown_45 : decode cX0_goUpOrDown 45 = .ok (.aload_n 1, 1) := by decide +kernel
theorem dX0_goUpOrDown_46 : decode cX0_goUpOrDown 46 = .ok (.aload_n 0, 1) := by decide +kernel
theorem dX0_goUpOrDown_47 : decode cX0_goUpOrDown 47 = .ok (.getfield 9, 3) := by decide +kernel
theorem dX0_goUpOrDown_50 : decode cX0_goUpOrDown 50 = .ok (.iload_n 2, 1) := by decide +kernel
theorem dX0_goUpOrDown_51 : decode cX0_goUpOrDown 51 = .ok (.iadd, 1) := by decide +kernel
theorem dX0_goUpOrDown_52 : decode cX0_goUpOrDown 52 = .ok (.invokevirtual 32, 3) := by decide +kernel
theorem dX0_goUpOrDown_55 : decode cX0_goUpOrDown 55 = .ok (.ifCond .eq 31, 3) := by decide +kernel
theorem dX0_goUpOrDown_58 : decode cX0_goUpOrDown 58 = .ok (.aload_n 0, 1) := by decide +kernel
theorem dX0_goUpOrDown_59 : decode cX0_goUpOrDown 59 = .ok (.iload_n 2, 1) := by decide +kernel
theorem dX0_goUpOrDown_60 : decode cX0_goUpOrDown 60 = .ok (.ifCond .ge 7, 3) := by decide +kernel
theorem dX0_goUpOrDown_63 : decode cX0_goUpOrDown 63 = .ok (.iconst 0, 1) := by decide +kernel
theorem dX0_goUpOrDown_64 : decode cX0_goUpOrDown 64 = .ok (.goto 18, 3) := by decide +kernel
theorem dX0_goUpOrDown_67 : decode cX0_goUpOrDown 67 = .ok (.aload_n 0, 1) := by decide +kernel
theorem dX0_goUpOrDown_68 : decode cX0_goUpOrDown 68 = .ok (.aload_n 1, 1) := by decide +kernel
theorem dX0_goUpOrDown_69 : decode cX0_goUpOrDown 69 = .ok (.aload_n 0, 1) := by decide +kernel
theorem dX0_goUpOrDown_70 : decode cX0_goUpOrDown 70 = .ok (.getfield 9, 3) := by decide +kernel
theorem dX0_goUpOrDown_73 : decode cX0_goUpOrDown 73 = .ok (.iload_n 2, 1) := by decide +kernel
theorem dX0_goUpOrDown_74 : decode cX0_goUpOrDown 74 = .ok (.iadd, 1) := by decide +kernel
theorem dX0_goUpOrDown_75 : decode cX0_goUpOrDown 75 = .ok (.invokevirtual 47, 3) := by decide +kernel
theorem dX0_goUpOrDown_78 : decode cX0_goUpOrDown 78 = .ok (.invokevirtual 53, 3) := by decide +kernel
theorem dX0_goUpOrDown_81 : decode cX0_goUpOrDown 81 = .ok (.ineg, 1) := by decide +kernel
theorem dX0_goUpOrDown_82 : decode cX0_goUpOrDown 82 = .ok (.putfield 15, 3) := by decide +kernel
theorem dX0_goUpOrDown_85 : decode cX0_goUpOrDown 85 = .ok (.return_, 1) := by decide +kernel
theorem dX0_goUpOrDown_86 : decode cX0_goUpOrDown 86 = .ok (.aload_n 0, 1) := by decide +kernel
theorem dX0_goUpOrDown_87 : decode cX0_goUpOrDown 87 = .ok (.aload_n 1, 1) := by decide +kernel
theorem dX0_goUpOrDown_88 : decode cX0_goUpOrDown 88 = .ok (.aload_n 0, 1) := by decide +kernel
theorem dX0_goUpOrDown_89 : decode cX0_goUpOrDown 89 = .ok (.getfield 9, 3) := by decide +kernel
theorem dX0_goUpOrDown_92 : decode cX0_goUpOrDown 92 = .ok (.iload_n 2, 1) := by decide +kernel
theorem dX0_goUpOrDown_93 : decode cX0_goUpOrDown 93 = .ok (.iadd, 1) := by decide +kernel
theorem dX0_goUpOrDown_94 : decode cX0_goUpOrDown 94 = .ok (.invokevirtual 28, 3) := by decide +kernel
theorem dX0_goUpOrDown_97 : decode cX0_goUpOrDown 97 = .ok (.aload_n 0, 1) := by decide +kernel
theorem dX0_goUpOrDown_98 : decode cX0_goUpOrDown 98 = .ok (.getfield 21, 3) := by decide +kernel
theorem dX0_goUpOrDown_101 : decode cX0_goUpOrDown 101 = .ok (.iconst 1, 1) := by decide +kernel
theorem dX0_goUpOrDown_102 : decode cX0_goUpOrDown 102 = .ok (.if_icmp .eq 4, 3) := by decide +kernel
theorem dX0_goUpOrDown_105 : decode cX0_goUpOrDown 105 = .ok (.return_, 1) := by decide +kernel
theorem dX0_goUpOrDown_106 : decode cX0_goUpOrDown 106 = .ok (.iinc 4 1, 3) := by decide +kernel
theorem dX0_goUpOrDown_109 : decode cX0_goUpOrDown 109 = .ok (.goto (-71), 3) := by decide +kernel
theorem dX0_goUpOrDown_112 : decode cX0_goUpOrDown 112 = .ok (.aload_n 0, 1) := by decide +kernel
theorem dX0_goUpOrDown_113 : decode cX0_goUpOrDown 113 = .ok (.aload_n 0, 1) := by decide +kernel
theorem dX0_goUpOrDown_114 : decode cX0_goUpOrDown 114 = .ok (.getfield 15, 3) := by decide +kernel
theorem dX0_goUpOrDown_117 : decode cX0_goUpOrDown 117 = .ok (.iconst 3, 1) := by decide +kernel
theorem dX0_goUpOrDown_118 : decode cX0_goUpOrDown 118 = .ok (.if_icmp .ge 12, 3) := by decide +kernel
theorem dX0_goUpOrDown_121 : decode cX0_goUpOrDown 121 = .ok (.aload_n 0, 1) := by decide +kernel
theorem dX0_goUpOrDown_122 : decode cX0_goUpOrDown 122 = .ok (.getfield 15, 3) := by decide +kernel
theorem dX0_goUpOrDown_125 : decode cX0_goUpOrDown 125 = .ok (.iconst 1, 1) := by decide +kernel
theorem dX0_goUpOrDown_126 : decode cX0_goUpOrDown 126 = .ok (.iadd, 1) := by decide +kernel
theorem dX0_goUpOrDown_127 : decode cX0_goUpOrDown 127 = .ok (.goto 4, 3) := by decide +kernel
theorem dX0_goUpOrDown_130 : decode cX0_goUpOrDown 130 = .ok (.iconst 3, 1) := by decide +kernel
theorem dX0_goUpOrDown_131 : decode cX0_goUpOrDown 131 = .ok (.putfield 15, 3) := by decide +kernel
theorem dX0_goUpOrDown_134 : decode cX0_goUpOrDown 134 = .ok (.return_, 1) := by decide +kernel
set_option maxRecDepth 20000 in
theorem ggX0_isSolidIn_X1_kindAt : GoodIn wsX0_isSolidIn wsX1_kindAt := goodIn_r _ [6, 7, 13, 14, 15] (by decide +kernel) (by decide +kernel)
set_option maxRecDepth 20000 in
theorem gX0_isSolidIn_X1_kindAt : GoodIn wsX0_isSolidIn (wsV RX0 47 RX1 yX1_kindAt wsX1_kindAt) := goodIn_app (goodIn_of _ (by decide +kernel)) ggX0_isSolidIn_X1_kindAt
theorem dX0_isSolidIn_0 : decode cX0_isSolidIn 0 = .ok (.iload_n 2, 1) := by decide +kernel
theorem dX0_isSolidIn_1 : decode cX0_isSolidIn 1 = .ok (.ifCond .ge 5, 3) := by decide +kernel
theorem dX0_isSolidIn_4 : decode cX0_isSolidIn 4 = .ok (.iconst 1, 1) := by decide +kernel
theorem dX0_isSolidIn_5 : decode cX0_isSolidIn 5 = .ok (.ireturn, 1) := by decide +kernel
theorem dX0_isSolidIn_6 : decode cX0_isSolidIn 6 = .ok (.aload_n 1, 1) := by decide +kernel
theorem dX0_isSolidIn_7 : decode cX0_isSolidIn 7 = .ok (.iload_n 2, 1) := by decide +kernel
theorem dX0_isSolidIn_8 : decode cX0_isSolidIn 8 = .ok (.invokevirtual 47, 3) := by decide +kernel
theorem dX0_isSolidIn_11 : decode cX0_isSolidIn 11 = .ok (.istore_n 3, 1) := by decide +kernel
theorem dX0_isSolidIn_12 : decode cX0_isSolidIn 12 = .ok (.iload_n 3, 1) := by decide +kernel
theorem dX0_isSolidIn_13 : decode cX0_isSolidIn 13 = .ok (.iconst 1, 1) := by decide +kernel
theorem dX0_isSolidIn_14 : decode cX0_isSolidIn 14 = .ok (.if_icmp .eq 25, 3) := by decide +kernel
theorem dX0_isSolidIn_17 : decode cX0_isSolidIn 17 = .ok (.iload_n 3, 1) := by decide +kernel
theorem dX0_isSolidIn_18 : decode cX0_isSolidIn 18 = .ok (.bipush 6, 2) := by decide +kernel
theorem dX0_isSolidIn_20 : decode cX0_isSolidIn 20 = .ok (.if_icmp .ge 19, 3) := by decide +kernel
theorem dX0_isSolidIn_23 : decode cX0_isSolidIn 23 = .ok (.iload_n 3, 1) := by decide +kernel
theorem dX0_isSolidIn_24 : decode cX0_isSolidIn 24 = .ok (.iconst 3, 1) := by decide +kernel
theorem dX0_isSolidIn_25 : decode cX0_isSolidIn 25 = .ok (.if_icmp .ne 18, 3) := by decide +kernel
theorem dX0_isSolidIn_28 : decode cX0_isSolidIn 28 = .ok (.aload_n 0, 1) := by decide +kernel
theorem dX0_isSolidIn_29 : decode cX0_isSolidIn 29 = .ok (.getfield 18, 3) := by decide +kernel
theorem dX0_isSolidIn_32 : decode cX0_isSolidIn 32 = .ok (.aload_n 1, 1) := by decide +kernel
theorem dX0_isSolidIn_33 : decode cX0_isSolidIn 33 = .ok (.getfield 56, 3) := by decide +kernel
theorem dX0_isSolidIn_36 : decode cX0_isSolidIn 36 = .ok (.if_icmp .eq 7, 3) := by decide +kernel
theorem dX0_isSolidIn_39 : decode cX0_isSolidIn 39 = .ok (.iconst 1, 1) := by decide +kernel
theorem dX0_isSolidIn_40 : decode cX0_isSolidIn 40 = .ok (.goto 4, 3) := by decide +kernel
theorem dX0_isSolidIn_43 : decode cX0_isSolidIn 43 = .ok (.iconst 0, 1) := by decide +kernel
theorem dX0_isSolidIn_44 : decode cX0_isSolidIn 44 = .ok (.ireturn, 1) := by decide +kernel
theorem dX0_strengthOf_0 : decode cX0_strengthOf 0 = .ok (.iload_n 1, 1) := by decide +kernel
theorem dX0_strengthOf_1 : decode cX0_strengthOf 1 = .ok (.bipush 6, 2) := by decide +kernel
theorem dX0_strengthOf_3 : decode cX0_strengthOf 3 = .ok (.isub, 1) := by decide +kernel
theorem dX0_strengthOf_4 : decode cX0_strengthOf 4 = .ok (.istore_n 2, 1) := by decide +kernel
theorem dX0_strengthOf_5 : decode cX0_strengthOf 5 = .ok (.iload_n 2, 1) := by decide +kernel
theorem dX0_strengthOf_6 : decode cX0_strengthOf 6 = .ok (.ifCond .lt 21, 3) := by decide +kernel
theorem dX0_strengthOf_9 : decode cX0_strengthOf 9 = .ok (.iload_n 2, 1) := by decide +kernel
theorem dX0_strengthOf_10 : decode cX0_strengthOf 10 = .ok (.aload_n 0, 1) := by decide +kernel
theorem dX0_strengthOf_11 : decode cX0_strengthOf 11 = .ok (.getfield 24, 3) := by decide +kernel
theorem dX0_strengthOf_14 : decode cX0_strengthOf 14 = .ok (.arraylength, 1) := by decide +kernel
theorem dX0_strengthOf_15 : decode cX0_strengthOf 15 = .ok (.if_icmp .ge 12, 3) := by decide +kernel
theorem dX0_strengthOf_18 : decode cX0_strengthOf 18 = .ok (.aload_n 0, 1) := by decide +kernel
theorem dX0_strengthOf_19 : decode cX0_strengthOf 19 = .ok (.getfield 24, 3) := by decide +kernel
theorem dX0_strengthOf_22 : decode cX0_strengthOf 22 = .ok (.iload_n 2, 1) := by decide +kernel
theorem dX0_strengthOf_23 : decode cX0_strengthOf 23 = .ok (.iaload, 1) := by decide +kernel
theorem dX0_strengthOf_24 : decode cX0_strengthOf 24 = .ok (.goto 4, 3) := by decide +kernel
theorem dX0_strengthOf_27 : decode cX0_strengthOf 27 = .ok (.iconst 0, 1) := by decide +kernel
theorem dX0_strengthOf_28 : decode cX0_strengthOf 28 = .ok (.ireturn, 1) := by decide +kernel
set_option maxRecDepth 20000 in
theorem ggX0_comeTo_X7_isCell : GoodIn wsX0_comeTo wsX7_isCell := goodIn_r _ [6] (by decide +kernel) (by decide +kernel)
set_option maxRecDepth 20000 in
theorem gX0_comeTo_X7_isCell_n59 : GoodIn wsX0_comeTo (wsX7_isCell) := ggX0_comeTo_X7_isCell
set_option maxRecDepth 20000 in
theorem ggX0_comeTo_X1_kindAt : GoodIn wsX0_comeTo wsX1_kindAt := goodIn_r _ [11, 12, 23, 24, 25] (by decide +kernel) (by decide +kernel)
set_option maxRecDepth 20000 in
theorem gX0_comeTo_X1_kindAt : GoodIn wsX0_comeTo (wsV RX0 47 RX1 yX1_kindAt wsX1_kindAt) := goodIn_app (goodIn_of _ (by decide +kernel)) ggX0_comeTo_X1_kindAt
set_option maxRecDepth 20000 in
theorem ggX0_comeTo_X1_keyBit : GoodIn wsX0_comeTo wsX1_keyBit := goodIn_r _ [16, 17, 23, 24, 25] (by decide +kernel) (by decide +kernel)
set_option maxRecDepth 20000 in
theorem gX0_comeTo_X1_keyBit : GoodIn wsX0_comeTo (wsV RX0 63 RX1 yX1_keyBit wsX1_keyBit) := goodIn_app (goodIn_of _ (by decide +kernel)) ggX0_comeTo_X1_keyBit
theorem dX0_comeTo_0 : decode cX0_comeTo 0 = .ok (.iload_n 2, 1) := by decide +kernel
theorem dX0_comeTo_1 : decode cX0_comeTo 1 = .ok (.invokestatic 59, 3) := by decide +kernel
theorem dX0_comeTo_4 : decode cX0_comeTo 4 = .ok (.ifCond .ne 9, 3) := by decide +kernel
theorem dX0_comeTo_7 : decode cX0_comeTo 7 = .ok (.aload_n 0, 1) := by decide +kernel
theorem dX0_comeTo_8 : decode cX0_comeTo 8 = .ok (.iconst 3, 1) := by decide +kernel
theorem dX0_comeTo_9 : decode cX0_comeTo 9 = .ok (.putfield 21, 3) := by decide +kernel
theorem dX0_comeTo_12 : decode cX0_comeTo 12 = .ok (.return_, 1) := by decide +kernel
theorem dX0_comeTo_13 : decode cX0_comeTo 13 = .ok (.aload_n 0, 1) := by decide +kernel
theorem dX0_comeTo_14 : decode cX0_comeTo 14 = .ok (.iload_n 2, 1) := by decide +kernel
theorem dX0_comeTo_15 : decode cX0_comeTo 15 = .ok (.putfield 9, 3) := by decide +kernel
theorem dX0_comeTo_18 : decode cX0_comeTo 18 = .ok (.aload_n 1, 1) := by decide +kernel
theorem dX0_comeTo_19 : decode cX0_comeTo 19 = .ok (.iload_n 2, 1) := by decide +kernel
theorem dX0_comeTo_20 : decode cX0_comeTo 20 = .ok (.invokevirtual 47, 3) := by decide +kernel
theorem dX0_comeTo_23 : decode cX0_comeTo 23 = .ok (.istore_n 3, 1) := by decide +kernel
theorem dX0_comeTo_24 : decode cX0_comeTo 24 = .ok (.iload_n 3, 1) := by decide +kernel
theorem dX0_comeTo_25 : decode cX0_comeTo 25 = .ok (.iconst 2, 1) := by decide +kernel
theorem dX0_comeTo_26 : decode cX0_comeTo 26 = .ok (.if_icmp .ne 20, 3) := by decide +kernel
theorem dX0_comeTo_29 : decode cX0_comeTo 29 = .ok (.aload_n 0, 1) := by decide +kernel
theorem dX0_comeTo_30 : decode cX0_comeTo 30 = .ok (.dup, 1) := by decide +kernel
theorem dX0_comeTo_31 : decode cX0_comeTo 31 = .ok (.getfield 18, 3) := by decide +kernel
theorem dX0_comeTo_34 : decode cX0_comeTo 34 = .ok (.aload_n 1, 1) := by decide +kernel
theorem dX0_comeTo_35 : decode cX0_comeTo 35 = .ok (.iload_n 2, 1) := by decide +kernel
theorem dX0_comeTo_36 : decode cX0_comeTo 36 = .ok (.invokevirtual 63, 3) := by decide +kernel
theorem dX0_comeTo_39 : decode cX0_comeTo 39 = .ok (.ior, 1) := by decide +kernel
theorem dX0_comeTo_40 : decode cX0_comeTo 40 = .ok (.putfield 18, 3) := by decide +kernel
theorem dX0_comeTo_43 : decode cX0_comeTo 43 = .ok (.goto 26, 3) := by decide +kernel
theorem dX0_comeTo_46 : decode cX0_comeTo 46 = .ok (.iload_n 3, 1) := by decide +kernel
theorem dX0_comeTo_47 : decode cX0_comeTo 47 = .ok (.iconst 4, 1) := by decide +kernel
theorem dX0_comeTo_48 : decode cX0_comeTo 48 = .ok (.if_icmp .ne 11, 3) := by decide +kernel
theorem dX0_comeTo_51 : decode cX0_comeTo 51 = .ok (.aload_n 0, 1) := by decide +kernel
theorem dX0_comeTo_52 : decode cX0_comeTo 52 = .ok (.iconst 3, 1) := by decide +kernel
theorem dX0_comeTo_53 : decode cX0_comeTo 53 = .ok (.putfield 21, 3) := by decide +kernel
theorem dX0_comeTo_56 : decode cX0_comeTo 56 = .ok (.goto 13, 3) := by decide +kernel
theorem dX0_comeTo_59 : decode cX0_comeTo 59 = .ok (.iload_n 3, 1) := by decide +kernel
theorem dX0_comeTo_60 : decode cX0_comeTo 60 = .ok (.iconst 5, 1) := by decide +kernel
theorem dX0_comeTo_61 : decode cX0_comeTo 61 = .ok (.if_icmp .ne 8, 3) := by decide +kernel
theorem dX0_comeTo_64 : decode cX0_comeTo 64 = .ok (.aload_n 0, 1) := by decide +kernel
theorem dX0_comeTo_65 : decode cX0_comeTo 65 = .ok (.iconst 2, 1) := by decide +kernel
theorem dX0_comeTo_66 : decode cX0_comeTo 66 = .ok (.putfield 21, 3) := by decide +kernel
theorem dX0_comeTo_69 : decode cX0_comeTo 69 = .ok (.return_, 1) := by decide +kernel
theorem dX1_init_0 : decode cX1_init 0 = .ok (.aload_n 0, 1) := by decide +kernel
theorem dX1_init_1 : decode cX1_init 1 = .ok (.invokespecial 3, 3) := by decide +kernel
theorem dX1_init_4 : decode cX1_init 4 = .ok (.aload_n 0, 1) := by decide +kernel
theorem dX1_init_5 : decode cX1_init 5 = .ok (.bipush 96, 2) := by decide +kernel
theorem dX1_init_7 : decode cX1_init 7 = .ok (.newarray .int, 2) := by decide +kernel
theorem dX1_init_9 : decode cX1_init 9 = .ok (.putfield 9, 3) := by decide +kernel
theorem dX1_init_12 : decode cX1_init 12 = .ok (.aload_n 0, 1) := by decide +kernel
theorem dX1_init_13 : decode cX1_init 13 = .ok (.iconst 3, 1) := by decide +kernel
theorem dX1_init_14 : decode cX1_init 14 = .ok (.newarray .int, 2) := by decide +kernel
theorem dX1_init_16 : decode cX1_init 16 = .ok (.dup, 1) := by decide +kernel
theorem dX1_init_17 : decode cX1_init 17 = .ok (.iconst 0, 1) := by decide +kernel
theorem dX1_init_18 : decode cX1_init 18 = .ok (.iconst (-1), 1) := by decide +kernel
theorem dX1_init_19 : decode cX1_init 19 = .ok (.iastore, 1) := by decide +kernel
theorem dX1_init_20 : decode cX1_init 20 = .ok (.dup, 1) := by decide +kernel
theorem dX1_init_21 : decode cX1_init 21 = .ok (.iconst 1, 1) := by decide +kernel
theorem dX1_init_22 : decode cX1_init 22 = .ok (.iconst (-1), 1) := by decide +kernel
theorem dX1_init_23 : decode cX1_init 23 = .ok (.iastore, 1) := by decide +kernel
theorem dX1_init_24 : decode cX1_init 24 = .ok (.dup, 1) := by decide +kernel
theorem dX1_init_25 : decode cX1_init 25 = .ok (.iconst 2, 1) := by decide +kernel
theorem dX1_init_26 : decode cX1_init 26 = .ok (.iconst (-1), 1) := by decide +kernel
theorem dX1_init_27 : decode cX1_init 27 = .ok (.iastore, 1) := by decide +kernel
theorem dX1_init_28 : decode cX1_init 28 = .ok (.putfield 15, 3) := by decide +kernel
theorem dX1_init_31 : decode cX1_init 31 = .ok (.aload_n 0, 1) := by decide +kernel
theorem dX1_init_32 : decode cX1_init 32 = .ok (.iconst 0, 1) := by decide +kernel
theorem dX1_init_33 : decode cX1_init 33 = .ok (.putfield 18, 3) := by decide +kernel
theorem dX1_init_36 : decode cX1_init 36 = .ok (.return_, 1) := by decide +kernel
theorem dX1_kindAt_0 : decode cX1_kindAt 0 = .ok (.iload_n 1, 1) := by decide +kernel
theorem dX1_kindAt_1 : decode cX1_kindAt 1 = .ok (.ifCond .lt 21, 3) := by decide +kernel
theorem dX1_kindAt_4 : decode cX1_kindAt 4 = .ok (.iload_n 1, 1) := by decide +kernel
theorem dX1_kindAt_5 : decode cX1_kindAt 5 = .ok (.aload_n 0, 1) := by decide +kernel
theorem dX1_kindAt_6 : decode cX1_kindAt 6 = .ok (.getfield 9, 3) := by decide +kernel
theorem dX1_kindAt_9 : decode cX1_kindAt 9 = .ok (.arraylength, 1) := by decide +kernel
theorem dX1_kindAt_10 : decode cX1_kindAt 10 = .ok (.if_icmp .ge 12, 3) := by decide +kernel
theorem dX1_kindAt_13 : decode cX1_kindAt 13 = .ok (.aload_n 0, 1) := by decide +kernel
theorem dX1_kindAt_14 : decode cX1_kindAt 14 = .ok (.getfield 9, 3) := by decide +kernel
theorem dX1_kindAt_17 : decode cX1_kindAt 17 = .ok (.iload_n 1, 1) := by decide +kernel
theorem dX1_kindAt_18 : decode cX1_kindAt 18 = .ok (.iaload, 1) := by decide +kernel
theorem dX1_kindAt_19 : decode cX1_kindAt 19 = .ok (.goto 4, 3) := by decide +kernel
theorem dX1_kindAt_22 : decode cX1_kindAt 22 = .ok (.iconst 0, 1) := by decide +kernel
theorem dX1_kindAt_23 : decode cX1_kindAt 23 = .ok (.ireturn, 1) := by decide +kernel
set_option maxRecDepth 20000 in
theorem ggX1_put_X7_isCell : GoodIn wsX1_put wsX7_isCell := goodIn_r _ [4] (by decide +kernel) (by decide +kernel)
set_option maxRecDepth 20000 in
theorem gX1_put_X7_isCell_n22 : GoodIn wsX1_put (wsX7_isCell) := ggX1_put_X7_isCell
set_option maxRecDepth 20000 in
theorem ggX1_put_X1_changeKey : GoodIn wsX1_put wsX1_changeKey := goodIn_r _ [9, 10, 11, 12, 13, 14] (by decide +kernel) (by decide +kernel)
set_option maxRecDepth 20000 in
theorem gX1_put_X1_changeKey : GoodIn wsX1_put (wsV RX1 26 RX1 yX1_changeKey wsX1_changeKey) := goodIn_app (goodIn_of _ (by decide +kernel)) ggX1_put_X1_changeKey
theorem dX1_put_0 : decode cX1_put 0 = .ok (.iload_n 1, 1) := by decide +kernel
theorem dX1_put_1 : decode cX1_put 1 = .ok (.invokestatic 22, 3) := by decide +kernel
theorem dX1_put_4 : decode cX1_put 4 = .ok (.ifCond .ne 4, 3) := by decide +kernel
theorem dX1_put_7 : decode cX1_put 7 = .ok (.return_, 1) := by decide +kernel
theorem dX1_put_8 : decode cX1_put 8 = .ok (.aload_n 0, 1) := by decide +kernel
theorem dX1_put_9 : decode cX1_put 9 = .ok (.getfield 9, 3) := by decide +kernel
theorem dX1_put_12 : decode cX1_put 12 = .ok (.iload_n 1, 1) := by decide +kernel
theorem dX1_put_13 : decode cX1_put 13 = .ok (.iaload, 1) := by decide +kernel
theorem dX1_put_14 : decode cX1_put 14 = .ok (.iconst 2, 1) := by decide +kernel
theorem dX1_put_15 : decode cX1_put 15 = .ok (.if_icmp .ne 9, 3) := by decide +kernel
theorem dX1_put_18 : decode cX1_put 18 = .ok (.aload_n 0, 1) := by decide +kernel
theorem dX1_put_19 : decode cX1_put 19 = .ok (.iload_n 1, 1) := by decide +kernel
theorem dX1_put_20 : decode cX1_put 20 = .ok (.iconst (-1), 1) := by decide +kernel
theorem dX1_put_21 : decode cX1_put 21 = .ok (.invokevirtual 26, 3) := by decide +kernel
theorem dX1_put_24 : decode cX1_put 24 = .ok (.aload_n 0, 1) := by decide +kernel
theorem dX1_put_25 : decode cX1_put 25 = .ok (.getfield 9, 3) := by decide +kernel
theorem dX1_put_28 : decode cX1_put 28 = .ok (.iload_n 1, 1) := by decide +kernel
theorem dX1_put_29 : decode cX1_put 29 = .ok (.iload_n 2, 1) := by decide +kernel
theorem dX1_put_30 : decode cX1_put 30 = .ok (.iastore, 1) := by decide +kernel
theorem dX1_put_31 : decode cX1_put 31 = .ok (.iload_n 2, 1) := by decide +kernel
theorem dX1_put_32 : decode cX1_put 32 = .ok (.iconst 2, 1) := by decide +kernel
theorem dX1_put_33 : decode cX1_put 33 = .ok (.if_icmp .ne 9, 3) := by decide +kernel
theorem dX1_put_36 : decode cX1_put 36 = .ok (.aload_n 0, 1) := by decide +kernel
theorem dX1_put_37 : decode cX1_put 37 = .ok (.iconst (-1), 1) := by decide +kernel
theorem dX1_put_38 : decode cX1_put 38 = .ok (.iload_n 1, 1) := by decide +kernel
theorem dX1_put_39 : decode cX1_put 39 = .ok (.invokevirtual 26, 3) := by decide +kernel
theorem dX1_put_42 : decode cX1_put 42 = .ok (.return_, 1) := by decide +kernel
theorem dX1_changeKey_0 : decode cX1_changeKey 0 = .ok (.iconst 0, 1) := by decide +kernel
theorem dX1_changeKey_1 : decode cX1_changeKey 1 = .ok (.istore_n 3, 1) := by decide +kernel
theorem dX1_changeKey_2 : decode cX1_changeKey 2 = .ok (.iload_n 3, 1) := by decide +kernel
theorem dX1_changeKey_3 : decode cX1_changeKey 3 = .ok (.aload_n 0, 1) := by decide +kernel
theorem dX1_changeKey_4 : decode cX1_changeKey 4 = .ok (.getfield 15, 3) := by decide +kernel
theorem dX1_changeKey_7 : decode cX1_changeKey 7 = .ok (.arraylength, 1) := by decide +kernel
theorem dX1_changeKey_8 : decode cX1_changeKey 8 = .ok (.if_icmp .ge 39, 3) := by decide +kernel
theorem dX1_changeKey_11 : decode cX1_changeKey 11 = .ok (.aload_n 0, 1) := by decide +kernel
theorem dX1_changeKey_12 : decode cX1_changeKey 12 = .ok (.getfield 15, 3) := by decide +kernel
theorem dX1_changeKey_15 : decode cX1_changeKey 15 = .ok (.iload_n 3, 1) := by decide +kernel
theorem dX1_changeKey_16 : decode cX1_changeKey 16 = .ok (.iaload, 1) := by decide +kernel
theorem dX1_changeKey_17 : decode cX1_changeKey 17 = .ok (.iload_n 1, 1) := by decide +kernel
theorem dX1_changeKey_18 : decode cX1_changeKey 18 = .ok (.if_icmp .ne 23, 3) := by decide +kernel
theorem dX1_changeKey_21 : decode cX1_changeKey 21 = .ok (.aload_n 0, 1) := by decide +kernel
theorem dX1_changeKey_22 : decode cX1_changeKey 22 = .ok (.getfield 15, 3) := by decide +kernel
theorem dX1_changeKey_25 : decode cX1_changeKey 25 = .ok (.iload_n 3, 1) := by decide +kernel
theorem dX1_changeKey_26 : decode cX1_changeKey 26 = .ok (.iload_n 2, 1) := by decide +kernel
theorem dX1_changeKey_27 : decode cX1_changeKey 27 = .ok (.iastore, 1) := by decide +kernel
theorem dX1_changeKey_28 : decode cX1_changeKey 28 = .ok (.aload_n 0, 1) := by decide +kernel
theorem dX1_changeKey_29 : decode cX1_changeKey 29 = .ok (.dup, 1) := by decide +kernel
theorem dX1_changeKey_30 : decode cX1_changeKey 30 = .ok (.getfield 18, 3) := by decide +kernel
theorem dX1_changeKey_33 : decode cX1_changeKey 33 = .ok (.iconst 1, 1) := by decide +kernel
theorem dX1_changeKey_34 : decode cX1_changeKey 34 = .ok (.iload_n 3, 1) := by decide +kernel
theorem dX1_changeKey_35 : decode cX1_changeKey 35 = .ok (.ishl, 1) := by decide +kernel
theorem dX1_changeKey_36 : decode cX1_changeKey 36 = .ok (.ixor, 1) := by decide +kernel
theorem dX1_changeKey_37 : decode cX1_changeKey 37 = .ok (.putfield 18, 3) := by decide +kernel
theorem dX1_changeKey_40 : decode cX1_changeKey 40 = .ok (.return_, 1) := by decide +kernel
theorem dX1_changeKey_41 : decode cX1_changeKey 41 = .ok (.iinc 3 1, 3) := by decide +kernel
theorem dX1_changeKey_44 : decode cX1_changeKey 44 = .ok (.goto (-42), 3) := by decide +kernel
theorem dX1_changeKey_47 : decode cX1_changeKey 47 = .ok (.return_, 1) := by decide +kernel
set_option maxRecDepth 20000 in
theorem ggX1_putAllOf_X1_kindAt : GoodIn wsX1_putAllOf wsX1_kindAt := goodIn_r _ [5, 6, 20, 21, 22] (by decide +kernel) (by decide +kernel)
set_option maxRecDepth 20000 in
theorem gX1_putAllOf_X1_kindAt : GoodIn wsX1_putAllOf (wsV RX1 30 RX1 yX1_kindAt wsX1_kindAt) := goodIn_app (goodIn_of _ (by decide +kernel)) ggX1_putAllOf_X1_kindAt
set_option maxRecDepth 20000 in
theorem ggX1_putAllOf_X1_put : GoodIn wsX1_putAllOf wsX1_put := goodIn_r _ [10, 6, 11, 12, 13, 14, 15, 16, 4, 17, 18, 19, 20, 21, 22] (by decide +kernel) (by decide +kernel)
set_option maxRecDepth 20000 in
theorem gX1_putAllOf_X1_put : GoodIn wsX1_putAllOf (wsV RX1 34 RX1 yX1_put wsX1_put) := goodIn_app (goodIn_of _ (by decide +kernel)) ggX1_putAllOf_X1_put
theorem dX1_putAllOf_0 : decode cX1_putAllOf 0 = .ok (.iconst 0, 1) := by decide +kernel
theorem dX1_putAllOf_1 : decode cX1_putAllOf 1 = .ok (.istore_n 2, 1) := by decide +kernel
theorem dX1_putAllOf_2 : decode cX1_putAllOf 2 = .ok (.iload_n 2, 1) := by decide +kernel
theorem dX1_putAllOf_3 : decode cX1_putAllOf 3 = .ok (.bipush 96, 2) := by decide +kernel
theorem dX1_putAllOf_5 : decode cX1_putAllOf 5 = .ok (.if_icmp .ge 19, 3) := by decide +kernel
theorem dX1_putAllOf_8 : decode cX1_putAllOf 8 = .ok (.aload_n 0, 1) := by decide +kernel
theorem dX1_putAllOf_9 : decode cX1_putAllOf 9 = .ok (.iload_n 2, 1) := by decide +kernel
theorem dX1_putAllOf_10 : decode cX1_putAllOf 10 = .ok (.aload_n 1, 1) := by decide +kernel
theorem dX1_putAllOf_11 : decode cX1_putAllOf 11 = .ok (.iload_n 2, 1) := by decide +kernel
theorem dX1_putAllOf_12 : decode cX1_putAllOf 12 = .ok (.invokevirtual 30, 3) := by decide +kernel
theorem dX1_putAllOf_15 : decode cX1_putAllOf 15 = .ok (.invokevirtual 34, 3) := by decide +kernel
theorem dX1_putAllOf_18 : decode cX1_putAllOf 18 = .ok (.iinc 2 1, 3) := by decide +kernel
theorem dX1_putAllOf_21 : decode cX1_putAllOf 21 = .ok (.goto (-19), 3) := by decide +kernel
theorem dX1_putAllOf_24 : decode cX1_putAllOf 24 = .ok (.return_, 1) := by decide +kernel
theorem dX1_has_0 : decode cX1_has 0 = .ok (.iconst 0, 1) := by decide +kernel
theorem dX1_has_1 : decode cX1_has 1 = .ok (.istore_n 2, 1) := by decide +kernel
theorem dX1_has_2 : decode cX1_has 2 = .ok (.iload_n 2, 1) := by decide +kernel
theorem dX1_has_3 : decode cX1_has 3 = .ok (.bipush 96, 2) := by decide +kernel
theorem dX1_has_5 : decode cX1_has 5 = .ok (.if_icmp .ge 21, 3) := by decide +kernel
theorem dX1_has_8 : decode cX1_has 8 = .ok (.aload_n 0, 1) := by decide +kernel
theorem dX1_has_9 : decode cX1_has 9 = .ok (.getfield 9, 3) := by decide +kernel
theorem dX1_has_12 : decode cX1_has 12 = .ok (.iload_n 2, 1) := by decide +kernel
theorem dX1_has_13 : decode cX1_has 13 = .ok (.iaload, 1) := by decide +kernel
theorem dX1_has_14 : decode cX1_has 14 = .ok (.iload_n 1, 1) := by decide +kernel
theorem dX1_has_15 : decode cX1_has 15 = .ok (.if_icmp .ne 5, 3) := by decide +kernel
theorem dX1_has_18 : decode cX1_has 18 = .ok (.iconst 1, 1) := by decide +kernel
theorem dX1_has_19 : decode cX1_has 19 = .ok (.ireturn, 1) := by decide +kernel
theorem dX1_has_20 : decode cX1_has 20 = .ok (.iinc 2 1, 3) := by decide +kernel
theorem dX1_has_23 : decode cX1_has 23 = .ok (.goto (-21), 3) := by decide +kernel
theorem dX1_has_26 : decode cX1_has 26 = .ok (.iconst 0, 1) := by decide +kernel
theorem dX1_has_27 : decode cX1_has 27 = .ok (.ireturn, 1) := by decide +kernel
set_option maxRecDepth 20000 in
theorem ggX1_keyCount_J6_bitCount_0f7a4 : GoodIn wsX1_keyCount wsJ6_bitCount_0f7a4 := goodIn_r _ [5, 6, 7, 8] (by decide +kernel) (by decide +kernel)
set_option maxRecDepth 20000 in
theorem gX1_keyCount_J6_bitCount_0f7a4 : GoodIn wsX1_keyCount (va_wsS RX1 37 yJ6_bitCount_0f7a4 wsJ6_bitCount_0f7a4) := goodIn_app (goodIn_of _ (by decide +kernel)) ggX1_keyCount_J6_bitCount_0f7a4
theorem dX1_keyCount_0 : decode cX1_keyCount 0 = .ok (.aload_n 0, 1) := by decide +kernel
theorem dX1_keyCount_1 : decode cX1_keyCount 1 = .ok (.getfield 18, 3) := by decide +kernel
theorem dX1_keyCount_4 : decode cX1_keyCount 4 = .ok (.invokestatic 37, 3) := by decide +kernel
theorem dX1_keyCount_7 : decode cX1_keyCount 7 = .ok (.ireturn, 1) := by decide +kernel
theorem dX1_keyBit_0 : decode cX1_keyBit 0 = .ok (.iconst 0, 1) := by decide +kernel
theorem dX1_keyBit_1 : decode cX1_keyBit 1 = .ok (.istore_n 2, 1) := by decide +kernel
theorem dX1_keyBit_2 : decode cX1_keyBit 2 = .ok (.iload_n 2, 1) := by decide +kernel
theorem dX1_keyBit_3 : decode cX1_keyBit 3 = .ok (.aload_n 0, 1) := by decide +kernel
theorem dX1_keyBit_4 : decode cX1_keyBit 4 = .ok (.getfield 15, 3) := by decide +kernel
theorem dX1_keyBit_7 : decode cX1_keyBit 7 = .ok (.arraylength, 1) := by decide +kernel
theorem dX1_keyBit_8 : decode cX1_keyBit 8 = .ok (.if_icmp .ge 23, 3) := by decide +kernel
theorem dX1_keyBit_11 : decode cX1_keyBit 11 = .ok (.aload_n 0, 1) := by decide +kernel
theorem dX1_keyBit_12 : decode cX1_keyBit 12 = .ok (.getfield 15, 3) := by decide +kernel
theorem dX1_keyBit_15 : decode cX1_keyBit 15 = .ok (.iload_n 2, 1) := by decide +kernel
theorem dX1_keyBit_16 : decode cX1_keyBit 16 = .ok (.iaload, 1) := by decide +kernel
theorem dX1_keyBit_17 : decode cX1_keyBit 17 = .ok (.iload_n 1, 1) := by decide +kernel
theorem dX1_keyBit_18 : decode cX1_keyBit 18 = .ok (.if_icmp .ne 7, 3) := by decide +kernel
theorem dX1_keyBit_21 : decode cX1_keyBit 21 = .ok (.iconst 1, 1) := by decide +kernel
theorem dX1_keyBit_22 : decode cX1_keyBit 22 = .ok (.iload_n 2, 1) := by decide +kernel
theorem dX1_keyBit_23 : decode cX1_keyBit 23 = .ok (.ishl, 1) := by decide +kernel
theorem dX1_keyBit_24 : decode cX1_keyBit 24 = .ok (.ireturn, 1) := by decide +kernel
theorem dX1_keyBit_25 : decode cX1_keyBit 25 = .ok (.iinc 2 1, 3) := by decide +kernel
theorem dX1_keyBit_28 : decode cX1_keyBit 28 = .ok (.goto (-26), 3) := by decide +kernel
theorem dX1_keyBit_31 : decode cX1_keyBit 31 = .ok (.iconst 0, 1) := by decide +kernel
theorem dX1_keyBit_32 : decode cX1_keyBit 32 = .ok (.ireturn, 1) := by decide +kernel
theorem dX2_init_0 : decode cX2_init 0 = .ok (.aload_n 0, 1) := by decide +kernel
theorem dX2_init_1 : decode cX2_init 1 = .ok (.invokespecial 3, 3) := by decide +kernel
theorem dX2_init_4 : decode cX2_init 4 = .ok (.aload_n 0, 1) := by decide +kernel
theorem dX2_init_5 : decode cX2_init 5 = .ok (.bipush 40, 2) := by decide +kernel
theorem dX2_init_7 : decode cX2_init 7 = .ok (.newarray .int, 2) := by decide +kernel
theorem dX2_init_9 : decode cX2_init 9 = .ok (.putfield 9, 3) := by decide +kernel
theorem dX2_init_12 : decode cX2_init 12 = .ok (.aload_n 0, 1) := by decide +kernel
theorem dX2_init_13 : decode cX2_init 13 = .ok (.bipush 40, 2) := by decide +kernel
theorem dX2_init_15 : decode cX2_init 15 = .ok (.newarray .int, 2) := by decide +kernel
theorem dX2_init_17 : decode cX2_init 17 = .ok (.putfield 15, 3) := by decide +kernel
theorem dX2_init_20 : decode cX2_init 20 = .ok (.aload_n 0, 1) := by decide +kernel
theorem dX2_init_21 : decode cX2_init 21 = .ok (.bipush 40, 2) := by decide +kernel
theorem dX2_init_23 : decode cX2_init 23 = .ok (.newarray .int, 2) := by decide +kernel
theorem dX2_init_25 : decode cX2_init 25 = .ok (.putfield 18, 3) := by decide +kernel
theorem dX2_init_28 : decode cX2_init 28 = .ok (.aload_n 0, 1) := by decide +kernel
theorem dX2_init_29 : decode cX2_init 29 = .ok (.iconst 0, 1) := by decide +kernel
theorem dX2_init_30 : decode cX2_init 30 = .ok (.putfield 21, 3) := by decide +kernel
theorem dX2_init_33 : decode cX2_init 33 = .ok (.aload_n 0, 1) := by decide +kernel
theorem dX2_init_34 : decode cX2_init 34 = .ok (.iconst 0, 1) := by decide +kernel
theorem dX2_init_35 : decode cX2_init 35 = .ok (.putfield 25, 3) := by decide +kernel
theorem dX2_init_38 : decode cX2_init 38 = .ok (.return_, 1) := by decide +kernel
set_option maxRecDepth 20000 in
theorem ggX2_remember_X2_forgetEarliest : GoodIn wsX2_remember wsX2_forgetEarliest := goodIn_r _ [10, 2, 3, 4, 1, 11, 12, 13, 14, 15] (by decide +kernel) (by decide +kernel)
set_option maxRecDepth 20000 in
theorem gX2_remember_X2_forgetEarliest : GoodIn wsX2_remember (wsV RX2 28 RX2 yX2_forgetEarliest wsX2_forgetEarliest) := goodIn_app (goodIn_of _ (by decide +kernel)) ggX2_remember_X2_forgetEarliest
theorem dX2_remember_0 : decode cX2_remember 0 = .ok (.aload_n 0, 1) := by decide +kernel
theorem dX2_remember_1 : decode cX2_remember 1 = .ok (.getfield 21, 3) := by decide +kernel
theorem dX2_remember_4 : decode cX2_remember 4 = .ok (.bipush 40, 2) := by decide +kernel
theorem dX2_remember_6 : decode cX2_remember 6 = .ok (.if_icmp .lt 7, 3) := by decide +kernel
theorem dX2_remember_9 : decode cX2_remember 9 = .ok (.aload_n 0, 1) := by decide +kernel
theorem dX2_remember_10 : decode cX2_remember 10 = .ok (.invokevirtual 28, 3) := by decide +kernel
theorem dX2_remember_13 : decode cX2_remember 13 = .ok (.aload_n 0, 1) := by decide +kernel
theorem dX2_remember_14 : decode cX2_remember 14 = .ok (.getfield 21, 3) := by decide +kernel
theorem dX2_remember_17 : decode cX2_remember 17 = .ok (.ifCond .lt 57, 3) := by decide +kernel
theorem dX2_remember_20 : decode cX2_remember 20 = .ok (.aload_n 0, 1) := by decide +kernel
theorem dX2_remember_21 : decode cX2_remember 21 = .ok (.getfield 21, 3) := by decide +kernel
theorem dX2_remember_24 : decode cX2_remember 24 = .ok (.bipush 40, 2) := by decide +kernel
theorem dX2_remember_26 : decode cX2_remember 26 = .ok (.if_icmp .ge 48, 3) := by decide +kernel
theorem dX2_remember_29 : decode cX2_remember 29 = .ok (.aload_n 0, 1) := by decide +kernel
theorem dX2_remember_30 : decode cX2_remember 30 = .ok (.getfield 9, 3) := by decide +kernel
theorem dX2_remember_33 : decode cX2_remember 33 = .ok (.aload_n 0, 1) := by decide +kernel
theorem dX2_remember_34 : decode cX2_remember 34 = .ok (.getfield 21, 3) := by decide +kernel
theorem dX2_remember_37 : decode cX2_remember 37 = .ok (.iload_n 1, 1) := by decide +kernel
theorem dX2_remember_38 : decode cX2_remember 38 = .ok (.iastore, 1) := by decide +kernel
theorem dX2_remember_39 : decode cX2_remember 39 = .ok (.aload_n 0, 1) := by decide +kernel
theorem dX2_remember_40 : decode cX2_remember 40 = .ok (.getfield 15, 3) := by decide +kernel
theorem dX2_remember_43 : decode cX2_remember 43 = .ok (.aload_n 0, 1) := by decide +kernel
theorem dX2_remember_44 : decode cX2_remember 44 = .ok (.getfield 21, 3) := by decide +kernel
theorem dX2_remember_47 : decode cX2_remember 47 = .ok (.iload_n 2, 1) := by decide +kernel
theorem dX2_remember_48 : decode cX2_remember 48 = .ok (.iastore, 1) := by decide +kernel
theorem dX2_remember_49 : decode cX2_remember 49 = .ok (.aload_n 0, 1) := by decide +kernel
theorem dX2_remember_50 : decode cX2_remember 50 = .ok (.getfield 18, 3) := by decide +kernel
theorem dX2_remember_53 : decode cX2_remember 53 = .ok (.aload_n 0, 1) := by decide +kernel
theorem dX2_remember_54 : decode cX2_remember 54 = .ok (.getfield 21, 3) := by decide +kernel
theorem dX2_remember_57 : decode cX2_remember 57 = .ok (.iload_n 3, 1) := by decide +kernel
theorem dX2_remember_58 : decode cX2_remember 58 = .ok (.iastore, 1) := by decide +kernel
theorem dX2_remember_59 : decode cX2_remember 59 = .ok (.aload_n 0, 1) := by decide +kernel
theorem dX2_remember_60 : decode cX2_remember 60 = .ok (.dup, 1) := by decide +kernel
theorem dX2_remember_61 : decode cX2_remember 61 = .ok (.getfield 21, 3) := by decide +kernel
theorem dX2_remember_64 : decode cX2_remember 64 = .ok (.iconst 1, 1) := by decide +kernel
theorem dX2_remember_65 : decode cX2_remember 65 = .ok (.iadd, 1) := by decide +kernel
theorem dX2_remember_66 : decode cX2_remember 66 = .ok (.putfield 21, 3) := by decide +kernel
theorem dX2_remember_69 : decode cX2_remember 69 = .ok (.aload_n 0, 1) := by decide +kernel
theorem dX2_remember_70 : decode cX2_remember 70 = .ok (.iconst 0, 1) := by decide +kernel
theorem dX2_remember_71 : decode cX2_remember 71 = .ok (.putfield 25, 3) := by decide +kernel
theorem dX2_remember_74 : decode cX2_remember 74 = .ok (.return_, 1) := by decide +kernel
theorem dX2_forgetEarliest_0 : decode cX2_forgetEarliest 0 = .ok (.iconst 1, 1) := by decide +kernel
theorem dX2_forgetEarliest_1 : decode cX2_forgetEarliest 1 = .ok (.istore_n 1, 1) := by decide +kernel
theorem dX2_forgetEarliest_2 : decode cX2_forgetEarliest 2 = .ok (.iload_n 1, 1) := by decide +kernel
theorem dX2_forgetEarliest_3 : decode cX2_forgetEarliest 3 = .ok (.bipush 40, 2) := by decide +kernel
theorem dX2_forgetEarliest_5 : decode cX2_forgetEarliest 5 = .ok (.if_icmp .ge 51, 3) := by decide +kernel
theorem dX2_forgetEarliest_8 : decode cX2_forgetEarliest 8 = .ok (.aload_n 0, 1) := by decide +kernel
theorem dX2_forgetEarliest_9 : decode cX2_forgetEarliest 9 = .ok (.getfield 9, 3) := by decide +kernel
theorem dX2_forgetEarliest_12 : decode cX2_forgetEarliest 12 = .ok (.iload_n 1, 1) := by decide +kernel
theorem dX2_forgetEarliest_13 : decode cX2_forgetEarliest 13 = .ok (.iconst 1, 1) := by decide +kernel
theorem dX2_forgetEarliest_14 : decode cX2_forgetEarliest 14 = .ok (.isub, 1) := by decide +kernel
theorem dX2_forgetEarliest_15 : decode cX2_forgetEarliest 15 = .ok (.aload_n 0, 1) := by decide +kernel
theorem dX2_forgetEarliest_16 : decode cX2_forgetEarliest 16 = .ok (.getfield 9, 3) := by decide +kernel
theorem dX2_forgetEarliest_19 : decode cX2_forgetEarliest 19 = .ok (.iload_n 1, 1) := by decide +kernel
theorem dX2_forgetEarliest_20 : decode cX2_forgetEarliest 20 = .ok (.iaload, 1) := by decide +kernel
theorem dX2_forgetEarliest_21 : decode cX2_forgetEarliest 21 = .ok (.iastore, 1) := by decide +kernel
theorem dX2_forgetEarliest_22 : decode cX2_forgetEarliest 22 = .ok (.aload_n 0, 1) := by decide +kernel
theorem dX2_forgetEarliest_23 : decode cX2_forgetEarliest 23 = .ok (.getfield 15, 3) := by decide +kernel
theorem dX2_forgetEarliest_26 : decode cX2_forgetEarliest 26 = .ok (.iload_n 1, 1) := by decide +kernel
theorem dX2_forgetEarliest_27 : decode cX2_forgetEarliest 27 = .ok (.iconst 1, 1) := by decide +kernel
theorem dX2_forgetEarliest_28 : decode cX2_forgetEarliest 28 = .ok (.isub, 1) := by decide +kernel
theorem dX2_forgetEarliest_29 : decode cX2_forgetEarliest 29 = .ok (.aload_n 0, 1) := by decide +kernel
theorem dX2_forgetEarliest_30 : decode cX2_forgetEarliest 30 = .ok (.getfield 15, 3) := by decide +kernel
theorem dX2_forgetEarliest_33 : decode cX2_forgetEarliest 33 = .ok (.iload_n 1, 1) := by decide +kernel
theorem dX2_forgetEarliest_34 : decode cX2_forgetEarliest 34 = .ok (.iaload, 1) := by decide +kernel
theorem dX2_forgetEarliest_35 : decode cX2_forgetEarliest 35 = .ok (.iastore, 1) := by decide +kernel
theorem dX2_forgetEarliest_36 : decode cX2_forgetEarliest 36 = .ok (.aload_n 0, 1) := by decide +kernel
theorem dX2_forgetEarliest_37 : decode cX2_forgetEarliest 37 = .ok (.getfield 18, 3) := by decide +kernel
theorem dX2_forgetEarliest_40 : decode cX2_forgetEarliest 40 = .ok (.iload_n 1, 1) := by decide +kernel
theorem dX2_forgetEarliest_41 : decode cX2_forgetEarliest 41 = .ok (.iconst 1, 1) := by decide +kernel
theorem dX2_forgetEarliest_42 : decode cX2_forgetEarliest 42 = .ok (.isub, 1) := by decide +kernel
theorem dX2_forgetEarliest_43 : decode cX2_forgetEarliest 43 = .ok (.aload_n 0, 1) := by decide +kernel
theorem dX2_forgetEarliest_44 : decode cX2_forgetEarliest 44 = .ok (.getfield 18, 3) := by decide +kernel
theorem dX2_forgetEarliest_47 : decode cX2_forgetEarliest 47 = .ok (.iload_n 1, 1) := by decide +kernel
theorem dX2_forgetEarliest_48 : decode cX2_forgetEarliest 48 = .ok (.iaload, 1) := by decide +kernel
theorem dX2_forgetEarliest_49 : decode cX2_forgetEarliest 49 = .ok (.iastore, 1) := by decide +kernel
theorem dX2_forgetEarliest_50 : decode cX2_forgetEarliest 50 = .ok (.iinc 1 1, 3) := by decide +kernel
theorem dX2_forgetEarliest_53 : decode cX2_forgetEarliest 53 = .ok (.goto (-51), 3) := by decide +kernel
theorem dX2_forgetEarliest_56 : decode cX2_forgetEarliest 56 = .ok (.aload_n 0, 1) := by decide +kernel
theorem dX2_forgetEarliest_57 : decode cX2_forgetEarliest 57 = .ok (.bipush 39, 2) := by decide +kernel
theorem dX2_forgetEarliest_59 : decode cX2_forgetEarliest 59 = .ok (.putfield 21, 3) := by decide +kernel
theorem dX2_forgetEarliest_62 : decode cX2_forgetEarliest 62 = .ok (.return_, 1) := by decide +kernel
theorem dX2_stepBack_0 : decode cX2_stepBack 0 = .ok (.aload_n 0, 1) := by decide +kernel
theorem dX2_stepBack_1 : decode cX2_stepBack 1 = .ok (.dup, 1) := by decide +kernel
theorem dX2_stepBack_2 : decode cX2_stepBack 2 = .ok (.getfield 21, 3) := by decide +kernel
theorem dX2_stepBack_5 : decode cX2_stepBack 5 = .ok (.iconst 1, 1) := by decide +kernel
theorem dX2_stepBack_6 : decode cX2_stepBack 6 = .ok (.isub, 1) := by decide +kernel
theorem dX2_stepBack_7 : decode cX2_stepBack 7 = .ok (.putfield 21, 3) := by decide +kernel
theorem dX2_stepBack_10 : decode cX2_stepBack 10 = .ok (.aload_n 0, 1) := by decide +kernel
theorem dX2_stepBack_11 : decode cX2_stepBack 11 = .ok (.dup, 1) := by decide +kernel
theorem dX2_stepBack_12 : decode cX2_stepBack 12 = .ok (.getfield 25, 3) := by decide +kernel
theorem dX2_stepBack_15 : decode cX2_stepBack 15 = .ok (.iconst 1, 1) := by decide +kernel
theorem dX2_stepBack_16 : decode cX2_stepBack 16 = .ok (.iadd, 1) := by decide +kernel
theorem dX2_stepBack_17 : decode cX2_stepBack 17 = .ok (.putfield 25, 3) := by decide +kernel
theorem dX2_stepBack_20 : decode cX2_stepBack 20 = .ok (.return_, 1) := by decide +kernel
theorem dX2_stepOn_0 : decode cX2_stepOn 0 = .ok (.aload_n 0, 1) := by decide +kernel
theorem dX2_stepOn_1 : decode cX2_stepOn 1 = .ok (.dup, 1) := by decide +kernel
theorem dX2_stepOn_2 : decode cX2_stepOn 2 = .ok (.getfield 21, 3) := by decide +kernel
theorem dX2_stepOn_5 : decode cX2_stepOn 5 = .ok (.iconst 1, 1) := by decide +kernel
theorem dX2_stepOn_6 : decode cX2_stepOn 6 = .ok (.iadd, 1) := by decide +kernel
theorem dX2_stepOn_7 : decode cX2_stepOn 7 = .ok (.putfield 21, 3) := by decide +kernel
theorem dX2_stepOn_10 : decode cX2_stepOn 10 = .ok (.aload_n 0, 1) := by decide +kernel
theorem dX2_stepOn_11 : decode cX2_stepOn 11 = .ok (.dup, 1) := by decide +kernel
theorem dX2_stepOn_12 : decode cX2_stepOn 12 = .ok (.getfield 25, 3) := by decide +kernel
theorem dX2_stepOn_15 : decode cX2_stepOn 15 = .ok (.iconst 1, 1) := by decide +kernel
theorem dX2_stepOn_16 : decode cX2_stepOn 16 = .ok (.isub, 1) := by decide +kernel
theorem dX2_stepOn_17 : decode cX2_stepOn 17 = .ok (.putfield 25, 3) := by decide +kernel
theorem dX2_stepOn_20 : decode cX2_stepOn 20 = .ok (.return_, 1) := by decide +kernel
theorem dX2_hasNext_0 : decode cX2_hasNext 0 = .ok (.aload_n 0, 1) := by decide +kernel
theorem dX2_hasNext_1 : decode cX2_hasNext 1 = .ok (.getfield 21, 3) := by decide +kernel
theorem dX2_hasNext_4 : decode cX2_hasNext 4 = .ok (.ifCond .lt 16, 3) := by decide +kernel
theorem dX2_hasNext_7 : decode cX2_hasNext 7 = .ok (.aload_n 0, 1) := by decide +kernel
theorem dX2_hasNext_8 : decode cX2_hasNext 8 = .ok (.getfield 21, 3) := by decide +kernel
theorem dX2_hasNext_11 : decode cX2_hasNext 11 = .ok (.bipush 40, 2) := by decide +kernel
theorem dX2_hasNext_13 : decode cX2_hasNext 13 = .ok (.if_icmp .ge 7, 3) := by decide +kernel
theorem dX2_hasNext_16 : decode cX2_hasNext 16 = .ok (.iconst 1, 1) := by decide +kernel
theorem dX2_hasNext_17 : decode cX2_hasNext 17 = .ok (.goto 4, 3) := by decide +kernel
theorem dX2_hasNext_20 : decode cX2_hasNext 20 = .ok (.iconst 0, 1) := by decide +kernel
theorem dX2_hasNext_21 : decode cX2_hasNext 21 = .ok (.ireturn, 1) := by decide +kernel
set_option maxRecDepth 20000 in
theorem ggX2_cellOfNext_X2_hasNext : GoodIn wsX2_cellOfNext wsX2_hasNext := goodIn_r _ [7, 2, 8, 9, 10, 11, 12] (by decide +kernel) (by decide +kernel)
set_option maxRecDepth 20000 in
theorem gX2_cellOfNext_X2_hasNext : GoodIn wsX2_cellOfNext (wsV RX2 31 RX2 yX2_hasNext wsX2_hasNext) := goodIn_app (goodIn_of _ (by decide +kernel)) ggX2_cellOfNext_X2_hasNext
theorem dX2_cellOfNext_0 : decode cX2_cellOfNext 0 = .ok (.aload_n 0, 1) := by decide +kernel
theorem dX2_cellOfNext_1 : decode cX2_cellOfNext 1 = .ok (.invokevirtual 31, 3) := by decide +kernel
theorem dX2_cellOfNext_4 : decode cX2_cellOfNext 4 = .ok (.ifCond .eq 15, 3) := by decide +kernel
theorem dX2_cellOfNext_7 : decode cX2_cellOfNext 7 = .ok (.aload_n 0, 1) := by decide +kernel
theorem dX2_cellOfNext_8 : decode cX2_cellOfNext 8 = .ok (.getfield 9, 3) := by decide +kernel
theorem dX2_cellOfNext_11 : decode cX2_cellOfNext 11 = .ok (.aload_n 0, 1) := by decide +kernel
theorem dX2_cellOfNext_12 : decode cX2_cellOfNext 12 = .ok (.getfield 21, 3) := by decide +kernel
theorem dX2_cellOfNext_15 : decode cX2_cellOfNext 15 = .ok (.iaload, 1) := by decide +kernel
theorem dX2_cellOfNext_16 : decode cX2_cellOfNext 16 = .ok (.goto 4, 3) := by decide +kernel
theorem dX2_cellOfNext_19 : decode cX2_cellOfNext 19 = .ok (.iconst (-1), 1) := by decide +kernel
theorem dX2_cellOfNext_20 : decode cX2_cellOfNext 20 = .ok (.ireturn, 1) := by decide +kernel
set_option maxRecDepth 20000 in
theorem ggX2_kindBeforeNext_X2_hasNext : GoodIn wsX2_kindBeforeNext wsX2_hasNext := goodIn_r _ [7, 2, 8, 9, 10, 11, 12] (by decide +kernel) (by decide +kernel)
set_option maxRecDepth 20000 in
theorem gX2_kindBeforeNext_X2_hasNext : GoodIn wsX2_kindBeforeNext (wsV RX2 31 RX2 yX2_hasNext wsX2_hasNext) := goodIn_app (goodIn_of _ (by decide +kernel)) ggX2_kindBeforeNext_X2_hasNext
theorem dX2_kindBeforeNext_0 : decode cX2_kindBeforeNext 0 = .ok (.aload_n 0, 1) := by decide +kernel
theorem dX2_kindBeforeNext_1 : decode cX2_kindBeforeNext 1 = .ok (.invokevirtual 31, 3) := by decide +kernel
theorem dX2_kindBeforeNext_4 : decode cX2_kindBeforeNext 4 = .ok (.ifCond .eq 15, 3) := by decide +kernel
theorem dX2_kindBeforeNext_7 : decode cX2_kindBeforeNext 7 = .ok (.aload_n 0, 1) := by decide +kernel
theorem dX2_kindBeforeNext_8 : decode cX2_kindBeforeNext 8 = .ok (.getfield 15, 3) := by decide +kernel
theorem dX2_kindBeforeNext_11 : decode cX2_kindBeforeNext 11 = .ok (.aload_n 0, 1) := by decide +kernel
theorem dX2_kindBeforeNext_12 : decode cX2_kindBeforeNext 12 = .ok (.getfield 21, 3) := by decide +kernel
theorem dX2_kindBeforeNext_15 : decode cX2_kindBeforeNext 15 = .ok (.iaload, 1) := by decide +kernel
theorem dX2_kindBeforeNext_16 : decode cX2_kindBeforeNext 16 = .ok (.goto 4, 3) := by decide +kernel
theorem dX2_kindBeforeNext_19 : decode cX2_kindBeforeNext 19 = .ok (.iconst 0, 1) := by decide +kernel
theorem dX2_kindBeforeNext_20 : decode cX2_kindBeforeNext 20 = .ok (.ireturn, 1) := by decide +kernel
set_option maxRecDepth 20000 in
theorem ggX2_kindAfterNext_X2_hasNext : GoodIn wsX2_kindAfterNext wsX2_hasNext := goodIn_r _ [7, 2, 8, 9, 10, 11, 12] (by decide +kernel) (by decide +kernel)
set_option maxRecDepth 20000 in
theorem gX2_kindAfterNext_X2_hasNext : GoodIn wsX2_kindAfterNext (wsV RX2 31 RX2 yX2_hasNext wsX2_hasNext) := goodIn_app (goodIn_of _ (by decide +kernel)) ggX2_kindAfterNext_X2_hasNext
theorem dX2_kindAfterNext_0 : decode cX2_kindAfterNext 0 = .ok (.aload_n 0, 1) := by decide +kernel
theorem dX2_kindAfterNext_1 : decode cX2_kindAfterNext 1 = .ok (.invokevirtual 31, 3) := by decide +kernel
theorem dX2_kindAfterNext_4 : decode cX2_kindAfterNext 4 = .ok (.ifCond .eq 15, 3) := by decide +kernel
theorem dX2_kindAfterNext_7 : decode cX2_kindAfterNext 7 = .ok (.aload_n 0, 1) := by decide +kernel
theorem dX2_kindAfterNext_8 : decode cX2_kindAfterNext 8 = .ok (.getfield 18, 3) := by decide +kernel
theorem dX2_kindAfterNext_11 : decode cX2_kindAfterNext 11 = .ok (.aload_n 0, 1) := by decide +kernel
theorem dX2_kindAfterNext_12 : decode cX2_kindAfterNext 12 = .ok (.getfield 21, 3) := by decide +kernel
theorem dX2_kindAfterNext_15 : decode cX2_kindAfterNext 15 = .ok (.iaload, 1) := by decide +kernel
theorem dX2_kindAfterNext_16 : decode cX2_kindAfterNext 16 = .ok (.goto 4, 3) := by decide +kernel
theorem dX2_kindAfterNext_19 : decode cX2_kindAfterNext 19 = .ok (.iconst 0, 1) := by decide +kernel
theorem dX2_kindAfterNext_20 : decode cX2_kindAfterNext 20 = .ok (.ireturn, 1) := by decide +kernel
set_option maxRecDepth 20000 in
theorem ggX3_init_X1_init : GoodIn wsX3_init wsX1_init := goodIn_r _ [17, 18, 2, 3, 19, 20, 21, 22, 31, 32, 33] (by decide +kernel) (by decide +kernel)
set_option maxRecDepth 20000 in
theorem gX3_init_X1_init_n11 : GoodIn wsX3_init (wsX1_init) := ggX3_init_X1_init
set_option maxRecDepth 20000 in
theorem ggX3_init_X2_init : GoodIn wsX3_init wsX2_init := goodIn_r _ [24, 25, 2, 3, 19, 26, 27, 28, 29, 30, 40, 41, 42, 43, 44] (by decide +kernel) (by decide +kernel)
set_option maxRecDepth 20000 in
theorem gX3_init_X2_init_n20 : GoodIn wsX3_init (wsX2_init) := ggX3_init_X2_init
theorem dX3_init_0 : decode cX3_init 0 = .ok (.aload_n 0, 1) := by decide +kernel
theorem dX3_init_1 : decode cX3_init 1 = .ok (.invokespecial 3, 3) := by decide +kernel
theorem dX3_init_4 : decode cX3_init 4 = .ok (.aload_n 0, 1) := by decide +kernel
theorem dX3_init_5 : decode cX3_init 5 = .ok (.new 9, 3) := by decide +kernel
theorem dX3_init_8 : decode cX3_init 8 = .ok (.dup, 1) := by decide +kernel
theorem dX3_init_9 : decode cX3_init 9 = .ok (.invokespecial 11, 3) := by decide +kernel
theorem dX3_init_12 : decode cX3_init 12 = .ok (.putfield 12, 3) := by decide +kernel
theorem dX3_init_15 : decode cX3_init 15 = .ok (.aload_n 0, 1) := by decide +kernel
theorem dX3_init_16 : decode cX3_init 16 = .ok (.new 18, 3) := by decide +kernel
theorem dX3_init_19 : decode cX3_init 19 = .ok (.dup, 1) := by decide +kernel
theorem dX3_init_20 : decode cX3_init 20 = .ok (.invokespecial 20, 3) := by decide +kernel
theorem dX3_init_23 : decode cX3_init 23 = .ok (.putfield 21, 3) := by decide +kernel
theorem dX3_init_26 : decode cX3_init 26 = .ok (.aload_n 0, 1) := by decide +kernel
theorem dX3_init_27 : decode cX3_init 27 = .ok (.bipush 72, 2) := by decide +kernel
theorem dX3_init_29 : decode cX3_init 29 = .ok (.putfield 25, 3) := by decide +kernel
theorem dX3_init_32 : decode cX3_init 32 = .ok (.aload_n 0, 1) := by decide +kernel
theorem dX3_init_33 : decode cX3_init 33 = .ok (.bipush (-2), 2) := by decide +kernel
theorem dX3_init_35 : decode cX3_init 35 = .ok (.putfield 29, 3) := by decide +kernel
theorem dX3_init_38 : decode cX3_init 38 = .ok (.aload_n 0, 1) := by decide +kernel
theorem dX3_init_39 : decode cX3_init 39 = .ok (.iload_n 1, 1) := by decide +kernel
theorem dX3_init_40 : decode cX3_init 40 = .ok (.putfield 32, 3) := by decide +kernel
theorem dX3_init_43 : decode cX3_init 43 = .ok (.aload_n 0, 1) := by decide +kernel
theorem dX3_init_44 : decode cX3_init 44 = .ok (.aload_n 2, 1) := by decide +kernel
theorem dX3_init_45 : decode cX3_init 45 = .ok (.putfield 35, 3) := by decide +kernel
theorem dX3_init_48 : decode cX3_init 48 = .ok (.return_, 1) := by decide +kernel
set_option maxRecDepth 20000 in
theorem ggX3_putAnew_X1_put : GoodIn wsX3_putAnew wsX1_put := goodIn_r _ [7, 8, 9, 10, 11, 12, 13, 14, 6, 15, 16, 17, 24, 25, 26] (by decide +kernel) (by decide +kernel)
set_option maxRecDepth 20000 in
theorem gX3_putAnew_X1_put : GoodIn wsX3_putAnew (wsV RX3 39 RX1 yX1_put wsX1_put) := goodIn_app (goodIn_of _ (by decide +kernel)) ggX3_putAnew_X1_put
theorem dX3_putAnew_0 : decode cX3_putAnew 0 = .ok (.aload_n 0, 1) := by decide +kernel
theorem dX3_putAnew_1 : decode cX3_putAnew 1 = .ok (.getfield 12, 3) := by decide +kernel
theorem dX3_putAnew_4 : decode cX3_putAnew 4 = .ok (.iload_n 1, 1) := by decide +kernel
theorem dX3_putAnew_5 : decode cX3_putAnew 5 = .ok (.iload_n 2, 1) := by decide +kernel
theorem dX3_putAnew_6 : decode cX3_putAnew 6 = .ok (.invokevirtual 39, 3) := by decide +kernel
theorem dX3_putAnew_9 : decode cX3_putAnew 9 = .ok (.aload_n 0, 1) := by decide +kernel
theorem dX3_putAnew_10 : decode cX3_putAnew 10 = .ok (.bipush (-2), 2) := by decide +kernel
theorem dX3_putAnew_12 : decode cX3_putAnew 12 = .ok (.putfield 29, 3) := by decide +kernel
theorem dX3_putAnew_15 : decode cX3_putAnew 15 = .ok (.return_, 1) := by decide +kernel
set_option maxRecDepth 20000 in
theorem ggX4_init_X0_init : GoodIn wsX4_init wsX0_init := goodIn_r _ [13, 14, 2, 3, 15, 16, 17, 18, 19, 24, 25, 26, 27, 28] (by decide +kernel) (by decide +kernel)
set_option maxRecDepth 20000 in
theorem gX4_init_X0_init : GoodIn wsX4_init (wsX0_init) := ggX4_init_X0_init
theorem dX4_init_0 : decode cX4_init 0 = .ok (.aload_n 0, 1) := by decide +kernel
theorem dX4_init_1 : decode cX4_init 1 = .ok (.invokespecial 3, 3) := by decide +kernel
theorem dX4_init_4 : decode cX4_init 4 = .ok (.aload_n 0, 1) := by decide +kernel
theorem dX4_init_5 : decode cX4_init 5 = .ok (.aconst_null, 1) := by decide +kernel
theorem dX4_init_6 : decode cX4_init 6 = .ok (.putfield 9, 3) := by decide +kernel
theorem dX4_init_9 : decode cX4_init 9 = .ok (.aload_n 0, 1) := by decide +kernel
theorem dX4_init_10 : decode cX4_init 10 = .ok (.iconst 0, 1) := by decide +kernel
theorem dX4_init_11 : decode cX4_init 11 = .ok (.putfield 15, 3) := by decide +kernel
theorem dX4_init_14 : decode cX4_init 14 = .ok (.aload_n 0, 1) := by decide +kernel
theorem dX4_init_15 : decode cX4_init 15 = .ok (.iconst 0, 1) := by decide +kernel
theorem dX4_init_16 : decode cX4_init 16 = .ok (.putfield 19, 3) := by decide +kernel
theorem dX4_init_19 : decode cX4_init 19 = .ok (.aload_n 0, 1) := by decide +kernel
theorem dX4_init_20 : decode cX4_init 20 = .ok (.new 22, 3) := by decide +kernel
theorem dX4_init_23 : decode cX4_init 23 = .ok (.dup, 1) := by decide +kernel
theorem dX4_init_24 : decode cX4_init 24 = .ok (.aload_n 1, 1) := by decide +kernel
theorem dX4_init_25 : decode cX4_init 25 = .ok (.invokespecial 24, 3) := by decide +kernel
theorem dX4_init_28 : decode cX4_init 28 = .ok (.putfield 27, 3) := by decide +kernel
theorem dX4_init_31 : decode cX4_init 31 = .ok (.return_, 1) := by decide +kernel
set_option maxRecDepth 20000 in
theorem ggX4_beginOn_X0_placeAtStart : GoodIn wsX4_beginOn wsX0_placeAtStart := goodIn_r _ [8, 9, 10, 11, 12, 13, 14, 7, 15, 16, 17, 18, 19, 20, 21, 22, 23, 24, 25, 26, 27, 28, 29, 30, 55, 56, 57, 58, 59, 60, 61, 62] (by decide +kernel) (by decide +kernel)
set_option maxRecDepth 20000 in
theorem gX4_beginOn_X0_placeAtStart : GoodIn wsX4_beginOn (wsV RX4 40 RX0 yX0_placeAtStart wsX0_placeAtStart) := goodIn_app (goodIn_of _ (by decide +kernel)) ggX4_beginOn_X0_placeAtStart
set_option maxRecDepth 20000 in
theorem ggX4_beginOn_X4_takeStateOfBody : GoodIn wsX4_beginOn wsX4_takeStateOfBody := goodIn_r _ [35, 3, 36, 1, 2, 37, 38, 39, 40, 41, 42, 43, 44, 45, 46, 55, 56, 57, 58, 59, 47, 48, 49, 50, 51, 52, 53, 54] (by decide +kernel) (by decide +kernel)
set_option maxRecDepth 20000 in
theorem gX4_beginOn_X4_takeStateOfBody : GoodIn wsX4_beginOn (wsV RX4 44 RX4 yX4_takeStateOfBody wsX4_takeStateOfBody) := goodIn_app (goodIn_of _ (by decide +kernel)) ggX4_beginOn_X4_takeStateOfBody
theorem dX4_beginOn_0 : decode cX4_beginOn 0 = .ok (.aload_n 0, 1) := by decide +kernel
theorem dX4_beginOn_1 : decode cX4_beginOn 1 = .ok (.aload_n 1, 1) := by decide +kernel
theorem dX4_beginOn_2 : decode cX4_beginOn 2 = .ok (.putfield 9, 3) := by decide +kernel
theorem dX4_beginOn_5 : decode cX4_beginOn 5 = .ok (.aload_n 0, 1) := by decide +kernel
theorem dX4_beginOn_6 : decode cX4_beginOn 6 = .ok (.iconst 0, 1) := by decide +kernel
theorem dX4_beginOn_7 : decode cX4_beginOn 7 = .ok (.putfield 19, 3) := by decide +kernel
theorem dX4_beginOn_10 : decode cX4_beginOn 10 = .ok (.aload_n 0, 1) := by decide +kernel
theorem dX4_beginOn_11 : decode cX4_beginOn 11 = .ok (.getfield 27, 3) := by decide +kernel
theorem dX4_beginOn_14 : decode cX4_beginOn 14 = .ok (.aload_n 1, 1) := by decide +kernel
theorem dX4_beginOn_15 : decode cX4_beginOn 15 = .ok (.getfield 31, 3) := by decide +kernel
theorem dX4_beginOn_18 : decode cX4_beginOn 18 = .ok (.aload_n 1, 1) := by decide +kernel
theorem dX4_beginOn_19 : decode cX4_beginOn 19 = .ok (.getfield 37, 3) := by decide +kernel
theorem dX4_beginOn_22 : decode cX4_beginOn 22 = .ok (.invokevirtual 40, 3) := by decide +kernel
theorem dX4_beginOn_25 : decode cX4_beginOn 25 = .ok (.aload_n 0, 1) := by decide +kernel
theorem dX4_beginOn_26 : decode cX4_beginOn 26 = .ok (.invokevirtual 44, 3) := by decide +kernel
theorem dX4_beginOn_29 : decode cX4_beginOn 29 = .ok (.return_, 1) := by decide +kernel
set_option maxRecDepth 20000 in
theorem ggX4_goOn_X0_move : GoodIn wsX4_goOn wsX0_move := goodIn_r _ [8, 9, 10, 11, 12, 13, 7, 14, 15, 16, 17, 18, 19, 20, 21, 22, 23, 24, 25, 26, 27, 28, 29, 30, 31, 32, 33, 34, 35, 36, 37, 38, 39, 40, 41, 42, 43, 44, 45, 46, 47, 48, 49, 50, 51, 76, 77, 78, 79, 80, 81, 82, 83] (by decide +kernel) (by decide +kernel)
set_option maxRecDepth 20000 in
theorem gX4_goOn_X0_move : GoodIn wsX4_goOn (wsV RX4 47 RX0 yX0_move wsX0_move) := goodIn_app (goodIn_of _ (by decide +kernel)) ggX4_goOn_X0_move
set_option maxRecDepth 20000 in
theorem ggX4_goOn_X4_takeStateOfBody : GoodIn wsX4_goOn wsX4_takeStateOfBody := goodIn_r _ [56, 3, 57, 1, 2, 58, 59, 60, 61, 62, 63, 64, 65, 66, 67, 76, 77, 78, 79, 80, 68, 69, 70, 71, 72, 73, 74, 75] (by decide +kernel) (by decide +kernel)
set_option maxRecDepth 20000 in
theorem gX4_goOn_X4_takeStateOfBody : GoodIn wsX4_goOn (wsV RX4 44 RX4 yX4_takeStateOfBody wsX4_takeStateOfBody) := goodIn_app (goodIn_of _ (by decide +kernel)) ggX4_goOn_X4_takeStateOfBody
theorem dX4_goOn_0 : decode cX4_goOn 0 = .ok (.aload_n 0, 1) := by decide +kernel
theorem dX4_goOn_1 : decode cX4_goOn 1 = .ok (.getfield 9, 3) := by decide +kernel
theorem dX4_goOn_4 : decode cX4_goOn 4 = .ok (.ifnonnull 4, 3) := by decide +kernel
theorem dX4_goOn_7 : decode cX4_goOn 7 = .ok (.return_, 1) := by decide +kernel
theorem dX4_goOn_8 : decode cX4_goOn 8 = .ok (.aload_n 0, 1) := by decide +kernel
theorem dX4_goOn_9 : decode cX4_goOn 9 = .ok (.dup, 1) := by decide +kernel
theorem dX4_goOn_10 : decode cX4_goOn 10 = .ok (.getfield 19, 3) := by decide +kernel
theorem dX4_goOn_13 : decode cX4_goOn 13 = .ok (.iconst 1, 1) := by decide +kernel
theorem dX4_goOn_14 : decode cX4_goOn 14 = .ok (.iadd, 1) := by decide +kernel
theorem dX4_goOn_15 : decode cX4_goOn 15 = .ok (.putfield 19, 3) := by decide +kernel
theorem dX4_goOn_18 : decode cX4_goOn 18 = .ok (.aload_n 0, 1) := by decide +kernel
theorem dX4_goOn_19 : decode cX4_goOn 19 = .ok (.getfield 27, 3) := by decide +kernel
theorem dX4_goOn_22 : decode cX4_goOn 22 = .ok (.aload_n 0, 1) := by decide +kernel
theorem dX4_goOn_23 : decode cX4_goOn 23 = .ok (.getfield 9, 3) := by decide +kernel
theorem dX4_goOn_26 : decode cX4_goOn 26 = .ok (.getfield 31, 3) := by decide +kernel
theorem dX4_goOn_29 : decode cX4_goOn 29 = .ok (.iload_n 1, 1) := by decide +kernel
theorem dX4_goOn_30 : decode cX4_goOn 30 = .ok (.invokevirtual 47, 3) := by decide +kernel
theorem dX4_goOn_33 : decode cX4_goOn 33 = .ok (.aload_n 0, 1) := by decide +kernel
theorem dX4_goOn_34 : decode cX4_goOn 34 = .ok (.invokevirtual 44, 3) := by decide +kernel
theorem dX4_goOn_37 : decode cX4_goOn 37 = .ok (.return_, 1) := by decide +kernel
set_option maxRecDepth 20000 in
theorem ggX4_takeStateOfBody_X6_noteWin : GoodIn wsX4_takeStateOfBody wsX6_noteWin := goodIn_r _ [9, 10, 20, 21, 22, 23, 24, 25, 26, 27] (by decide +kernel) (by decide +kernel)
set_option maxRecDepth 20000 in
theorem gX4_takeStateOfBody_X6_noteWin : GoodIn wsX4_takeStateOfBody (wsV RX4 53 RX6 yX6_noteWin wsX6_noteWin) := goodIn_app (goodIn_of _ (by decide +kernel)) ggX4_takeStateOfBody_X6_noteWin
theorem dX4_takeStateOfBody_0 : decode cX4_takeStateOfBody 0 = .ok (.aload_n 0, 1) := by decide +kernel
theorem dX4_takeStateOfBody_1 : decode cX4_takeStateOfBody 1 = .ok (.aload_n 0, 1) := by decide +kernel
theorem dX4_takeStateOfBody_2 : decode cX4_takeStateOfBody 2 = .ok (.getfield 27, 3) := by decide +kernel
theorem dX4_takeStateOfBody_5 : decode cX4_takeStateOfBody 5 = .ok (.getfield 50, 3) := by decide +kernel
theorem dX4_takeStateOfBody_8 : decode cX4_takeStateOfBody 8 = .ok (.putfield 15, 3) := by decide +kernel
theorem dX4_takeStateOfBody_11 : decode cX4_takeStateOfBody 11 = .ok (.aload_n 0, 1) := by decide +kernel
theorem dX4_takeStateOfBody_12 : decode cX4_takeStateOfBody 12 = .ok (.getfield 15, 3) := by decide +kernel
theorem dX4_takeStateOfBody_15 : decode cX4_takeStateOfBody 15 = .ok (.iconst 2, 1) := by decide +kernel
theorem dX4_takeStateOfBody_16 : decode cX4_takeStateOfBody 16 = .ok (.if_icmp .ne 21, 3) := by decide +kernel
theorem dX4_takeStateOfBody_19 : decode cX4_takeStateOfBody 19 = .ok (.aload_n 0, 1) := by decide +kernel
theorem dX4_takeStateOfBody_20 : decode cX4_takeStateOfBody 20 = .ok (.getfield 9, 3) := by decide +kernel
theorem dX4_takeStateOfBody_23 : decode cX4_takeStateOfBody 23 = .ok (.ifnull 14, 3) := by decide +kernel
theorem dX4_takeStateOfBody_26 : decode cX4_takeStateOfBody 26 = .ok (.aload_n 0, 1) := by decide +kernel
theorem dX4_takeStateOfBody_27 : decode cX4_takeStateOfBody 27 = .ok (.getfield 9, 3) := by decide +kernel
theorem dX4_takeStateOfBody_30 : decode cX4_takeStateOfBody 30 = .ok (.aload_n 0, 1) := by decide +kernel
theorem dX4_takeStateOfBody_31 : decode cX4_takeStateOfBody 31 = .ok (.getfield 19, 3) := by decide +kernel
theorem dX4_takeStateOfBody_34 : decode cX4_takeStateOfBody 34 = .ok (.invokevirtual 53, 3) := by decide +kernel
theorem dX4_takeStateOfBody_37 : decode cX4_takeStateOfBody 37 = .ok (.return_, 1) := by decide +kernel
theorem dX4_answer_0 : decode cX4_answer 0 = .ok (.aload_n 0, 1) := by decide +kernel
theorem dX4_answer_1 : decode cX4_answer 1 = .ok (.getfield 15, 3) := by decide +kernel
theorem dX4_answer_4 : decode cX4_answer 4 = .ok (.iconst 3, 1) := by decide +kernel
theorem dX4_answer_5 : decode cX4_answer 5 = .ok (.if_icmp .ne 5, 3) := by decide +kernel
theorem dX4_answer_8 : decode cX4_answer 8 = .ok (.iconst (-1), 1) := by decide +kernel
theorem dX4_answer_9 : decode cX4_answer 9 = .ok (.ireturn, 1) := by decide +kernel
theorem dX4_answer_10 : decode cX4_answer 10 = .ok (.aload_n 0, 1) := by decide +kernel
theorem dX4_answer_11 : decode cX4_answer 11 = .ok (.getfield 15, 3) := by decide +kernel
theorem dX4_answer_14 : decode cX4_answer 14 = .ok (.iconst 2, 1) := by decide +kernel
theorem dX4_answer_15 : decode cX4_answer 15 = .ok (.if_icmp .ne 8, 3) := by decide +kernel
theorem dX4_answer_18 : decode cX4_answer 18 = .ok (.bipush (-2), 2) := by decide +kernel
theorem dX4_answer_20 : decode cX4_answer 20 = .ok (.goto 10, 3) := by decide +kernel
theorem dX4_answer_23 : decode cX4_answer 23 = .ok (.aload_n 0, 1) := by decide +kernel
theorem dX4_answer_24 : decode cX4_answer 24 = .ok (.getfield 27, 3) := by decide +kernel
theorem dX4_answer_27 : decode cX4_answer 27 = .ok (.getfield 57, 3) := by decide +kernel
theorem dX4_answer_30 : decode cX4_answer 30 = .ok (.ireturn, 1) := by decide +kernel
set_option maxRecDepth 20000 in
theorem ggX5_init_X0_init : GoodIn wsX5_init wsX0_init := goodIn_r _ [18, 19, 2, 3, 20, 21, 22, 23, 24, 32, 33, 34, 35, 36] (by decide +kernel) (by decide +kernel)
set_option maxRecDepth 20000 in
theorem gX5_init_X0_init : GoodIn wsX5_init (wsX0_init) := ggX5_init_X0_init
theorem dX5_init_0 : decode cX5_init 0 = .ok (.aload_n 0, 1) := by decide +kernel
theorem dX5_init_1 : decode cX5_init 1 = .ok (.invokespecial 3, 3) := by decide +kernel
theorem dX5_init_4 : decode cX5_init 4 = .ok (.aload_n 0, 1) := by decide +kernel
theorem dX5_init_5 : decode cX5_init 5 = .ok (.sipush 6144, 3) := by decide +kernel
theorem dX5_init_8 : decode cX5_init 8 = .ok (.newarray .int, 2) := by decide +kernel
theorem dX5_init_10 : decode cX5_init 10 = .ok (.putfield 9, 3) := by decide +kernel
theorem dX5_init_13 : decode cX5_init 13 = .ok (.aload_n 0, 1) := by decide +kernel
theorem dX5_init_14 : decode cX5_init 14 = .ok (.sipush 6144, 3) := by decide +kernel
theorem dX5_init_17 : decode cX5_init 17 = .ok (.newarray .int, 2) := by decide +kernel
theorem dX5_init_19 : decode cX5_init 19 = .ok (.putfield 15, 3) := by decide +kernel
theorem dX5_init_22 : decode cX5_init 22 = .ok (.aload_n 0, 1) := by decide +kernel
theorem dX5_init_23 : decode cX5_init 23 = .ok (.bipush 96, 2) := by decide +kernel
theorem dX5_init_25 : decode cX5_init 25 = .ok (.newarray .boolean, 2) := by decide +kernel
theorem dX5_init_27 : decode cX5_init 27 = .ok (.putfield 18, 3) := by decide +kernel
theorem dX5_init_30 : decode cX5_init 30 = .ok (.aload_n 0, 1) := by decide +kernel
theorem dX5_init_31 : decode cX5_init 31 = .ok (.iconst 0, 1) := by decide +kernel
theorem dX5_init_32 : decode cX5_init 32 = .ok (.putfield 22, 3) := by decide +kernel
theorem dX5_init_35 : decode cX5_init 35 = .ok (.aload_n 0, 1) := by decide +kernel
theorem dX5_init_36 : decode cX5_init 36 = .ok (.iconst 0, 1) := by decide +kernel
theorem dX5_init_37 : decode cX5_init 37 = .ok (.putfield 26, 3) := by decide +kernel
theorem dX5_init_40 : decode cX5_init 40 = .ok (.aload_n 0, 1) := by decide +kernel
theorem dX5_init_41 : decode cX5_init 41 = .ok (.iconst (-1), 1) := by decide +kernel
theorem dX5_init_42 : decode cX5_init 42 = .ok (.putfield 29, 3) := by decide +kernel
theorem dX5_init_45 : decode cX5_init 45 = .ok (.aload_n 0, 1) := by decide +kernel
theorem dX5_init_46 : decode cX5_init 46 = .ok (.new 32, 3) := by decide +kernel
theorem dX5_init_49 : decode cX5_init 49 = .ok (.dup, 1) := by decide +kernel
theorem dX5_init_50 : decode cX5_init 50 = .ok (.aload_n 1, 1) := by decide +kernel
theorem dX5_init_51 : decode cX5_init 51 = .ok (.invokespecial 34, 3) := by decide +kernel
theorem dX5_init_54 : decode cX5_init 54 = .ok (.putfield 37, 3) := by decide +kernel
theorem dX5_init_57 : decode cX5_init 57 = .ok (.return_, 1) := by decide +kernel
set_option maxRecDepth 20000 in
theorem ggX5_explore_X5_restart : GoodIn wsX5_explore wsX5_restart := goodIn_r _ [8, 9, 2, 3, 10, 94, 95, 96, 97, 98, 99, 100] (by decide +kernel) (by decide +kernel)
set_option maxRecDepth 20000 in
theorem gX5_explore_X5_restart : GoodIn wsX5_explore (wsV RX5 41 RX5 yX5_restart wsX5_restart) := goodIn_app (goodIn_of _ (by decide +kernel)) ggX5_explore_X5_restart
set_option maxRecDepth 20000 in
theorem ggX5_explore_X0_placeAtStart : GoodIn wsX5_explore wsX0_placeAtStart := goodIn_r _ [15, 16, 17, 18, 19, 20, 21, 14, 22, 23, 24, 25, 26, 27, 28, 29, 30, 31, 32, 33, 34, 35, 36, 37, 101, 102, 103, 104, 105, 106, 107, 108] (by decide +kernel) (by decide +kernel)
set_option maxRecDepth 20000 in
theorem gX5_explore_X0_placeAtStart : GoodIn wsX5_explore (wsV RX5 44 RX0 yX0_placeAtStart wsX0_placeAtStart) := goodIn_app (goodIn_of _ (by decide +kernel)) ggX5_explore_X0_placeAtStart
set_option maxRecDepth 20000 in
theorem ggX5_explore_X5_noteBody : GoodIn wsX5_explore wsX5_noteBody := goodIn_r _ [41, 1, 10, 3, 24, 25, 26, 42, 43, 44, 14, 45, 23, 16, 17, 46, 47, 48, 7, 49, 50, 9, 51, 52, 53, 54, 2, 55, 94, 95, 96, 97, 98, 99, 100, 101, 102, 103, 104, 105] (by decide +kernel) (by decide +kernel)
set_option maxRecDepth 20000 in
theorem gX5_explore_X5_noteBody : GoodIn wsX5_explore (wsV RX5 48 RX5 yX5_noteBody wsX5_noteBody) := goodIn_app (goodIn_of _ (by decide +kernel)) ggX5_explore_X5_noteBody
set_option maxRecDepth 20000 in
theorem ggX5_explore_X5_queuedAt : GoodIn wsX5_explore wsX5_queuedAt := goodIn_r _ [59, 55, 94, 95, 96, 97, 98, 99, 100] (by decide +kernel) (by decide +kernel)
set_option maxRecDepth 20000 in
theorem gX5_explore_X5_queuedAt : GoodIn wsX5_explore (wsV RX5 52 RX5 yX5_queuedAt wsX5_queuedAt) := goodIn_app (goodIn_of _ (by decide +kernel)) ggX5_explore_X5_queuedAt
set_option maxRecDepth 20000 in
theorem ggX5_explore_X5_tryInputsFrom : GoodIn wsX5_explore wsX5_tryInputsFrom := goodIn_r _ [63, 1, 64, 65, 66, 14, 67, 23, 16, 17, 18, 68, 69, 70, 71, 72, 73, 74, 75, 27, 28, 29, 30, 31, 32, 76, 77, 78, 79, 80, 81, 82, 83, 84, 19, 20, 21, 22, 24, 25, 26, 33, 34, 35, 36, 37, 85, 86, 87, 88, 89, 90, 91, 92, 93, 38, 39, 40, 7, 41, 10, 3, 42, 43, 44, 45, 46, 47, 48, 49, 50, 9, 51, 52, 53, 54, 2, 55, 94, 95, 96, 97, 98, 99, 100, 101, 102, 103, 104, 105, 106, 107, 108] (by decide +kernel) (by decide +kernel)
set_option maxRecDepth 20000 in
theorem gX5_explore_X5_tryInputsFrom : GoodIn wsX5_explore (wsV RX5 56 RX5 yX5_tryInputsFrom wsX5_tryInputsFrom) := goodIn_app (goodIn_of _ (by decide +kernel)) ggX5_explore_X5_tryInputsFrom
theorem dX5_explore_0 : decode cX5_explore 0 = .ok (.aload_n 0, 1) := by decide +kernel
theorem dX5_explore_1 : decode cX5_explore 1 = .ok (.invokevirtual 41, 3) := by decide +kernel
theorem dX5_explore_4 : decode cX5_explore 4 = .ok (.aload_n 0, 1) := by decide +kernel
theorem dX5_explore_5 : decode cX5_explore 5 = .ok (.getfield 37, 3) := by decide +kernel
theorem dX5_explore_8 : decode cX5_explore 8 = .ok (.aload_n 1, 1) := by decide +kernel
theorem dX5_explore_9 : decode cX5_explore 9 = .ok (.iload_n 2, 1) := by decide +kernel
theorem dX5_explore_10 : decode cX5_explore 10 = .ok (.invokevirtual 44, 3) := by decide +kernel
theorem dX5_explore_13 : decode cX5_explore 13 = .ok (.aload_n 0, 1) := by decide +kernel
theorem dX5_explore_14 : decode cX5_explore 14 = .ok (.iconst 0, 1) := by decide +kernel
theorem dX5_explore_15 : decode cX5_explore 15 = .ok (.invokevirtual 48, 3) := by decide +kernel
theorem dX5_explore_18 : decode cX5_explore 18 = .ok (.iconst 0, 1) := by decide +kernel
theorem dX5_explore_19 : decode cX5_explore 19 = .ok (.istore 4, 2) := by decide +kernel
theorem dX5_explore_21 : decode cX5_explore 21 = .ok (.iconst 1, 1) := by decide +kernel
theorem dX5_explore_22 : decode cX5_explore 22 = .ok (.istore 5, 2) := by decide +kernel
theorem dX5_explore_24 : decode cX5_explore 24 = .ok (.iload 5, 2) := by decide +kernel
theorem dX5_explore_26 : decode cX5_explore 26 = .ok (.sipush 6144, 3) := by decide +kernel
theorem dX5_explore_29 : decode cX5_explore 29 = .ok (.if_icmp .gt 74, 3) := by decide +kernel
theorem dX5_explore_32 : decode cX5_explore 32 = .ok (.iload 4, 2) := by decide +kernel
theorem dX5_explore_34 : decode cX5_explore 34 = .ok (.aload_n 0, 1) := by decide +kernel
theorem dX5_explore_35 : decode cX5_explore 35 = .ok (.getfield 26, 3) := by decide +kernel
theorem dX5_explore_38 : decode cX5_explore 38 = .ok (.if_icmp .ge 65, 3) := by decide +kernel
theorem dX5_explore_41 : decode cX5_explore 41 = .ok (.iload_n 3, 1) := by decide +kernel
theorem dX5_explore_42 : decode cX5_explore 42 = .ok (.ifCond .eq 15, 3) := by decide +kernel
theorem dX5_explore_45 : decode cX5_explore 45 = .ok (.aload_n 0, 1) := by decide +kernel
theorem dX5_explore_46 : decode cX5_explore 46 = .ok (.getfield 29, 3) := by decide +kernel
theorem dX5_explore_49 : decode cX5_explore 49 = .ok (.ifCond .lt 8, 3) := by decide +kernel
theorem dX5_explore_52 : decode cX5_explore 52 = .ok (.aload_n 0, 1) := by decide +kernel
theorem dX5_explore_53 : decode cX5_explore 53 = .ok (.getfield 29, 3) := by decide +kernel
theorem dX5_explore_56 : decode cX5_explore 56 = .ok (.ireturn, 1) := by decide +kernel
theorem dX5_explore_57 : decode cX5_explore 57 = .ok (.aload_n 0, 1) := by decide +kernel
theorem dX5_explore_58 : decode cX5_explore 58 = .ok (.getfield 26, 3) := by decide +kernel
theorem dX5_explore_61 : decode cX5_explore 61 = .ok (.istore 6, 2) := by decide +kernel
theorem dX5_explore_63 : decode cX5_explore 63 = .ok (.iload 4, 2) := by decide +kernel
theorem dX5_explore_65 : decode cX5_explore 65 = .ok (.istore 7, 2) := by decide +kernel
theorem dX5_explore_67 : decode cX5_explore 67 = .ok (.iload 7, 2) := by decide +kernel
theorem dX5_explore_69 : decode cX5_explore 69 = .ok (.iload 6, 2) := by decide +kernel
theorem dX5_explore_71 : decode cX5_explore 71 = .ok (.if_icmp .ge 22, 3) := by decide +kernel
theorem dX5_explore_74 : decode cX5_explore 74 = .ok (.aload_n 0, 1) := by decide +kernel
theorem dX5_explore_75 : decode cX5_explore 75 = .ok (.aload_n 1, 1) := by decide +kernel
theorem dX5_explore_76 : decode cX5_explore 76 = .ok (.aload_n 0, 1) := by decide +kernel
theorem dX5_explore_77 : decode cX5_explore 77 = .ok (.iload 7, 2) := by decide +kernel
theorem dX5_explore_79 : decode cX5_explore 79 = .ok (.invokevirtual 52, 3) := by decide +kernel
theorem dX5_explore_82 : decode cX5_explore 82 = .ok (.iload 5, 2) := by decide +kernel
theorem dX5_explore_84 : decode cX5_explore 84 = .ok (.invokevirtual 56, 3) := by decide +kernel
theorem dX5_explore_87 : decode cX5_explore 87 = .ok (.iinc 7 1, 3) := by decide +kernel
theorem dX5_explore_90 : decode cX5_explore 90 = .ok (.goto (-23), 3) := by decide +kernel
theorem dX5_explore_93 : decode cX5_explore 93 = .ok (.iload 6, 2) := by decide +kernel
theorem dX5_explore_95 : decode cX5_explore 95 = .ok (.istore 4, 2) := by decide +kernel
theorem dX5_explore_97 : decode cX5_explore 97 = .ok (.iinc 5 1, 3) := by decide +kernel
theorem dX5_explore_100 : decode cX5_explore 100 = .ok (.goto (-76), 3) := by decide +kernel
theorem dX5_explore_103 : decode cX5_explore 103 = .ok (.aload_n 0, 1) := by decide +kernel
theorem dX5_explore_104 : decode cX5_explore 104 = .ok (.getfield 29, 3) := by decide +kernel
theorem dX5_explore_107 : decode cX5_explore 107 = .ok (.ireturn, 1) := by decide +kernel
theorem dX5_restart_0 : decode cX5_restart 0 = .ok (.aload_n 0, 1) := by decide +kernel
theorem dX5_restart_1 : decode cX5_restart 1 = .ok (.dup, 1) := by decide +kernel
theorem dX5_restart_2 : decode cX5_restart 2 = .ok (.getfield 22, 3) := by decide +kernel
theorem dX5_restart_5 : decode cX5_restart 5 = .ok (.iconst 1, 1) := by decide +kernel
theorem dX5_restart_6 : decode cX5_restart 6 = .ok (.iadd, 1) := by decide +kernel
theorem dX5_restart_7 : decode cX5_restart 7 = .ok (.putfield 22, 3) := by decide +kernel
theorem dX5_restart_10 : decode cX5_restart 10 = .ok (.aload_n 0, 1) := by decide +kernel
theorem dX5_restart_11 : decode cX5_restart 11 = .ok (.iconst 0, 1) := by decide +kernel
theorem dX5_restart_12 : decode cX5_restart 12 = .ok (.putfield 26, 3) := by decide +kernel
theorem dX5_restart_15 : decode cX5_restart 15 = .ok (.aload_n 0, 1) := by decide +kernel
theorem dX5_restart_16 : decode cX5_restart 16 = .ok (.iconst (-1), 1) := by decide +kernel
theorem dX5_restart_17 : decode cX5_restart 17 = .ok (.putfield 29, 3) := by decide +kernel
theorem dX5_restart_20 : decode cX5_restart 20 = .ok (.iconst 0, 1) := by decide +kernel
theorem dX5_restart_21 : decode cX5_restart 21 = .ok (.istore_n 1, 1) := by decide +kernel
theorem dX5_restart_22 : decode cX5_restart 22 = .ok (.iload_n 1, 1) := by decide +kernel
theorem dX5_restart_23 : decode cX5_restart 23 = .ok (.aload_n 0, 1) := by decide +kernel
theorem dX5_restart_24 : decode cX5_restart 24 = .ok (.getfield 18, 3) := by decide +kernel
theorem dX5_restart_27 : decode cX5_restart 27 = .ok (.arraylength, 1) := by decide +kernel
theorem dX5_restart_28 : decode cX5_restart 28 = .ok (.if_icmp .ge 16, 3) := by decide +kernel
theorem dX5_restart_31 : decode cX5_restart 31 = .ok (.aload_n 0, 1) := by decide +kernel
theorem dX5_restart_32 : decode cX5_restart 32 = .ok (.getfield 18, 3) := by decide +kernel
theorem dX5_restart_35 : decode cX5_restart 35 = .ok (.iload_n 1, 1) := by decide +kernel
theorem dX5_restart_36 : decode cX5_restart 36 = .ok (.iconst 0, 1) := by decide +kernel
theorem dX5_restart_37 : decode cX5_restart 37 = .ok (.bastore, 1) := by decide +kernel
theorem dX5_restart_38 : decode cX5_restart 38 = .ok (.iinc 1 1, 3) := by decide +kernel
theorem dX5_restart_41 : decode cX5_restart 41 = .ok (.goto (-19), 3) := by decide +kernel
theorem dX5_restart_44 : decode cX5_restart 44 = .ok (.return_, 1) := by decide +kernel
set_option maxRecDepth 20000 in
theorem ggX5_tryInputsFrom_X0_unpack : GoodIn wsX5_tryInputsFrom wsX0_unpack := goodIn_r _ [6, 7, 8, 9, 10, 85, 86, 87, 88, 89] (by decide +kernel) (by decide +kernel)
set_option maxRecDepth 20000 in
theorem gX5_tryInputsFrom_X0_unpack : GoodIn wsX5_tryInputsFrom (wsV RX5 60 RX0 yX0_unpack wsX0_unpack) := goodIn_app (goodIn_of _ (by decide +kernel)) ggX5_tryInputsFrom_X0_unpack
set_option maxRecDepth 20000 in
theorem ggX5_tryInputsFrom_X0_stands : GoodIn wsX5_tryInputsFrom wsX0_stands := goodIn_r _ [14, 8, 7, 15, 16, 17, 5, 18, 9, 19, 20, 21, 22, 23, 24, 85, 86, 87, 88, 89, 90, 91, 92] (by decide +kernel) (by decide +kernel)
set_option maxRecDepth 20000 in
theorem gX5_tryInputsFrom_X0_stands : GoodIn wsX5_tryInputsFrom (wsV RX5 63 RX0 yX0_stands wsX0_stands) := goodIn_app (goodIn_of _ (by decide +kernel)) ggX5_tryInputsFrom_X0_stands
set_option maxRecDepth 20000 in
theorem ggX5_tryInputsFrom_X0_move : GoodIn wsX5_tryInputsFrom wsX0_move := goodIn_r _ [28, 8, 10, 29, 12, 13, 5, 14, 7, 15, 16, 17, 18, 9, 19, 20, 21, 22, 23, 24, 30, 31, 32, 33, 34, 35, 36, 37, 38, 39, 40, 41, 42, 43, 44, 45, 46, 47, 48, 49, 50, 51, 52, 53, 54, 85, 86, 87, 88, 89, 90, 91, 92] (by decide +kernel) (by decide +kernel)
set_option maxRecDepth 20000 in
theorem gX5_tryInputsFrom_X0_move : GoodIn wsX5_tryInputsFrom (wsV RX5 67 RX0 yX0_move wsX0_move) := goodIn_app (goodIn_of _ (by decide +kernel)) ggX5_tryInputsFrom_X0_move
set_option maxRecDepth 20000 in
theorem ggX5_tryInputsFrom_X5_noteBody : GoodIn wsX5_tryInputsFrom wsX5_noteBody := goodIn_r _ [59, 1, 60, 61, 38, 39, 40, 62, 63, 64, 5, 65, 7, 8, 9, 66, 67, 68, 58, 69, 70, 71, 72, 73, 74, 75, 76, 77, 78, 79, 80, 81, 82, 83, 84, 85, 86, 87, 88, 89] (by decide +kernel) (by decide +kernel)
set_option maxRecDepth 20000 in
theorem gX5_tryInputsFrom_X5_noteBody : GoodIn wsX5_tryInputsFrom (wsV RX5 48 RX5 yX5_noteBody wsX5_noteBody) := goodIn_app (goodIn_of _ (by decide +kernel)) ggX5_tryInputsFrom_X5_noteBody
theorem dX5_tryInputsFrom_0 : decode cX5_tryInputsFrom 0 = .ok (.aload_n 0, 1) := by decide +kernel
theorem dX5_tryInputsFrom_1 : decode cX5_tryInputsFrom 1 = .ok (.getfield 37, 3) := by decide +kernel
theorem dX5_tryInputsFrom_4 : decode cX5_tryInputsFrom 4 = .ok (.iload_n 2, 1) := by decide +kernel
theorem dX5_tryInputsFrom_5 : decode cX5_tryInputsFrom 5 = .ok (.invokevirtual 60, 3) := by decide +kernel
theorem dX5_tryInputsFrom_8 : decode cX5_tryInputsFrom 8 = .ok (.aload_n 0, 1) := by decide +kernel
theorem dX5_tryInputsFrom_9 : decode cX5_tryInputsFrom 9 = .ok (.getfield 37, 3) := by decide +kernel
theorem dX5_tryInputsFrom_12 : decode cX5_tryInputsFrom 12 = .ok (.aload_n 1, 1) := by decide +kernel
theorem dX5_tryInputsFrom_13 : decode cX5_tryInputsFrom 13 = .ok (.invokevirtual 63, 3) := by decide +kernel
theorem dX5_tryInputsFrom_16 : decode cX5_tryInputsFrom 16 = .ok (.ifCond .eq 8, 3) := by decide +kernel
theorem dX5_tryInputsFrom_19 : decode cX5_tryInputsFrom 19 = .ok (.bipush 6, 2) := by decide +kernel
theorem dX5_tryInputsFrom_21 : decode cX5_tryInputsFrom 21 = .ok (.goto 4, 3) := by decide +kernel
theorem dX5_tryInputsFrom_24 : decode cX5_tryInputsFrom 24 = .ok (.iconst 3, 1) := by decide +kernel
theorem dX5_tryInputsFrom_25 : decode cX5_tryInputsFrom 25 = .ok (.istore 4, 2) := by decide +kernel
theorem dX5_tryInputsFrom_27 : decode cX5_tryInputsFrom 27 = .ok (.iconst 0, 1) := by decide +kernel
theorem dX5_tryInputsFrom_28 : decode cX5_tryInputsFrom 28 = .ok (.istore 5, 2) := by decide +kernel
theorem dX5_tryInputsFrom_30 : decode cX5_tryInputsFrom 30 = .ok (.iload 5, 2) := by decide +kernel
theorem dX5_tryInputsFrom_32 : decode cX5_tryInputsFrom 32 = .ok (.iload 4, 2) := by decide +kernel
theorem dX5_tryInputsFrom_34 : decode cX5_tryInputsFrom 34 = .ok (.if_icmp .ge 32, 3) := by decide +kernel
theorem dX5_tryInputsFrom_37 : decode cX5_tryInputsFrom 37 = .ok (.aload_n 0, 1) := by decide +kernel
theorem dX5_tryInputsFrom_38 : decode cX5_tryInputsFrom 38 = .ok (.getfield 37, 3) := by decide +kernel
theorem dX5_tryInputsFrom_41 : decode cX5_tryInputsFrom 41 = .ok (.iload_n 2, 1) := by decide +kernel
theorem dX5_tryInputsFrom_42 : decode cX5_tryInputsFrom 42 = .ok (.invokevirtual 60, 3) := by decide +kernel
theorem dX5_tryInputsFrom_45 : decode cX5_tryInputsFrom 45 = .ok (.aload_n 0, 1) := by decide +kernel
theorem dX5_tryInputsFrom_46 : decode cX5_tryInputsFrom 46 = .ok (.getfield 37, 3) := by decide +kernel
theorem dX5_tryInputsFrom_49 : decode cX5_tryInputsFrom 49 = .ok (.aload_n 1, 1) := by decide +kernel
theorem dX5_tryInputsFrom_50 : decode cX5_tryInputsFrom 50 = .ok (.iload 5, 2) := by decide +kernel
theorem dX5_tryInputsFrom_52 : decode cX5_tryInputsFrom 52 = .ok (.invokevirtual 67, 3) := by decide +kernel
theorem dX5_tryInputsFrom_55 : decode cX5_tryInputsFrom 55 = .ok (.aload_n 0, 1) := by decide +kernel
theorem dX5_tryInputsFrom_56 : decode cX5_tryInputsFrom 56 = .ok (.iload_n 3, 1) := by decide +kernel
theorem dX5_tryInputsFrom_57 : decode cX5_tryInputsFrom 57 = .ok (.invokevirtual 48, 3) := by decide +kernel
theorem dX5_tryInputsFrom_60 : decode cX5_tryInputsFrom 60 = .ok (.iinc 5 1, 3) := by decide +kernel
theorem dX5_tryInputsFrom_63 : decode cX5_tryInputsFrom 63 = .ok (.goto (-33), 3) := by decide +kernel
theorem dX5_tryInputsFrom_66 : decode cX5_tryInputsFrom 66 = .ok (.return_, 1) := by decide +kernel
set_option maxRecDepth 20000 in
theorem ggX5_noteBody_X7_isCell : GoodIn wsX5_noteBody wsX7_isCell := goodIn_r _ [6] (by decide +kernel) (by decide +kernel)
set_option maxRecDepth 20000 in
theorem gX5_noteBody_X7_isCell_n76 : GoodIn wsX5_noteBody (wsX7_isCell) := ggX5_noteBody_X7_isCell
set_option maxRecDepth 20000 in
theorem ggX5_noteBody_X0_packed : GoodIn wsX5_noteBody wsX0_packed := goodIn_r _ [11, 12, 13, 14, 35, 36, 37, 38, 39] (by decide +kernel) (by decide +kernel)
set_option maxRecDepth 20000 in
theorem gX5_noteBody_X0_packed : GoodIn wsX5_noteBody (wsV RX5 80 RX0 yX0_packed wsX0_packed) := goodIn_app (goodIn_of _ (by decide +kernel)) ggX5_noteBody_X0_packed
set_option maxRecDepth 20000 in
theorem ggX5_noteBody_X5_enqueueNew : GoodIn wsX5_noteBody wsX5_enqueueNew := goodIn_r _ [19, 20, 21, 22, 23, 24, 18, 25, 26, 27, 28, 29, 30, 31, 32, 33, 34] (by decide +kernel) (by decide +kernel)
set_option maxRecDepth 20000 in
theorem gX5_noteBody_X5_enqueueNew : GoodIn wsX5_noteBody (wsV RX5 84 RX5 yX5_enqueueNew wsX5_enqueueNew) := goodIn_app (goodIn_of _ (by decide +kernel)) ggX5_noteBody_X5_enqueueNew
theorem dX5_noteBody_0 : decode cX5_noteBody 0 = .ok (.aload_n 0, 1) := by decide +kernel
theorem dX5_noteBody_1 : decode cX5_noteBody 1 = .ok (.getfield 37, 3) := by decide +kernel
theorem dX5_noteBody_4 : decode cX5_noteBody 4 = .ok (.getfield 70, 3) := by decide +kernel
theorem dX5_noteBody_7 : decode cX5_noteBody 7 = .ok (.iconst 3, 1) := by decide +kernel
theorem dX5_noteBody_8 : decode cX5_noteBody 8 = .ok (.if_icmp .eq 16, 3) := by decide +kernel
theorem dX5_noteBody_11 : decode cX5_noteBody 11 = .ok (.aload_n 0, 1) := by decide +kernel
theorem dX5_noteBody_12 : decode cX5_noteBody 12 = .ok (.getfield 37, 3) := by decide +kernel
theorem dX5_noteBody_15 : decode cX5_noteBody 15 = .ok (.getfield 73, 3) := by decide +kernel
theorem dX5_noteBody_18 : decode cX5_noteBody 18 = .ok (.invokestatic 76, 3) := by decide +kernel
theorem dX5_noteBody_21 : decode cX5_noteBody 21 = .ok (.ifCond .ne 4, 3) := by decide +kernel
theorem dX5_noteBody_24 : decode cX5_noteBody 24 = .ok (.return_, 1) := by decide +kernel
theorem dX5_noteBody_25 : decode cX5_noteBody 25 = .ok (.aload_n 0, 1) := by decide +kernel
theorem dX5_noteBody_26 : decode cX5_noteBody 26 = .ok (.getfield 18, 3) := by decide +kernel
theorem dX5_noteBody_29 : decode cX5_noteBody 29 = .ok (.aload_n 0, 1) := by decide +kernel
theorem dX5_noteBody_30 : decode cX5_noteBody 30 = .ok (.getfield 37, 3) := by decide +kernel
theorem dX5_noteBody_33 : decode cX5_noteBody 33 = .ok (.getfield 73, 3) := by decide +kernel
theorem dX5_noteBody_36 : decode cX5_noteBody 36 = .ok (.iconst 1, 1) := by decide +kernel
theorem dX5_noteBody_37 : decode cX5_noteBody 37 = .ok (.bastore, 1) := by decide +kernel
theorem dX5_noteBody_38 : decode cX5_noteBody 38 = .ok (.aload_n 0, 1) := by decide +kernel
theorem dX5_noteBody_39 : decode cX5_noteBody 39 = .ok (.getfield 37, 3) := by decide +kernel
theorem dX5_noteBody_42 : decode cX5_noteBody 42 = .ok (.getfield 70, 3) := by decide +kernel
theorem dX5_noteBody_45 : decode cX5_noteBody 45 = .ok (.iconst 1, 1) := by decide +kernel
theorem dX5_noteBody_46 : decode cX5_noteBody 46 = .ok (.if_icmp .ne 17, 3) := by decide +kernel
theorem dX5_noteBody_49 : decode cX5_noteBody 49 = .ok (.aload_n 0, 1) := by decide +kernel
theorem dX5_noteBody_50 : decode cX5_noteBody 50 = .ok (.aload_n 0, 1) := by decide +kernel
theorem dX5_noteBody_51 : decode cX5_noteBody 51 = .ok (.getfield 37, 3) := by decide +kernel
theorem dX5_noteBody_54 : decode cX5_noteBody 54 = .ok (.invokevirtual 80, 3) := by decide +kernel
theorem dX5_noteBody_57 : decode cX5_noteBody 57 = .ok (.invokevirtual 84, 3) := by decide +kernel
theorem dX5_noteBody_60 : decode cX5_noteBody 60 = .ok (.goto 15, 3) := by decide +kernel
theorem dX5_noteBody_63 : decode cX5_noteBody 63 = .ok (.aload_n 0, 1) := by decide +kernel
theorem dX5_noteBody_64 : decode cX5_noteBody 64 = .ok (.getfield 29, 3) := by decide +kernel
theorem dX5_noteBody_67 : decode cX5_noteBody 67 = .ok (.ifCond .ge 8, 3) := by decide +kernel
theorem dX5_noteBody_70 : decode cX5_noteBody 70 = .ok (.aload_n 0, 1) := by decide +kernel
theorem dX5_noteBody_71 : decode cX5_noteBody 71 = .ok (.iload_n 1, 1) := by decide +kernel
theorem dX5_noteBody_72 : decode cX5_noteBody 72 = .ok (.putfield 29, 3) := by decide +kernel
theorem dX5_noteBody_75 : decode cX5_noteBody 75 = .ok (.return_, 1) := by decide +kernel
set_option maxRecDepth 20000 in
theorem ggX5_enqueueNew_X5_enqueue : GoodIn wsX5_enqueueNew wsX5_enqueue := goodIn_r _ [7, 8, 9, 10, 11, 12, 13, 14, 15, 16] (by decide +kernel) (by decide +kernel)
set_option maxRecDepth 20000 in
theorem gX5_enqueueNew_X5_enqueue : GoodIn wsX5_enqueueNew (wsV RX5 87 RX5 yX5_enqueue wsX5_enqueue) := goodIn_app (goodIn_of _ (by decide +kernel)) ggX5_enqueueNew_X5_enqueue
theorem dX5_enqueueNew_0 : decode cX5_enqueueNew 0 = .ok (.iload_n 1, 1) := by decide +kernel
theorem dX5_enqueueNew_1 : decode cX5_enqueueNew 1 = .ok (.ifCond .lt 40, 3) := by decide +kernel
theorem dX5_enqueueNew_4 : decode cX5_enqueueNew 4 = .ok (.iload_n 1, 1) := by decide +kernel
theorem dX5_enqueueNew_5 : decode cX5_enqueueNew 5 = .ok (.aload_n 0, 1) := by decide +kernel
theorem dX5_enqueueNew_6 : decode cX5_enqueueNew 6 = .ok (.getfield 15, 3) := by decide +kernel
theorem dX5_enqueueNew_9 : decode cX5_enqueueNew 9 = .ok (.arraylength, 1) := by decide +kernel
theorem dX5_enqueueNew_10 : decode cX5_enqueueNew 10 = .ok (.if_icmp .ge 31, 3) := by decide +kernel
theorem dX5_enqueueNew_13 : decode cX5_enqueueNew 13 = .ok (.aload_n 0, 1) := by decide +kernel
theorem dX5_enqueueNew_14 : decode cX5_enqueueNew 14 = .ok (.getfield 15, 3) := by decide +kernel
theorem dX5_enqueueNew_17 : decode cX5_enqueueNew 17 = .ok (.iload_n 1, 1) := by decide +kernel
theorem dX5_enqueueNew_18 : decode cX5_enqueueNew 18 = .ok (.iaload, 1) := by decide +kernel
theorem dX5_enqueueNew_19 : decode cX5_enqueueNew 19 = .ok (.aload_n 0, 1) := by decide +kernel
theorem dX5_enqueueNew_20 : decode cX5_enqueueNew 20 = .ok (.getfield 22, 3) := by decide +kernel
theorem dX5_enqueueNew_23 : decode cX5_enqueueNew 23 = .ok (.if_icmp .eq 18, 3) := by decide +kernel
theorem dX5_enqueueNew_26 : decode cX5_enqueueNew 26 = .ok (.aload_n 0, 1) := by decide +kernel
theorem dX5_enqueueNew_27 : decode cX5_enqueueNew 27 = .ok (.getfield 15, 3) := by decide +kernel
theorem dX5_enqueueNew_30 : decode cX5_enqueueNew 30 = .ok (.iload_n 1, 1) := by decide +kernel
theorem dX5_enqueueNew_31 : decode cX5_enqueueNew 31 = .ok (.aload_n 0, 1) := by decide +kernel
theorem dX5_enqueueNew_32 : decode cX5_enqueueNew 32 = .ok (.getfield 22, 3) := by decide +kernel
theorem dX5_enqueueNew_35 : decode cX5_enqueueNew 35 = .ok (.iastore, 1) := by decide +kernel
theorem dX5_enqueueNew_36 : decode cX5_enqueueNew 36 = .ok (.aload_n 0, 1) := by decide +kernel
theorem dX5_enqueueNew_37 : decode cX5_enqueueNew 37 = .ok (.iload_n 1, 1) := by decide +kernel
theorem dX5_enqueueNew_38 : decode cX5_enqueueNew 38 = .ok (.invokevirtual 87, 3) := by decide +kernel
theorem dX5_enqueueNew_41 : decode cX5_enqueueNew 41 = .ok (.return_, 1) := by decide +kernel
theorem dX5_enqueue_0 : decode cX5_enqueue 0 = .ok (.aload_n 0, 1) := by decide +kernel
theorem dX5_enqueue_1 : decode cX5_enqueue 1 = .ok (.getfield 26, 3) := by decide +kernel
theorem dX5_enqueue_4 : decode cX5_enqueue 4 = .ok (.ifCond .lt 35, 3) := by decide +kernel
theorem dX5_enqueue_7 : decode cX5_enqueue 7 = .ok (.aload_n 0, 1) := by decide +kernel
theorem dX5_enqueue_8 : decode cX5_enqueue 8 = .ok (.getfield 26, 3) := by decide +kernel
theorem dX5_enqueue_11 : decode cX5_enqueue 11 = .ok (.aload_n 0, 1) := by decide +kernel
theorem dX5_enqueue_12 : decode cX5_enqueue 12 = .ok (.getfield 9, 3) := by decide +kernel
theorem dX5_enqueue_15 : decode cX5_enqueue 15 = .ok (.arraylength, 1) := by decide +kernel
theorem dX5_enqueue_16 : decode cX5_enqueue 16 = .ok (.if_icmp .ge 23, 3) := by decide +kernel
theorem dX5_enqueue_19 : decode cX5_enqueue 19 = .ok (.aload_n 0, 1) := by decide +kernel
theorem dX5_enqueue_20 : decode cX5_enqueue 20 = .ok (.getfield 9, 3) := by decide +kernel
theorem dX5_enqueue_23 : decode cX5_enqueue 23 = .ok (.aload_n 0, 1) := by decide +kernel
theorem dX5_enqueue_24 : decode cX5_enqueue 24 = .ok (.getfield 26, 3) := by decide +kernel
theorem dX5_enqueue_27 : decode cX5_enqueue 27 = .ok (.iload_n 1, 1) := by decide +kernel
theorem dX5_enqueue_28 : decode cX5_enqueue 28 = .ok (.iastore, 1) := by decide +kernel
theorem dX5_enqueue_29 : decode cX5_enqueue 29 = .ok (.aload_n 0, 1) := by decide +kernel
theorem dX5_enqueue_30 : decode cX5_enqueue 30 = .ok (.dup, 1) := by decide +kernel
theorem dX5_enqueue_31 : decode cX5_enqueue 31 = .ok (.getfield 26, 3) := by decide +kernel
theorem dX5_enqueue_34 : decode cX5_enqueue 34 = .ok (.iconst 1, 1) := by decide +kernel
theorem dX5_enqueue_35 : decode cX5_enqueue 35 = .ok (.iadd, 1) := by decide +kernel
theorem dX5_enqueue_36 : decode cX5_enqueue 36 = .ok (.putfield 26, 3) := by decide +kernel
theorem dX5_enqueue_39 : decode cX5_enqueue 39 = .ok (.return_, 1) := by decide +kernel
theorem dX5_queuedAt_0 : decode cX5_queuedAt 0 = .ok (.iload_n 1, 1) := by decide +kernel
theorem dX5_queuedAt_1 : decode cX5_queuedAt 1 = .ok (.ifCond .lt 21, 3) := by decide +kernel
theorem dX5_queuedAt_4 : decode cX5_queuedAt 4 = .ok (.iload_n 1, 1) := by decide +kernel
theorem dX5_queuedAt_5 : decode cX5_queuedAt 5 = .ok (.aload_n 0, 1) := by decide +kernel
theorem dX5_queuedAt_6 : decode cX5_queuedAt 6 = .ok (.getfield 9, 3) := by decide +kernel
theorem dX5_queuedAt_9 : decode cX5_queuedAt 9 = .ok (.arraylength, 1) := by decide +kernel
theorem dX5_queuedAt_10 : decode cX5_queuedAt 10 = .ok (.if_icmp .ge 12, 3) := by decide +kernel
theorem dX5_queuedAt_13 : decode cX5_queuedAt 13 = .ok (.aload_n 0, 1) := by decide +kernel
theorem dX5_queuedAt_14 : decode cX5_queuedAt 14 = .ok (.getfield 9, 3) := by decide +kernel
theorem dX5_queuedAt_17 : decode cX5_queuedAt 17 = .ok (.iload_n 1, 1) := by decide +kernel
theorem dX5_queuedAt_18 : decode cX5_queuedAt 18 = .ok (.iaload, 1) := by decide +kernel
theorem dX5_queuedAt_19 : decode cX5_queuedAt 19 = .ok (.goto 4, 3) := by decide +kernel
theorem dX5_queuedAt_22 : decode cX5_queuedAt 22 = .ok (.iconst 0, 1) := by decide +kernel
theorem dX5_queuedAt_23 : decode cX5_queuedAt 23 = .ok (.ireturn, 1) := by decide +kernel
set_option maxRecDepth 20000 in
theorem ggX5_fewestStepsByRows_X5_restart : GoodIn wsX5_fewestStepsByRows wsX5_restart := goodIn_r _ [7, 8, 2, 9, 10, 84, 85, 86, 87, 88, 89, 90] (by decide +kernel) (by decide +kernel)
set_option maxRecDepth 20000 in
theorem gX5_fewestStepsByRows_X5_restart : GoodIn wsX5_fewestStepsByRows (wsV RX5 41 RX5 yX5_restart wsX5_restart) := goodIn_app (goodIn_of _ (by decide +kernel)) ggX5_fewestStepsByRows_X5_restart
set_option maxRecDepth 20000 in
theorem ggX5_fewestStepsByRows_X0_placeAtStart : GoodIn wsX5_fewestStepsByRows wsX0_placeAtStart := goodIn_r _ [15, 16, 17, 18, 19, 20, 21, 14, 22, 23, 24, 25, 26, 27, 28, 29, 30, 31, 32, 33, 34, 35, 36, 37, 91, 92, 93, 94, 95, 96, 97, 98] (by decide +kernel) (by decide +kernel)
set_option maxRecDepth 20000 in
theorem gX5_fewestStepsByRows_X0_placeAtStart : GoodIn wsX5_fewestStepsByRows (wsV RX5 44 RX0 yX0_placeAtStart wsX0_placeAtStart) := goodIn_app (goodIn_of _ (by decide +kernel)) ggX5_fewestStepsByRows_X0_placeAtStart
set_option maxRecDepth 20000 in
theorem ggX5_fewestStepsByRows_X0_packed : GoodIn wsX5_fewestStepsByRows wsX0_packed := goodIn_r _ [41, 23, 16, 17, 91, 92, 93, 94, 95] (by decide +kernel) (by decide +kernel)
set_option maxRecDepth 20000 in
theorem gX5_fewestStepsByRows_X0_packed : GoodIn wsX5_fewestStepsByRows (wsV RX5 80 RX0 yX0_packed wsX0_packed) := goodIn_app (goodIn_of _ (by decide +kernel)) ggX5_fewestStepsByRows_X0_packed
set_option maxRecDepth 20000 in
theorem ggX5_fewestStepsByRows_X5_enqueue : GoodIn wsX5_fewestStepsByRows wsX5_enqueue := goodIn_r _ [45, 2, 46, 84, 85, 86, 87, 88, 89, 90] (by decide +kernel) (by decide +kernel)
set_option maxRecDepth 20000 in
theorem gX5_fewestStepsByRows_X5_enqueue : GoodIn wsX5_fewestStepsByRows (wsV RX5 87 RX5 yX5_enqueue wsX5_enqueue) := goodIn_app (goodIn_of _ (by decide +kernel)) ggX5_fewestStepsByRows_X5_enqueue
set_option maxRecDepth 20000 in
theorem ggX5_fewestStepsByRows_X5_queuedAt : GoodIn wsX5_fewestStepsByRows wsX5_queuedAt := goodIn_r _ [50, 46, 84, 85, 86, 87, 88, 89, 90] (by decide +kernel) (by decide +kernel)
set_option maxRecDepth 20000 in
theorem gX5_fewestStepsByRows_X5_queuedAt : GoodIn wsX5_fewestStepsByRows (wsV RX5 52 RX5 yX5_queuedAt wsX5_queuedAt) := goodIn_app (goodIn_of _ (by decide +kernel)) ggX5_fewestStepsByRows_X5_queuedAt
set_option maxRecDepth 20000 in
theorem ggX5_fewestStepsByRows_X5_winsByOneMore : GoodIn wsX5_fewestStepsByRows wsX5_winsByOneMore := goodIn_r _ [54, 1, 55, 56, 57, 14, 58, 23, 16, 17, 18, 59, 60, 61, 62, 63, 64, 65, 66, 67, 68, 69, 70, 27, 28, 29, 30, 31, 32, 71, 72, 73, 74, 19, 20, 21, 22, 24, 25, 26, 33, 34, 35, 36, 37, 75, 76, 77, 78, 79, 80, 81, 82, 83, 38, 39, 40, 41, 42, 43, 44, 6, 45, 2, 46, 84, 85, 86, 87, 88, 89, 90, 91, 92, 93, 94, 95, 96, 97, 98] (by decide +kernel) (by decide +kernel)
set_option maxRecDepth 20000 in
theorem gX5_fewestStepsByRows_X5_winsByOneMore : GoodIn wsX5_fewestStepsByRows (wsV RX5 90 RX5 yX5_winsByOneMore wsX5_winsByOneMore) := goodIn_app (goodIn_of _ (by decide +kernel)) ggX5_fewestStepsByRows_X5_winsByOneMore
theorem dX5_fewestStepsByRows_0 : decode cX5_fewestStepsByRows 0 = .ok (.aload_n 0, 1) := by decide +kernel
theorem dX5_fewestStepsByRows_1 : decode cX5_fewestStepsByRows 1 = .ok (.invokevirtual 41, 3) := by decide +kernel
theorem dX5_fewestStepsByRows_4 : decode cX5_fewestStepsByRows 4 = .ok (.aload_n 0, 1) := by decide +kernel
theorem dX5_fewestStepsByRows_5 : decode cX5_fewestStepsByRows 5 = .ok (.getfield 37, 3) := by decide +kernel
theorem dX5_fewestStepsByRows_8 : decode cX5_fewestStepsByRows 8 = .ok (.aload_n 1, 1) := by decide +kernel
theorem dX5_fewestStepsByRows_9 : decode cX5_fewestStepsByRows 9 = .ok (.iload_n 2, 1) := by decide +kernel
theorem dX5_fewestStepsByRows_10 : decode cX5_fewestStepsByRows 10 = .ok (.invokevirtual 44, 3) := by decide +kernel
theorem dX5_fewestStepsByRows_13 : decode cX5_fewestStepsByRows 13 = .ok (.aload_n 0, 1) := by decide +kernel
theorem dX5_fewestStepsByRows_14 : decode cX5_fewestStepsByRows 14 = .ok (.getfield 37, 3) := by decide +kernel
theorem dX5_fewestStepsByRows_17 : decode cX5_fewestStepsByRows 17 = .ok (.getfield 70, 3) := by decide +kernel
theorem dX5_fewestStepsByRows_20 : decode cX5_fewestStepsByRows 20 = .ok (.iconst 1, 1) := by decide +kernel
theorem dX5_fewestStepsByRows_21 : decode cX5_fewestStepsByRows 21 = .ok (.if_icmp .eq 20, 3) := by decide +kernel
theorem dX5_fewestStepsByRows_24 : decode cX5_fewestStepsByRows 24 = .ok (.aload_n 0, 1) := by decide +kernel
theorem dX5_fewestStepsByRows_25 : decode cX5_fewestStepsByRows 25 = .ok (.getfield 37, 3) := by decide +kernel
theorem dX5_fewestStepsByRows_28 : decode cX5_fewestStepsByRows 28 = .ok (.getfield 70, 3) := by decide +kernel
theorem dX5_fewestStepsByRows_31 : decode cX5_fewestStepsByRows 31 = .ok (.iconst 2, 1) := by decide +kernel
theorem dX5_fewestStepsByRows_32 : decode cX5_fewestStepsByRows 32 = .ok (.if_icmp .ne 7, 3) := by decide +kernel
theorem dX5_fewestStepsByRows_35 : decode cX5_fewestStepsByRows 35 = .ok (.iconst 0, 1) := by decide +kernel
theorem dX5_fewestStepsByRows_36 : decode cX5_fewestStepsByRows 36 = .ok (.goto 4, 3) := by decide +kernel
theorem dX5_fewestStepsByRows_39 : decode cX5_fewestStepsByRows 39 = .ok (.iconst (-1), 1) := by decide +kernel
theorem dX5_fewestStepsByRows_40 : decode cX5_fewestStepsByRows 40 = .ok (.ireturn, 1) := by decide +kernel
theorem dX5_fewestStepsByRows_41 : decode cX5_fewestStepsByRows 41 = .ok (.aload_n 0, 1) := by decide +kernel
theorem dX5_fewestStepsByRows_42 : decode cX5_fewestStepsByRows 42 = .ok (.aload_n 0, 1) := by decide +kernel
theorem dX5_fewestStepsByRows_43 : decode cX5_fewestStepsByRows 43 = .ok (.getfield 37, 3) := by decide +kernel
theorem dX5_fewestStepsByRows_46 : decode cX5_fewestStepsByRows 46 = .ok (.invokevirtual 80, 3) := by decide +kernel
theorem dX5_fewestStepsByRows_49 : decode cX5_fewestStepsByRows 49 = .ok (.invokevirtual 87, 3) := by decide +kernel
theorem dX5_fewestStepsByRows_52 : decode cX5_fewestStepsByRows 52 = .ok (.iconst 0, 1) := by decide +kernel
theorem dX5_fewestStepsByRows_53 : decode cX5_fewestStepsByRows 53 = .ok (.istore 4, 2) := by decide +kernel
theorem dX5_fewestStepsByRows_55 : decode cX5_fewestStepsByRows 55 = .ok (.iconst 1, 1) := by decide +kernel
theorem dX5_fewestStepsByRows_56 : decode cX5_fewestStepsByRows 56 = .ok (.istore 5, 2) := by decide +kernel
theorem dX5_fewestStepsByRows_58 : decode cX5_fewestStepsByRows 58 = .ok (.iload 5, 2) := by decide +kernel
theorem dX5_fewestStepsByRows_60 : decode cX5_fewestStepsByRows 60 = .ok (.iload_n 3, 1) := by decide +kernel
theorem dX5_fewestStepsByRows_61 : decode cX5_fewestStepsByRows 61 = .ok (.if_icmp .gt 64, 3) := by decide +kernel
theorem dX5_fewestStepsByRows_64 : decode cX5_fewestStepsByRows 64 = .ok (.aload_n 0, 1) := by decide +kernel
theorem dX5_fewestStepsByRows_65 : decode cX5_fewestStepsByRows 65 = .ok (.getfield 26, 3) := by decide +kernel
theorem dX5_fewestStepsByRows_68 : decode cX5_fewestStepsByRows 68 = .ok (.istore 6, 2) := by decide +kernel
theorem dX5_fewestStepsByRows_70 : decode cX5_fewestStepsByRows 70 = .ok (.iload 4, 2) := by decide +kernel
theorem dX5_fewestStepsByRows_72 : decode cX5_fewestStepsByRows 72 = .ok (.istore 7, 2) := by decide +kernel
theorem dX5_fewestStepsByRows_74 : decode cX5_fewestStepsByRows 74 = .ok (.iload 7, 2) := by decide +kernel
theorem dX5_fewestStepsByRows_76 : decode cX5_fewestStepsByRows 76 = .ok (.iload 6, 2) := by decide +kernel
theorem dX5_fewestStepsByRows_78 : decode cX5_fewestStepsByRows 78 = .ok (.if_icmp .ge 37, 3) := by decide +kernel
theorem dX5_fewestStepsByRows_81 : decode cX5_fewestStepsByRows 81 = .ok (.aload_n 0, 1) := by decide +kernel
theorem dX5_fewestStepsByRows_82 : decode cX5_fewestStepsByRows 82 = .ok (.aload_n 1, 1) := by decide +kernel
theorem dX5_fewestStepsByRows_83 : decode cX5_fewestStepsByRows 83 = .ok (.aload_n 0, 1) := by decide +kernel
theorem dX5_fewestStepsByRows_84 : decode cX5_fewestStepsByRows 84 = .ok (.iload 7, 2) := by decide +kernel
theorem dX5_fewestStepsByRows_86 : decode cX5_fewestStepsByRows 86 = .ok (.invokevirtual 52, 3) := by decide +kernel
theorem dX5_fewestStepsByRows_89 : decode cX5_fewestStepsByRows 89 = .ok (.iload 5, 2) := by decide +kernel
theorem dX5_fewestStepsByRows_91 : decode cX5_fewestStepsByRows 91 = .ok (.iload_n 3, 1) := by decide +kernel
theorem dX5_fewestStepsByRows_92 : decode cX5_fewestStepsByRows 92 = .ok (.if_icmp .ge 7, 3) := by decide +kernel
theorem dX5_fewestStepsByRows_95 : decode cX5_fewestStepsByRows 95 = .ok (.iconst 1, 1) := by decide +kernel
theorem dX5_fewestStepsByRows_96 : decode cX5_fewestStepsByRows 96 = .ok (.goto 4, 3) := by decide +kernel
theorem dX5_fewestStepsByRows_99 : decode cX5_fewestStepsByRows 99 = .ok (.iconst 0, 1) := by decide +kernel
theorem dX5_fewestStepsByRows_100 : decode cX5_fewestStepsByRows 100 = .ok (.invokevirtual 90, 3) := by decide +kernel
theorem dX5_fewestStepsByRows_103 : decode cX5_fewestStepsByRows 103 = .ok (.ifCond .eq 6, 3) := by decide +kernel
theorem dX5_fewestStepsByRows_106 : decode cX5_fewestStepsByRows 106 = .ok (.iload 5, 2) := by decide +kernel
theorem dX5_fewestStepsByRows_108 : decode cX5_fewestStepsByRows 108 = .ok (.ireturn, 1) := by decide +kernel
theorem dX5_fewestStepsByRows_109 : decode cX5_fewestStepsByRows 109 = .ok (.iinc 7 1, 3) := by decide +kernel
theorem dX5_fewestStepsByRows_112 : decode cX5_fewestStepsByRows 112 = .ok (.goto (-38), 3) := by decide +kernel
theorem dX5_fewestStepsByRows_115 : decode cX5_fewestStepsByRows 115 = .ok (.iload 6, 2) := by decide +kernel
theorem dX5_fewestStepsByRows_117 : decode cX5_fewestStepsByRows 117 = .ok (.istore 4, 2) := by decide +kernel
theorem dX5_fewestStepsByRows_119 : decode cX5_fewestStepsByRows 119 = .ok (.iinc 5 1, 3) := by decide +kernel
theorem dX5_fewestStepsByRows_122 : decode cX5_fewestStepsByRows 122 = .ok (.goto (-64), 3) := by decide +kernel
theorem dX5_fewestStepsByRows_125 : decode cX5_fewestStepsByRows 125 = .ok (.iconst (-1), 1) := by decide +kernel
theorem dX5_fewestStepsByRows_126 : decode cX5_fewestStepsByRows 126 = .ok (.ireturn, 1) := by decide +kernel
set_option maxRecDepth 20000 in
theorem ggX5_winsByOneMore_X0_unpack : GoodIn wsX5_winsByOneMore wsX0_unpack := goodIn_r _ [6, 7, 8, 9, 10, 72, 73, 74, 75, 76] (by decide +kernel) (by decide +kernel)
set_option maxRecDepth 20000 in
theorem gX5_winsByOneMore_X0_unpack : GoodIn wsX5_winsByOneMore (wsV RX5 60 RX0 yX0_unpack wsX0_unpack) := goodIn_app (goodIn_of _ (by decide +kernel)) ggX5_winsByOneMore_X0_unpack
set_option maxRecDepth 20000 in
theorem ggX5_winsByOneMore_X0_move : GoodIn wsX5_winsByOneMore wsX0_move := goodIn_r _ [14, 8, 10, 15, 16, 17, 5, 18, 7, 19, 20, 21, 22, 9, 23, 24, 25, 26, 27, 28, 29, 30, 31, 32, 33, 34, 35, 36, 37, 38, 39, 40, 41, 42, 43, 44, 45, 46, 47, 48, 49, 50, 51, 52, 53, 72, 73, 74, 75, 76, 77, 78, 79] (by decide +kernel) (by decide +kernel)
set_option maxRecDepth 20000 in
theorem gX5_winsByOneMore_X0_move : GoodIn wsX5_winsByOneMore (wsV RX5 67 RX0 yX0_move wsX0_move) := goodIn_app (goodIn_of _ (by decide +kernel)) ggX5_winsByOneMore_X0_move
set_option maxRecDepth 20000 in
theorem ggX5_winsByOneMore_X0_packed : GoodIn wsX5_winsByOneMore wsX0_packed := goodIn_r _ [57, 7, 8, 9, 72, 73, 74, 75, 76] (by decide +kernel) (by decide +kernel)
set_option maxRecDepth 20000 in
theorem gX5_winsByOneMore_X0_packed : GoodIn wsX5_winsByOneMore (wsV RX5 80 RX0 yX0_packed wsX0_packed) := goodIn_app (goodIn_of _ (by decide +kernel)) ggX5_winsByOneMore_X0_packed
set_option maxRecDepth 20000 in
theorem ggX5_winsByOneMore_X5_enqueue : GoodIn wsX5_winsByOneMore wsX5_enqueue := goodIn_r _ [62, 63, 64, 65, 66, 67, 68, 69, 70, 71] (by decide +kernel) (by decide +kernel)
set_option maxRecDepth 20000 in
theorem gX5_winsByOneMore_X5_enqueue : GoodIn wsX5_winsByOneMore (wsV RX5 87 RX5 yX5_enqueue wsX5_enqueue) := goodIn_app (goodIn_of _ (by decide +kernel)) ggX5_winsByOneMore_X5_enqueue
theorem dX5_winsByOneMore_0 : decode cX5_winsByOneMore 0 = .ok (.iconst 0, 1) := by decide +kernel
theorem dX5_winsByOneMore_1 : decode cX5_winsByOneMore 1 = .ok (.istore 4, 2) := by decide +kernel
theorem dX5_winsByOneMore_3 : decode cX5_winsByOneMore 3 = .ok (.iload 4, 2) := by decide +kernel
theorem dX5_winsByOneMore_5 : decode cX5_winsByOneMore 5 = .ok (.bipush 6, 2) := by decide +kernel
theorem dX5_winsByOneMore_7 : decode cX5_winsByOneMore 7 = .ok (.if_icmp .ge 66, 3) := by decide +kernel
theorem dX5_winsByOneMore_10 : decode cX5_winsByOneMore 10 = .ok (.aload_n 0, 1) := by decide +kernel
theorem dX5_winsByOneMore_11 : decode cX5_winsByOneMore 11 = .ok (.getfield 37, 3) := by decide +kernel
theorem dX5_winsByOneMore_14 : decode cX5_winsByOneMore 14 = .ok (.iload_n 2, 1) := by decide +kernel
theorem dX5_winsByOneMore_15 : decode cX5_winsByOneMore 15 = .ok (.invokevirtual 60, 3) := by decide +kernel
theorem dX5_winsByOneMore_18 : decode cX5_winsByOneMore 18 = .ok (.aload_n 0, 1) := by decide +kernel
theorem dX5_winsByOneMore_19 : decode cX5_winsByOneMore 19 = .ok (.getfield 37, 3) := by decide +kernel
theorem dX5_winsByOneMore_22 : decode cX5_winsByOneMore 22 = .ok (.aload_n 1, 1) := by decide +kernel
theorem dX5_winsByOneMore_23 : decode cX5_winsByOneMore 23 = .ok (.iload 4, 2) := by decide +kernel
theorem dX5_winsByOneMore_25 : decode cX5_winsByOneMore 25 = .ok (.invokevirtual 67, 3) := by decide +kernel
theorem dX5_winsByOneMore_28 : decode cX5_winsByOneMore 28 = .ok (.aload_n 0, 1) := by decide +kernel
theorem dX5_winsByOneMore_29 : decode cX5_winsByOneMore 29 = .ok (.getfield 37, 3) := by decide +kernel
theorem dX5_winsByOneMore_32 : decode cX5_winsByOneMore 32 = .ok (.getfield 70, 3) := by decide +kernel
theorem dX5_winsByOneMore_35 : decode cX5_winsByOneMore 35 = .ok (.iconst 2, 1) := by decide +kernel
theorem dX5_winsByOneMore_36 : decode cX5_winsByOneMore 36 = .ok (.if_icmp .ne 5, 3) := by decide +kernel
theorem dX5_winsByOneMore_39 : decode cX5_winsByOneMore 39 = .ok (.iconst 1, 1) := by decide +kernel
theorem dX5_winsByOneMore_40 : decode cX5_winsByOneMore 40 = .ok (.ireturn, 1) := by decide +kernel
theorem dX5_winsByOneMore_41 : decode cX5_winsByOneMore 41 = .ok (.iload_n 3, 1) := by decide +kernel
theorem dX5_winsByOneMore_42 : decode cX5_winsByOneMore 42 = .ok (.ifCond .eq 25, 3) := by decide +kernel
theorem dX5_winsByOneMore_45 : decode cX5_winsByOneMore 45 = .ok (.aload_n 0, 1) := by decide +kernel
theorem dX5_winsByOneMore_46 : decode cX5_winsByOneMore 46 = .ok (.getfield 37, 3) := by decide +kernel
theorem dX5_winsByOneMore_49 : decode cX5_winsByOneMore 49 = .ok (.getfield 70, 3) := by decide +kernel
theorem dX5_winsByOneMore_52 : decode cX5_winsByOneMore 52 = .ok (.iconst 1, 1) := by decide +kernel
theorem dX5_winsByOneMore_53 : decode cX5_winsByOneMore 53 = .ok (.if_icmp .ne 14, 3) := by decide +kernel
theorem dX5_winsByOneMore_56 : decode cX5_winsByOneMore 56 = .ok (.aload_n 0, 1) := by decide +kernel
theorem dX5_winsByOneMore_57 : decode cX5_winsByOneMore 57 = .ok (.aload_n 0, 1) := by decide +kernel
theorem dX5_winsByOneMore_58 : decode cX5_winsByOneMore 58 = .ok (.getfield 37, 3) := by decide +kernel
theorem dX5_winsByOneMore_61 : decode cX5_winsByOneMore 61 = .ok (.invokevirtual 80, 3) := by decide +kernel
theorem dX5_winsByOneMore_64 : decode cX5_winsByOneMore 64 = .ok (.invokevirtual 87, 3) := by decide +kernel
theorem dX5_winsByOneMore_67 : decode cX5_winsByOneMore 67 = .ok (.iinc 4 1, 3) := by decide +kernel
theorem dX5_winsByOneMore_70 : decode cX5_winsByOneMore 70 = .ok (.goto (-67), 3) := by decide +kernel
theorem dX5_winsByOneMore_73 : decode cX5_winsByOneMore 73 = .ok (.iconst 0, 1) := by decide +kernel
theorem dX5_winsByOneMore_74 : decode cX5_winsByOneMore 74 = .ok (.ireturn, 1) := by decide +kernel
theorem dX5_reachedCount_0 : decode cX5_reachedCount 0 = .ok (.iconst 0, 1) := by decide +kernel
theorem dX5_reachedCount_1 : decode cX5_reachedCount 1 = .ok (.istore_n 1, 1) := by decide +kernel
theorem dX5_reachedCount_2 : decode cX5_reachedCount 2 = .ok (.aload_n 0, 1) := by decide +kernel
theorem dX5_reachedCount_3 : decode cX5_reachedCount 3 = .ok (.getfield 18, 3) := by decide +kernel
theorem dX5_reachedCount_6 : decode cX5_reachedCount 6 = .ok (.astore_n 2, 1) := by decide +kernel
theorem dX5_reachedCount_7 : decode cX5_reachedCount 7 = .ok (.aload_n 2, 1) := by decide +kernel
theorem dX5_reachedCount_8 : decode cX5_reachedCount 8 = .ok (.arraylength, 1) := by decide +kernel
theorem dX5_reachedCount_9 : decode cX5_reachedCount 9 = .ok (.istore_n 3, 1) := by decide +kernel
theorem dX5_reachedCount_10 : decode cX5_reachedCount 10 = .ok (.iconst 0, 1) := by decide +kernel
theorem dX5_reachedCount_11 : decode cX5_reachedCount 11 = .ok (.istore 4, 2) := by decide +kernel
theorem dX5_reachedCount_13 : decode cX5_reachedCount 13 = .ok (.iload 4, 2) := by decide +kernel
theorem dX5_reachedCount_15 : decode cX5_reachedCount 15 = .ok (.iload_n 3, 1) := by decide +kernel
theorem dX5_reachedCount_16 : decode cX5_reachedCount 16 = .ok (.if_icmp .ge 23, 3) := by decide +kernel
theorem dX5_reachedCount_19 : decode cX5_reachedCount 19 = .ok (.aload_n 2, 1) := by decide +kernel
theorem dX5_reachedCount_20 : decode cX5_reachedCount 20 = .ok (.iload 4, 2) := by decide +kernel
theorem dX5_reachedCount_22 : decode cX5_reachedCount 22 = .ok (.baload, 1) := by decide +kernel
theorem dX5_reachedCount_23 : decode cX5_reachedCount 23 = .ok (.istore 5, 2) := by decide +kernel
theorem dX5_reachedCount_25 : decode cX5_reachedCount 25 = .ok (.iload 5, 2) := by decide +kernel
theorem dX5_reachedCount_27 : decode cX5_reachedCount 27 = .ok (.ifCond .eq 6, 3) := by decide +kernel
theorem dX5_reachedCount_30 : decode cX5_reachedCount 30 = .ok (.iinc 1 1, 3) := by decide +kernel
theorem dX5_reachedCount_33 : decode cX5_reachedCount 33 = .ok (.iinc 4 1, 3) := by decide +kernel
theorem dX5_reachedCount_36 : decode cX5_reachedCount 36 = .ok (.goto (-23), 3) := by decide +kernel
theorem dX5_reachedCount_39 : decode cX5_reachedCount 39 = .ok (.iload_n 1, 1) := by decide +kernel
theorem dX5_reachedCount_40 : decode cX5_reachedCount 40 = .ok (.ireturn, 1) := by decide +kernel
set_option maxRecDepth 20000 in
theorem ggX5_farthestReached_X7_isCell : GoodIn wsX5_farthestReached wsX7_isCell := goodIn_r _ [4] (by decide +kernel) (by decide +kernel)
set_option maxRecDepth 20000 in
theorem gX5_farthestReached_X7_isCell_n76 : GoodIn wsX5_farthestReached (wsX7_isCell) := ggX5_farthestReached_X7_isCell
theorem dX5_farthestReached_0 : decode cX5_farthestReached 0 = .ok (.bipush 11, 2) := by decide +kernel
theorem dX5_farthestReached_2 : decode cX5_farthestReached 2 = .ok (.istore_n 1, 1) := by decide +kernel
theorem dX5_farthestReached_3 : decode cX5_farthestReached 3 = .ok (.iload_n 1, 1) := by decide +kernel
theorem dX5_farthestReached_4 : decode cX5_farthestReached 4 = .ok (.ifCond .lt 48, 3) := by decide +kernel
theorem dX5_farthestReached_7 : decode cX5_farthestReached 7 = .ok (.iconst 0, 1) := by decide +kernel
theorem dX5_farthestReached_8 : decode cX5_farthestReached 8 = .ok (.istore_n 2, 1) := by decide +kernel
theorem dX5_farthestReached_9 : decode cX5_farthestReached 9 = .ok (.iload_n 2, 1) := by decide +kernel
theorem dX5_farthestReached_10 : decode cX5_farthestReached 10 = .ok (.bipush 8, 2) := by decide +kernel
theorem dX5_farthestReached_12 : decode cX5_farthestReached 12 = .ok (.if_icmp .ge 34, 3) := by decide +kernel
theorem dX5_farthestReached_15 : decode cX5_farthestReached 15 = .ok (.bipush 12, 2) := by decide +kernel
theorem dX5_farthestReached_17 : decode cX5_farthestReached 17 = .ok (.iload_n 2, 1) := by decide +kernel
theorem dX5_farthestReached_18 : decode cX5_farthestReached 18 = .ok (.imul, 1) := by decide +kernel
theorem dX5_farthestReached_19 : decode cX5_farthestReached 19 = .ok (.iload_n 1, 1) := by decide +kernel
theorem dX5_farthestReached_20 : decode cX5_farthestReached 20 = .ok (.iadd, 1) := by decide +kernel
theorem dX5_farthestReached_21 : decode cX5_farthestReached 21 = .ok (.istore_n 3, 1) := by decide +kernel
theorem dX5_farthestReached_22 : decode cX5_farthestReached 22 = .ok (.iload_n 3, 1) := by decide +kernel
theorem dX5_farthestReached_23 : decode cX5_farthestReached 23 = .ok (.invokestatic 76, 3) := by decide +kernel
theorem dX5_farthestReached_26 : decode cX5_farthestReached 26 = .ok (.ifCond .eq 14, 3) := by decide +kernel
theorem dX5_farthestReached_29 : decode cX5_farthestReached 29 = .ok (.aload_n 0, 1) := by decide +kernel
theorem dX5_farthestReached_30 : decode cX5_farthestReached 30 = .ok (.getfield 18, 3) := by decide +kernel
theorem dX5_farthestReached_33 : decode cX5_farthestReached 33 = .ok (.iload_n 3, 1) := by decide +kernel
theorem dX5_farthestReached_34 : decode cX5_farthestReached 34 = .ok (.baload, 1) := by decide +kernel
theorem dX5_farthestReached_35 : decode cX5_farthestReached 35 = .ok (.ifCond .eq 5, 3) := by decide +kernel
theorem dX5_farthestReached_38 : decode cX5_farthestReached 38 = .ok (.iload_n 3, 1) := by decide +kernel
theorem dX5_farthestReached_39 : decode cX5_farthestReached 39 = .ok (.ireturn, 1) := by decide +kernel
theorem dX5_farthestReached_40 : decode cX5_farthestReached 40 = .ok (.iinc 2 1, 3) := by decide +kernel
theorem dX5_farthestReached_43 : decode cX5_farthestReached 43 = .ok (.goto (-34), 3) := by decide +kernel
theorem dX5_farthestReached_46 : decode cX5_farthestReached 46 = .ok (.iinc 1 (-1), 3) := by decide +kernel
theorem dX5_farthestReached_49 : decode cX5_farthestReached 49 = .ok (.goto (-46), 3) := by decide +kernel
theorem dX5_farthestReached_52 : decode cX5_farthestReached 52 = .ok (.iconst (-1), 1) := by decide +kernel
theorem dX5_farthestReached_53 : decode cX5_farthestReached 53 = .ok (.ireturn, 1) := by decide +kernel
set_option maxRecDepth 20000 in
theorem ggX6_init_X1_init : GoodIn wsX6_init wsX1_init := goodIn_r _ [17, 18, 2, 3, 8, 19, 20, 21, 41, 42, 43] (by decide +kernel) (by decide +kernel)
set_option maxRecDepth 20000 in
theorem gX6_init_X1_init_n11 : GoodIn wsX6_init (wsX1_init) := ggX6_init_X1_init
set_option maxRecDepth 20000 in
theorem ggX6_init_X1_putAllOf : GoodIn wsX6_init wsX1_putAllOf := goodIn_r _ [25, 26, 27, 28, 6, 29, 19, 30, 31, 32, 33, 34, 35, 36, 37, 38, 39, 40, 20, 21, 41, 42, 43] (by decide +kernel) (by decide +kernel)
set_option maxRecDepth 20000 in
theorem gX6_init_X1_putAllOf : GoodIn wsX6_init (wsV RX6 41 RX1 yX1_putAllOf wsX1_putAllOf) := goodIn_app (goodIn_of _ (by decide +kernel)) ggX6_init_X1_putAllOf
theorem dX6_init_0 : decode cX6_init 0 = .ok (.aload_n 0, 1) := by decide +kernel
theorem dX6_init_1 : decode cX6_init 1 = .ok (.invokespecial 3, 3) := by decide +kernel
theorem dX6_init_4 : decode cX6_init 4 = .ok (.aload_n 0, 1) := by decide +kernel
theorem dX6_init_5 : decode cX6_init 5 = .ok (.new 9, 3) := by decide +kernel
theorem dX6_init_8 : decode cX6_init 8 = .ok (.dup, 1) := by decide +kernel
theorem dX6_init_9 : decode cX6_init 9 = .ok (.invokespecial 11, 3) := by decide +kernel
theorem dX6_init_12 : decode cX6_init 12 = .ok (.putfield 12, 3) := by decide +kernel
theorem dX6_init_15 : decode cX6_init 15 = .ok (.aload_n 0, 1) := by decide +kernel
theorem dX6_init_16 : decode cX6_init 16 = .ok (.bipush 6, 2) := by decide +kernel
theorem dX6_init_18 : decode cX6_init 18 = .ok (.newarray .int, 2) := by decide +kernel
theorem dX6_init_20 : decode cX6_init 20 = .ok (.putfield 18, 3) := by decide +kernel
theorem dX6_init_23 : decode cX6_init 23 = .ok (.aload_n 0, 1) := by decide +kernel
theorem dX6_init_24 : decode cX6_init 24 = .ok (.iconst (-1), 1) := by decide +kernel
theorem dX6_init_25 : decode cX6_init 25 = .ok (.putfield 22, 3) := by decide +kernel
theorem dX6_init_28 : decode cX6_init 28 = .ok (.aload_n 0, 1) := by decide +kernel
theorem dX6_init_29 : decode cX6_init 29 = .ok (.iload_n 1, 1) := by decide +kernel
theorem dX6_init_30 : decode cX6_init 30 = .ok (.putfield 26, 3) := by decide +kernel
theorem dX6_init_33 : decode cX6_init 33 = .ok (.aload_n 0, 1) := by decide +kernel
theorem dX6_init_34 : decode cX6_init 34 = .ok (.aload_n 2, 1) := by decide +kernel
theorem dX6_init_35 : decode cX6_init 35 = .ok (.getfield 29, 3) := by decide +kernel
theorem dX6_init_38 : decode cX6_init 38 = .ok (.putfield 34, 3) := by decide +kernel
theorem dX6_init_41 : decode cX6_init 41 = .ok (.aload_n 0, 1) := by decide +kernel
theorem dX6_init_42 : decode cX6_init 42 = .ok (.aload_n 2, 1) := by decide +kernel
theorem dX6_init_43 : decode cX6_init 43 = .ok (.getfield 35, 3) := by decide +kernel
theorem dX6_init_46 : decode cX6_init 46 = .ok (.putfield 39, 3) := by decide +kernel
theorem dX6_init_49 : decode cX6_init 49 = .ok (.aload_n 0, 1) := by decide +kernel
theorem dX6_init_50 : decode cX6_init 50 = .ok (.getfield 12, 3) := by decide +kernel
theorem dX6_init_53 : decode cX6_init 53 = .ok (.aload_n 2, 1) := by decide +kernel
theorem dX6_init_54 : decode cX6_init 54 = .ok (.getfield 40, 3) := by decide +kernel
theorem dX6_init_57 : decode cX6_init 57 = .ok (.invokevirtual 41, 3) := by decide +kernel
theorem dX6_init_60 : decode cX6_init 60 = .ok (.aload_n 0, 1) := by decide +kernel
theorem dX6_init_61 : decode cX6_init 61 = .ok (.aload_n 2, 1) := by decide +kernel
theorem dX6_init_62 : decode cX6_init 62 = .ok (.getfield 45, 3) := by decide +kernel
theorem dX6_init_65 : decode cX6_init 65 = .ok (.putfield 48, 3) := by decide +kernel
theorem dX6_init_68 : decode cX6_init 68 = .ok (.aload_n 0, 1) := by decide +kernel
theorem dX6_init_69 : decode cX6_init 69 = .ok (.aload_n 2, 1) := by decide +kernel
theorem dX6_init_70 : decode cX6_init 70 = .ok (.getfield 49, 3) := by decide +kernel
theorem dX6_init_73 : decode cX6_init 73 = .ok (.putfield 52, 3) := by decide +kernel
theorem dX6_init_76 : decode cX6_init 76 = .ok (.return_, 1) := by decide +kernel
theorem dX6_starSum_0 : decode cX6_starSum 0 = .ok (.iconst 0, 1) := by decide +kernel
theorem dX6_starSum_1 : decode cX6_starSum 1 = .ok (.istore_n 1, 1) := by decide +kernel
theorem dX6_starSum_2 : decode cX6_starSum 2 = .ok (.aload_n 0, 1) := by decide +kernel
theorem dX6_starSum_3 : decode cX6_starSum 3 = .ok (.getfield 18, 3) := by decide +kernel
theorem dX6_starSum_6 : decode cX6_starSum 6 = .ok (.astore_n 2, 1) := by decide +kernel
theorem dX6_starSum_7 : decode cX6_starSum 7 = .ok (.aload_n 2, 1) := by decide +kernel
theorem dX6_starSum_8 : decode cX6_starSum 8 = .ok (.arraylength, 1) := by decide +kernel
theorem dX6_starSum_9 : decode cX6_starSum 9 = .ok (.istore_n 3, 1) := by decide +kernel
theorem dX6_starSum_10 : decode cX6_starSum 10 = .ok (.iconst 0, 1) := by decide +kernel
theorem dX6_starSum_11 : decode cX6_starSum 11 = .ok (.istore 4, 2) := by decide +kernel
theorem dX6_starSum_13 : decode cX6_starSum 13 = .ok (.iload 4, 2) := by decide +kernel
theorem dX6_starSum_15 : decode cX6_starSum 15 = .ok (.iload_n 3, 1) := by decide +kernel
theorem dX6_starSum_16 : decode cX6_starSum 16 = .ok (.if_icmp .ge 20, 3) := by decide +kernel
theorem dX6_starSum_19 : decode cX6_starSum 19 = .ok (.aload_n 2, 1) := by decide +kernel
theorem dX6_starSum_20 : decode cX6_starSum 20 = .ok (.iload 4, 2) := by decide +kernel
theorem dX6_starSum_22 : decode cX6_starSum 22 = .ok (.iaload, 1) := by decide +kernel
theorem dX6_starSum_23 : decode cX6_starSum 23 = .ok (.istore 5, 2) := by decide +kernel
theorem dX6_starSum_25 : decode cX6_starSum 25 = .ok (.iload_n 1, 1) := by decide +kernel
theorem dX6_starSum_26 : decode cX6_starSum 26 = .ok (.iload 5, 2) := by decide +kernel
theorem dX6_starSum_28 : decode cX6_starSum 28 = .ok (.iadd, 1) := by decide +kernel
theorem dX6_starSum_29 : decode cX6_starSum 29 = .ok (.istore_n 1, 1) := by decide +kernel
theorem dX6_starSum_30 : decode cX6_starSum 30 = .ok (.iinc 4 1, 3) := by decide +kernel
theorem dX6_starSum_33 : decode cX6_starSum 33 = .ok (.goto (-20), 3) := by decide +kernel
theorem dX6_starSum_36 : decode cX6_starSum 36 = .ok (.iload_n 1, 1) := by decide +kernel
theorem dX6_starSum_37 : decode cX6_starSum 37 = .ok (.ireturn, 1) := by decide +kernel
theorem dX6_comesFrom_0 : decode cX6_comesFrom 0 = .ok (.aload_n 0, 1) := by decide +kernel
theorem dX6_comesFrom_1 : decode cX6_comesFrom 1 = .ok (.astore_n 2, 1) := by decide +kernel
theorem dX6_comesFrom_2 : decode cX6_comesFrom 2 = .ok (.aload_n 2, 1) := by decide +kernel
theorem dX6_comesFrom_3 : decode cX6_comesFrom 3 = .ok (.ifnull 18, 3) := by decide +kernel
theorem dX6_comesFrom_6 : decode cX6_comesFrom 6 = .ok (.aload_n 2, 1) := by decide +kernel
theorem dX6_comesFrom_7 : decode cX6_comesFrom 7 = .ok (.aload_n 1, 1) := by decide +kernel
theorem dX6_comesFrom_8 : decode cX6_comesFrom 8 = .ok (.if_acmp .ne 5, 3) := by decide +kernel
theorem dX6_comesFrom_11 : decode cX6_comesFrom 11 = .ok (.iconst 1, 1) := by decide +kernel
theorem dX6_comesFrom_12 : decode cX6_comesFrom 12 = .ok (.ireturn, 1) := by decide +kernel
theorem dX6_comesFrom_13 : decode cX6_comesFrom 13 = .ok (.aload_n 2, 1) := by decide +kernel
theorem dX6_comesFrom_14 : decode cX6_comesFrom 14 = .ok (.getfield 39, 3) := by decide +kernel
theorem dX6_comesFrom_17 : decode cX6_comesFrom 17 = .ok (.astore_n 2, 1) := by decide +kernel
theorem dX6_comesFrom_18 : decode cX6_comesFrom 18 = .ok (.goto (-16), 3) := by decide +kernel
theorem dX6_comesFrom_21 : decode cX6_comesFrom 21 = .ok (.iconst 0, 1) := by decide +kernel
theorem dX6_comesFrom_22 : decode cX6_comesFrom 22 = .ok (.ireturn, 1) := by decide +kernel
theorem dX6_comesFromWorkBy_0 : decode cX6_comesFromWorkBy 0 = .ok (.aload_n 0, 1) := by decide +kernel
theorem dX6_comesFromWorkBy_1 : decode cX6_comesFromWorkBy 1 = .ok (.astore_n 2, 1) := by decide +kernel
theorem dX6_comesFromWorkBy_2 : decode cX6_comesFromWorkBy 2 = .ok (.aload_n 2, 1) := by decide +kernel
theorem dX6_comesFromWorkBy_3 : decode cX6_comesFromWorkBy 3 = .ok (.ifnull 21, 3) := by decide +kernel
theorem dX6_comesFromWorkBy_6 : decode cX6_comesFromWorkBy 6 = .ok (.aload_n 2, 1) := by decide +kernel
theorem dX6_comesFromWorkBy_7 : decode cX6_comesFromWorkBy 7 = .ok (.getfield 34, 3) := by decide +kernel
theorem dX6_comesFromWorkBy_10 : decode cX6_comesFromWorkBy 10 = .ok (.iload_n 1, 1) := by decide +kernel
theorem dX6_comesFromWorkBy_11 : decode cX6_comesFromWorkBy 11 = .ok (.if_icmp .ne 5, 3) := by decide +kernel
theorem dX6_comesFromWorkBy_14 : decode cX6_comesFromWorkBy 14 = .ok (.iconst 1, 1) := by decide +kernel
theorem dX6_comesFromWorkBy_15 : decode cX6_comesFromWorkBy 15 = .ok (.ireturn, 1) := by decide +kernel
theorem dX6_comesFromWorkBy_16 : decode cX6_comesFromWorkBy 16 = .ok (.aload_n 2, 1) := by decide +kernel
theorem dX6_comesFromWorkBy_17 : decode cX6_comesFromWorkBy 17 = .ok (.getfield 39, 3) := by decide +kernel
theorem dX6_comesFromWorkBy_20 : decode cX6_comesFromWorkBy 20 = .ok (.astore_n 2, 1) := by decide +kernel
theorem dX6_comesFromWorkBy_21 : decode cX6_comesFromWorkBy 21 = .ok (.goto (-19), 3) := by decide +kernel
theorem dX6_comesFromWorkBy_24 : decode cX6_comesFromWorkBy 24 = .ok (.iconst 0, 1) := by decide +kernel
theorem dX6_comesFromWorkBy_25 : decode cX6_comesFromWorkBy 25 = .ok (.ireturn, 1) := by decide +kernel
theorem dX6_noteWin_0 : decode cX6_noteWin 0 = .ok (.aload_n 0, 1) := by decide +kernel
theorem dX6_noteWin_1 : decode cX6_noteWin 1 = .ok (.getfield 22, 3) := by decide +kernel
theorem dX6_noteWin_4 : decode cX6_noteWin 4 = .ok (.ifCond .lt 11, 3) := by decide +kernel
theorem dX6_noteWin_7 : decode cX6_noteWin 7 = .ok (.iload_n 1, 1) := by decide +kernel
theorem dX6_noteWin_8 : decode cX6_noteWin 8 = .ok (.aload_n 0, 1) := by decide +kernel
theorem dX6_noteWin_9 : decode cX6_noteWin 9 = .ok (.getfield 22, 3) := by decide +kernel
theorem dX6_noteWin_12 : decode cX6_noteWin 12 = .ok (.if_icmp .ge 8, 3) := by decide +kernel
theorem dX6_noteWin_15 : decode cX6_noteWin 15 = .ok (.aload_n 0, 1) := by decide +kernel
theorem dX6_noteWin_16 : decode cX6_noteWin 16 = .ok (.iload_n 1, 1) := by decide +kernel
theorem dX6_noteWin_17 : decode cX6_noteWin 17 = .ok (.putfield 22, 3) := by decide +kernel
theorem dX6_noteWin_20 : decode cX6_noteWin 20 = .ok (.return_, 1) := by decide +kernel
set_option maxRecDepth 20000 in
theorem ggX7_init_X5_init : GoodIn wsX7_init wsX5_init := goodIn_r _ [22, 23, 2, 3, 4, 24, 25, 26, 27, 28, 29, 30, 31, 32, 33, 34, 35, 36, 37, 38, 39, 40, 41, 42, 43, 61, 62, 63, 64, 65, 66, 67, 72, 73, 74, 75, 76] (by decide +kernel) (by decide +kernel)
set_option maxRecDepth 20000 in
theorem gX7_init_X5_init : GoodIn wsX7_init (wsX5_init) := ggX7_init_X5_init
set_option maxRecDepth 20000 in
theorem ggX7_init_X4_init : GoodIn wsX7_init wsX4_init := goodIn_r _ [46, 47, 2, 3, 48, 49, 50, 51, 32, 33, 52, 53, 36, 37, 38, 39, 40, 41, 42, 43, 68, 69, 70, 71, 72, 73, 74, 75, 76] (by decide +kernel) (by decide +kernel)
set_option maxRecDepth 20000 in
theorem gX7_init_X4_init : GoodIn wsX7_init (wsX4_init) := ggX7_init_X4_init
theorem dX7_init_0 : decode cX7_init 0 = .ok (.aload_n 0, 1) := by decide +kernel
theorem dX7_init_1 : decode cX7_init 1 = .ok (.invokespecial 1, 3) := by decide +kernel
theorem dX7_init_4 : decode cX7_init 4 = .ok (.aload_n 0, 1) := by decide +kernel
theorem dX7_init_5 : decode cX7_init 5 = .ok (.iconst 3, 1) := by decide +kernel
theorem dX7_init_6 : decode cX7_init 6 = .ok (.newarray .int, 2) := by decide +kernel
theorem dX7_init_8 : decode cX7_init 8 = .ok (.dup, 1) := by decide +kernel
theorem dX7_init_9 : decode cX7_init 9 = .ok (.iconst 0, 1) := by decide +kernel
theorem dX7_init_10 : decode cX7_init 10 = .ok (.iconst 2, 1) := by decide +kernel
theorem dX7_init_11 : decode cX7_init 11 = .ok (.iastore, 1) := by decide +kernel
theorem dX7_init_12 : decode cX7_init 12 = .ok (.dup, 1) := by decide +kernel
theorem dX7_init_13 : decode cX7_init 13 = .ok (.iconst 1, 1) := by decide +kernel
theorem dX7_init_14 : decode cX7_init 14 = .ok (.iconst 3, 1) := by decide +kernel
theorem dX7_init_15 : decode cX7_init 15 = .ok (.iastore, 1) := by decide +kernel
theorem dX7_init_16 : decode cX7_init 16 = .ok (.dup, 1) := by decide +kernel
theorem dX7_init_17 : decode cX7_init 17 = .ok (.iconst 2, 1) := by decide +kernel
theorem dX7_init_18 : decode cX7_init 18 = .ok (.iconst 4, 1) := by decide +kernel
theorem dX7_init_19 : decode cX7_init 19 = .ok (.iastore, 1) := by decide +kernel
theorem dX7_init_20 : decode cX7_init 20 = .ok (.putfield 7, 3) := by decide +kernel
theorem dX7_init_23 : decode cX7_init 23 = .ok (.aload_n 0, 1) := by decide +kernel
theorem dX7_init_24 : decode cX7_init 24 = .ok (.bipush 12, 2) := by decide +kernel
theorem dX7_init_26 : decode cX7_init 26 = .ok (.anewarray 13, 3) := by decide +kernel
theorem dX7_init_29 : decode cX7_init 29 = .ok (.putfield 15, 3) := by decide +kernel
theorem dX7_init_32 : decode cX7_init 32 = .ok (.aload_n 0, 1) := by decide +kernel
theorem dX7_init_33 : decode cX7_init 33 = .ok (.bipush 20, 2) := by decide +kernel
theorem dX7_init_35 : decode cX7_init 35 = .ok (.anewarray 19, 3) := by decide +kernel
theorem dX7_init_38 : decode cX7_init 38 = .ok (.putfield 21, 3) := by decide +kernel
theorem dX7_init_41 : decode cX7_init 41 = .ok (.aload_n 0, 1) := by decide +kernel
theorem dX7_init_42 : decode cX7_init 42 = .ok (.bipush 6, 2) := by decide +kernel
theorem dX7_init_44 : decode cX7_init 44 = .ok (.anewarray 25, 3) := by decide +kernel
theorem dX7_init_47 : decode cX7_init 47 = .ok (.putfield 27, 3) := by decide +kernel
theorem dX7_init_50 : decode cX7_init 50 = .ok (.aload_n 0, 1) := by decide +kernel
theorem dX7_init_51 : decode cX7_init 51 = .ok (.new 31, 3) := by decide +kernel
theorem dX7_init_54 : decode cX7_init 54 = .ok (.dup, 1) := by decide +kernel
theorem dX7_init_55 : decode cX7_init 55 = .ok (.aload_n 0, 1) := by decide +kernel
theorem dX7_init_56 : decode cX7_init 56 = .ok (.getfield 7, 3) := by decide +kernel
theorem dX7_init_59 : decode cX7_init 59 = .ok (.invokespecial 33, 3) := by decide +kernel
theorem dX7_init_62 : decode cX7_init 62 = .ok (.putfield 36, 3) := by decide +kernel
theorem dX7_init_65 : decode cX7_init 65 = .ok (.aload_n 0, 1) := by decide +kernel
theorem dX7_init_66 : decode cX7_init 66 = .ok (.iconst 0, 1) := by decide +kernel
theorem dX7_init_67 : decode cX7_init 67 = .ok (.putfield 40, 3) := by decide +kernel
theorem dX7_init_70 : decode cX7_init 70 = .ok (.aload_n 0, 1) := by decide +kernel
theorem dX7_init_71 : decode cX7_init 71 = .ok (.iconst 0, 1) := by decide +kernel
theorem dX7_init_72 : decode cX7_init 72 = .ok (.putfield 44, 3) := by decide +kernel
theorem dX7_init_75 : decode cX7_init 75 = .ok (.iconst 0, 1) := by decide +kernel
theorem dX7_init_76 : decode cX7_init 76 = .ok (.istore_n 1, 1) := by decide +kernel
theorem dX7_init_77 : decode cX7_init 77 = .ok (.iload_n 1, 1) := by decide +kernel
theorem dX7_init_78 : decode cX7_init 78 = .ok (.aload_n 0, 1) := by decide +kernel
theorem dX7_init_79 : decode cX7_init 79 = .ok (.getfield 27, 3) := by decide +kernel
theorem dX7_init_82 : decode cX7_init 82 = .ok (.arraylength, 1) := by decide +kernel
theorem dX7_init_83 : decode cX7_init 83 = .ok (.if_icmp .ge 26, 3) := by decide +kernel
theorem dX7_init_86 : decode cX7_init 86 = .ok (.aload_n 0, 1) := by decide +kernel
theorem dX7_init_87 : decode cX7_init 87 = .ok (.getfield 27, 3) := by decide +kernel
theorem dX7_init_90 : decode cX7_init 90 = .ok (.iload_n 1, 1) := by decide +kernel
theorem dX7_init_91 : decode cX7_init 91 = .ok (.new 25, 3) := by decide +kernel
theorem dX7_init_94 : decode cX7_init 94 = .ok (.dup, 1) := by decide +kernel
theorem dX7_init_95 : decode cX7_init 95 = .ok (.aload_n 0, 1) := by decide +kernel
theorem dX7_init_96 : decode cX7_init 96 = .ok (.getfield 7, 3) := by decide +kernel
theorem dX7_init_99 : decode cX7_init 99 = .ok (.invokespecial 47, 3) := by decide +kernel
theorem dX7_init_102 : decode cX7_init 102 = .ok (.aastore, 1) := by decide +kernel
theorem dX7_init_103 : decode cX7_init 103 = .ok (.iinc 1 1, 3) := by decide +kernel
theorem dX7_init_106 : decode cX7_init 106 = .ok (.goto (-29), 3) := by decide +kernel
theorem dX7_init_109 : decode cX7_init 109 = .ok (.return_, 1) := by decide +kernel
set_option maxRecDepth 20000 in
theorem ggX7_begin_X7_checkPerson : GoodIn wsX7_begin wsX7_checkPerson := goodIn_ca (goodIn_r _ [5, 6, 7] (by decide +kernel) (by decide +kernel)) (goodIn_sub (fun _ h => List.mem_cons_of_mem _ (List.mem_append_left _ (List.mem_append_right _ h))) (by decide +kernel))
set_option maxRecDepth 20000 in
theorem gX7_begin_X7_checkPerson : GoodIn wsX7_begin (va_wsS RX7 48 yX7_checkPerson wsX7_checkPerson) := goodIn_app (goodIn_of _ (by decide +kernel)) ggX7_begin_X7_checkPerson
set_option maxRecDepth 20000 in
theorem ggX7_begin_X7_addLevel : GoodIn wsX7_begin wsX7_addLevel := goodIn_ca (goodIn_r _ [11, 12, 13, 1, 14, 15, 16, 17, 18, 19, 20, 21, 22, 23, 24, 25, 26, 27, 28, 29, 30, 31, 32, 33, 34, 35, 36, 37, 38, 39, 40, 41, 42, 43, 44, 45, 46, 47, 48, 49, 50, 67, 68, 69, 70, 71, 72, 73, 61, 62, 63, 64, 65, 66, 74, 75, 76, 77, 78, 79, 80, 81] (by decide +kernel) (by decide +kernel)) (goodIn_sub (fun _ h => List.mem_cons_of_mem _ (List.mem_append_right _ h)) (by decide +kernel))
set_option maxRecDepth 20000 in
theorem gX7_begin_X7_addLevel : GoodIn wsX7_begin (wsV RX7 52 RX7 yX7_addLevel wsX7_addLevel) := goodIn_app (goodIn_of _ (by decide +kernel)) ggX7_begin_X7_addLevel
set_option maxRecDepth 20000 in
theorem ggX7_begin_X1_put : GoodIn wsX7_begin wsX1_put := goodIn_r _ [54, 40, 55, 4, 56, 57, 58, 59, 26, 60, 41, 42, 74, 75, 76] (by decide +kernel) (by decide +kernel)
set_option maxRecDepth 20000 in
theorem gX7_begin_X1_put : GoodIn wsX7_begin (wsV RX7 60 RX1 yX1_put wsX1_put) := goodIn_app (goodIn_of _ (by decide +kernel)) ggX7_begin_X1_put
theorem dX7_begin_0 : decode cX7_begin 0 = .ok (.iload_n 1, 1) := by decide +kernel
theorem dX7_begin_1 : decode cX7_begin 1 = .ok (.invokestatic 48, 3) := by decide +kernel
theorem dX7_begin_4 : decode cX7_begin 4 = .ok (.aload_n 0, 1) := by decide +kernel
theorem dX7_begin_5 : decode cX7_begin 5 = .ok (.iload_n 1, 1) := by decide +kernel
theorem dX7_begin_6 : decode cX7_begin 6 = .ok (.aconst_null, 1) := by decide +kernel
theorem dX7_begin_7 : decode cX7_begin 7 = .ok (.invokevirtual 52, 3) := by decide +kernel
theorem dX7_begin_10 : decode cX7_begin 10 = .ok (.astore_n 2, 1) := by decide +kernel
theorem dX7_begin_11 : decode cX7_begin 11 = .ok (.bipush 84, 2) := by decide +kernel
theorem dX7_begin_13 : decode cX7_begin 13 = .ok (.istore_n 3, 1) := by decide +kernel
theorem dX7_begin_14 : decode cX7_begin 14 = .ok (.iload_n 3, 1) := by decide +kernel
theorem dX7_begin_15 : decode cX7_begin 15 = .ok (.bipush 96, 2) := by decide +kernel
theorem dX7_begin_17 : decode cX7_begin 17 = .ok (.if_icmp .ge 18, 3) := by decide +kernel
theorem dX7_begin_20 : decode cX7_begin 20 = .ok (.aload_n 2, 1) := by decide +kernel
theorem dX7_begin_21 : decode cX7_begin 21 = .ok (.getfield 56, 3) := by decide +kernel
theorem dX7_begin_24 : decode cX7_begin 24 = .ok (.iload_n 3, 1) := by decide +kernel
theorem dX7_begin_25 : decode cX7_begin 25 = .ok (.iconst 1, 1) := by decide +kernel
theorem dX7_begin_26 : decode cX7_begin 26 = .ok (.invokevirtual 60, 3) := by decide +kernel
theorem dX7_begin_29 : decode cX7_begin 29 = .ok (.iinc 3 1, 3) := by decide +kernel
theorem dX7_begin_32 : decode cX7_begin 32 = .ok (.goto (-18), 3) := by decide +kernel
theorem dX7_begin_35 : decode cX7_begin 35 = .ok (.aload_n 0, 1) := by decide +kernel
theorem dX7_begin_36 : decode cX7_begin 36 = .ok (.getfield 40, 3) := by decide +kernel
theorem dX7_begin_39 : decode cX7_begin 39 = .ok (.iconst 1, 1) := by decide +kernel
theorem dX7_begin_40 : decode cX7_begin 40 = .ok (.isub, 1) := by decide +kernel
theorem dX7_begin_41 : decode cX7_begin 41 = .ok (.ireturn, 1) := by decide +kernel
set_option maxRecDepth 20000 in
theorem ggX7_set_X7_levelOf : GoodIn wsX7_set wsX7_levelOf := goodIn_ca (goodIn_r _ [9, 10, 11, 12, 73, 74, 75, 76, 77, 78, 79] (by decide +kernel) (by decide +kernel)) (goodIn_sub (fun _ h => List.mem_cons_of_mem _ (List.mem_append_right _ h)) (by decide +kernel))
set_option maxRecDepth 20000 in
theorem gX7_set_X7_levelOf : GoodIn wsX7_set (wsV RX7 66 RX7 yX7_levelOf wsX7_levelOf) := goodIn_app (goodIn_of _ (by decide +kernel)) ggX7_set_X7_levelOf
set_option maxRecDepth 20000 in
theorem ggX7_set_X7_checkCell : GoodIn wsX7_set wsX7_checkCell := goodIn_ca (goodIn_r _ [15, 10, 11, 16, 17, 8, 18] (by decide +kernel) (by decide +kernel)) (goodIn_sub (fun _ h => List.mem_cons_of_mem _ (List.mem_append_right _ h)) (by decide +kernel))
set_option maxRecDepth 20000 in
theorem gX7_set_X7_checkCell : GoodIn wsX7_set (va_wsS RX7 70 yX7_checkCell wsX7_checkCell) := goodIn_app (goodIn_of _ (by decide +kernel)) ggX7_set_X7_checkCell
set_option maxRecDepth 20000 in
theorem ggX7_set_X1_kindAt : GoodIn wsX7_set wsX1_kindAt := goodIn_r _ [23, 24, 80, 81, 82] (by decide +kernel) (by decide +kernel)
set_option maxRecDepth 20000 in
theorem gX7_set_X1_kindAt : GoodIn wsX7_set (wsV RX7 80 RX1 yX1_kindAt wsX1_kindAt) := goodIn_app (goodIn_of _ (by decide +kernel)) ggX7_set_X1_kindAt
set_option maxRecDepth 20000 in
theorem ggX7_set_X1_keyCount : GoodIn wsX7_set wsX1_keyCount := goodIn_r _ [28, 29, 30, 31, 32, 33, 34, 35, 36, 80, 81, 82] (by decide +kernel) (by decide +kernel)
set_option maxRecDepth 20000 in
theorem gX7_set_X1_keyCount : GoodIn wsX7_set (wsV RX7 84 RX1 yX1_keyCount wsX1_keyCount) := goodIn_app (goodIn_of _ (by decide +kernel)) ggX7_set_X1_keyCount
set_option maxRecDepth 20000 in
theorem ggX7_set_X2_remember : GoodIn wsX7_set wsX2_remember := goodIn_r _ [41, 42, 43, 44, 45, 46, 47, 48, 49, 40, 50, 83, 84, 85, 86, 87] (by decide +kernel) (by decide +kernel)
set_option maxRecDepth 20000 in
theorem gX7_set_X2_remember : GoodIn wsX7_set (wsV RX7 97 RX2 yX2_remember wsX2_remember) := goodIn_app (goodIn_of _ (by decide +kernel)) ggX7_set_X2_remember
set_option maxRecDepth 20000 in
theorem ggX7_set_X3_putAnew : GoodIn wsX7_set wsX3_putAnew := goodIn_r _ [55, 56, 57, 58, 59, 60, 22, 61, 24, 17, 8, 18, 62, 63, 64, 65, 66, 29, 67, 68, 69, 70, 71, 72, 80, 81, 82] (by decide +kernel) (by decide +kernel)
set_option maxRecDepth 20000 in
theorem gX7_set_X3_putAnew : GoodIn wsX7_set (wsV RX7 103 RX3 yX3_putAnew wsX3_putAnew) := goodIn_app (goodIn_of _ (by decide +kernel)) ggX7_set_X3_putAnew
theorem dX7_set_0 : decode cX7_set 0 = .ok (.aload_n 0, 1) := by decide +kernel
theorem dX7_set_1 : decode cX7_set 1 = .ok (.iload_n 1, 1) := by decide +kernel
theorem dX7_set_2 : decode cX7_set 2 = .ok (.invokevirtual 66, 3) := by decide +kernel
theorem dX7_set_5 : decode cX7_set 5 = .ok (.astore 4, 2) := by decide +kernel
theorem dX7_set_7 : decode cX7_set 7 = .ok (.iload_n 2, 1) := by decide +kernel
theorem dX7_set_8 : decode cX7_set 8 = .ok (.invokestatic 70, 3) := by decide +kernel
theorem dX7_set_11 : decode cX7_set 11 = .ok (.iload_n 3, 1) := by decide +kernel
theorem dX7_set_12 : decode cX7_set 12 = .ok (.ifCond .lt 9, 3) := by decide +kernel
theorem dX7_set_15 : decode cX7_set 15 = .ok (.iload_n 3, 1) := by decide +kernel
theorem dX7_set_16 : decode cX7_set 16 = .ok (.bipush 8, 2) := by decide +kernel
theorem dX7_set_18 : decode cX7_set 18 = .ok (.if_icmp .le 13, 3) := by decide +kernel
theorem dX7_set_21 : decode cX7_set 21 = .ok (.new 73, 3) := by decide +kernel
theorem dX7_set_24 : decode cX7_set 24 = .ok (.dup, 1) := by decide +kernel
theorem dX7_set_25 : decode cX7_set 25 = .ok (.ldc 75, 2) := by decide +kernel
theorem dX7_set_27 : decode cX7_set 27 = .ok (.invokespecial 77, 3) := by decide +kernel
theorem dX7_set_30 : decode cX7_set 30 = .ok (.athrow, 1) := by decide +kernel
theorem dX7_set_31 : decode cX7_set 31 = .ok (.aload 4, 2) := by decide +kernel
theorem dX7_set_33 : decode cX7_set 33 = .ok (.getfield 56, 3) := by decide +kernel
theorem dX7_set_36 : decode cX7_set 36 = .ok (.iload_n 2, 1) := by decide +kernel
theorem dX7_set_37 : decode cX7_set 37 = .ok (.invokevirtual 80, 3) := by decide +kernel
theorem dX7_set_40 : decode cX7_set 40 = .ok (.istore 5, 2) := by decide +kernel
theorem dX7_set_42 : decode cX7_set 42 = .ok (.iload_n 3, 1) := by decide +kernel
theorem dX7_set_43 : decode cX7_set 43 = .ok (.iconst 2, 1) := by decide +kernel
theorem dX7_set_44 : decode cX7_set 44 = .ok (.if_icmp .ne 31, 3) := by decide +kernel
theorem dX7_set_47 : decode cX7_set 47 = .ok (.iload 5, 2) := by decide +kernel
theorem dX7_set_49 : decode cX7_set 49 = .ok (.iconst 2, 1) := by decide +kernel
theorem dX7_set_50 : decode cX7_set 50 = .ok (.if_icmp .eq 25, 3) := by decide +kernel
theorem dX7_set_53 : decode cX7_set 53 = .ok (.aload 4, 2) := by decide +kernel
theorem dX7_set_55 : decode cX7_set 55 = .ok (.getfield 56, 3) := by decide +kernel
theorem dX7_set_58 : decode cX7_set 58 = .ok (.invokevirtual 84, 3) := by decide +kernel
theorem dX7_set_61 : decode cX7_set 61 = .ok (.iconst 3, 1) := by decide +kernel
theorem dX7_set_62 : decode cX7_set 62 = .ok (.if_icmp .lt 13, 3) := by decide +kernel
theorem dX7_set_65 : decode cX7_set 65 = .ok (.new 88, 3) := by decide +kernel
theorem dX7_set_68 : decode cX7_set 68 = .ok (.dup, 1) := by decide +kernel
theorem dX7_set_69 : decode cX7_set 69 = .ok (.ldc 90, 2) := by decide +kernel
theorem dX7_set_71 : decode cX7_set 71 = .ok (.invokespecial 92, 3) := by decide +kernel
theorem dX7_set_74 : decode cX7_set 74 = .ok (.athrow, 1) := by decide +kernel
theorem dX7_set_75 : decode cX7_set 75 = .ok (.aload 4, 2) := by decide +kernel
theorem dX7_set_77 : decode cX7_set 77 = .ok (.getfield 93, 3) := by decide +kernel
theorem dX7_set_80 : decode cX7_set 80 = .ok (.iload_n 2, 1) := by decide +kernel
theorem dX7_set_81 : decode cX7_set 81 = .ok (.iload 5, 2) := by decide +kernel
theorem dX7_set_83 : decode cX7_set 83 = .ok (.iload_n 3, 1) := by decide +kernel
theorem dX7_set_84 : decode cX7_set 84 = .ok (.invokevirtual 97, 3) := by decide +kernel
theorem dX7_set_87 : decode cX7_set 87 = .ok (.aload 4, 2) := by decide +kernel
theorem dX7_set_89 : decode cX7_set 89 = .ok (.iload_n 2, 1) := by decide +kernel
theorem dX7_set_90 : decode cX7_set 90 = .ok (.iload_n 3, 1) := by decide +kernel
theorem dX7_set_91 : decode cX7_set 91 = .ok (.invokevirtual 103, 3) := by decide +kernel
theorem dX7_set_94 : decode cX7_set 94 = .ok (.iload 5, 2) := by decide +kernel
theorem dX7_set_96 : decode cX7_set 96 = .ok (.ireturn, 1) := by decide +kernel
set_option maxRecDepth 20000 in
theorem ggX7_setStart_X7_levelOf : GoodIn wsX7_setStart wsX7_levelOf := goodIn_ca (goodIn_r _ [5, 6, 7, 8, 21, 22, 23, 24, 25, 26, 27] (by decide +kernel) (by decide +kernel)) (goodIn_sub (fun _ h => List.mem_cons_of_mem _ (List.mem_append_right _ h)) (by decide +kernel))
set_option maxRecDepth 20000 in
theorem gX7_setStart_X7_levelOf : GoodIn wsX7_setStart (wsV RX7 66 RX7 yX7_levelOf wsX7_levelOf) := goodIn_app (goodIn_of _ (by decide +kernel)) ggX7_setStart_X7_levelOf
set_option maxRecDepth 20000 in
theorem ggX7_setStart_X7_checkCell : GoodIn wsX7_setStart wsX7_checkCell := goodIn_ca (goodIn_r _ [11, 6, 7, 12, 13, 4, 14] (by decide +kernel) (by decide +kernel)) (goodIn_sub (fun _ h => List.mem_cons_of_mem _ (List.mem_append_right _ h)) (by decide +kernel))
set_option maxRecDepth 20000 in
theorem gX7_setStart_X7_checkCell : GoodIn wsX7_setStart (va_wsS RX7 70 yX7_checkCell wsX7_checkCell) := goodIn_app (goodIn_of _ (by decide +kernel)) ggX7_setStart_X7_checkCell
theorem dX7_setStart_0 : decode cX7_setStart 0 = .ok (.aload_n 0, 1) := by decide +kernel
theorem dX7_setStart_1 : decode cX7_setStart 1 = .ok (.iload_n 1, 1) := by decide +kernel
theorem dX7_setStart_2 : decode cX7_setStart 2 = .ok (.invokevirtual 66, 3) := by decide +kernel
theorem dX7_setStart_5 : decode cX7_setStart 5 = .ok (.astore_n 3, 1) := by decide +kernel
theorem dX7_setStart_6 : decode cX7_setStart 6 = .ok (.iload_n 2, 1) := by decide +kernel
theorem dX7_setStart_7 : decode cX7_setStart 7 = .ok (.invokestatic 70, 3) := by decide +kernel
theorem dX7_setStart_10 : decode cX7_setStart 10 = .ok (.aload_n 3, 1) := by decide +kernel
theorem dX7_setStart_11 : decode cX7_setStart 11 = .ok (.getfield 106, 3) := by decide +kernel
theorem dX7_setStart_14 : decode cX7_setStart 14 = .ok (.istore 4, 2) := by decide +kernel
theorem dX7_setStart_16 : decode cX7_setStart 16 = .ok (.aload_n 3, 1) := by decide +kernel
theorem dX7_setStart_17 : decode cX7_setStart 17 = .ok (.iload_n 2, 1) := by decide +kernel
theorem dX7_setStart_18 : decode cX7_setStart 18 = .ok (.putfield 106, 3) := by decide +kernel
theorem dX7_setStart_21 : decode cX7_setStart 21 = .ok (.aload_n 3, 1) := by decide +kernel
theorem dX7_setStart_22 : decode cX7_setStart 22 = .ok (.bipush (-2), 2) := by decide +kernel
theorem dX7_setStart_24 : decode cX7_setStart 24 = .ok (.putfield 109, 3) := by decide +kernel
theorem dX7_setStart_27 : decode cX7_setStart 27 = .ok (.iload 4, 2) := by decide +kernel
theorem dX7_setStart_29 : decode cX7_setStart 29 = .ok (.ireturn, 1) := by decide +kernel
set_option maxRecDepth 20000 in
theorem ggX7_undo_X7_levelOf : GoodIn wsX7_undo wsX7_levelOf := goodIn_ca (goodIn_r _ [7, 8, 9, 10, 64, 65, 66, 67, 68, 69, 70] (by decide +kernel) (by decide +kernel)) (goodIn_sub (fun _ h => List.mem_cons_of_mem _ (List.mem_append_right _ h)) (by decide +kernel))
set_option maxRecDepth 20000 in
theorem gX7_undo_X7_levelOf : GoodIn wsX7_undo (wsV RX7 66 RX7 yX7_levelOf wsX7_levelOf) := goodIn_app (goodIn_of _ (by decide +kernel)) ggX7_undo_X7_levelOf
set_option maxRecDepth 20000 in
theorem ggX7_undo_X2_stepBack : GoodIn wsX7_undo wsX2_stepBack := goodIn_r _ [15, 16, 17, 59, 60, 61, 62, 63] (by decide +kernel) (by decide +kernel)
set_option maxRecDepth 20000 in
theorem gX7_undo_X2_stepBack : GoodIn wsX7_undo (wsV RX7 117 RX2 yX2_stepBack wsX2_stepBack) := goodIn_app (goodIn_of _ (by decide +kernel)) ggX7_undo_X2_stepBack
set_option maxRecDepth 20000 in
theorem ggX7_undo_X2_cellOfNext : GoodIn wsX7_undo wsX2_cellOfNext := goodIn_r _ [21, 22, 16, 23, 24, 25, 14, 26, 59, 60, 61, 62, 63] (by decide +kernel) (by decide +kernel)
set_option maxRecDepth 20000 in
theorem gX7_undo_X2_cellOfNext : GoodIn wsX7_undo (wsV RX7 120 RX2 yX2_cellOfNext wsX2_cellOfNext) := goodIn_app (goodIn_of _ (by decide +kernel)) ggX7_undo_X2_cellOfNext
set_option maxRecDepth 20000 in
theorem ggX7_undo_X2_kindBeforeNext : GoodIn wsX7_undo wsX2_kindBeforeNext := goodIn_r _ [30, 31, 16, 23, 24, 25, 14, 26, 59, 60, 61, 62, 63] (by decide +kernel) (by decide +kernel)
set_option maxRecDepth 20000 in
theorem gX7_undo_X2_kindBeforeNext : GoodIn wsX7_undo (wsV RX7 123 RX2 yX2_kindBeforeNext wsX2_kindBeforeNext) := goodIn_app (goodIn_of _ (by decide +kernel)) ggX7_undo_X2_kindBeforeNext
set_option maxRecDepth 20000 in
theorem ggX7_undo_X3_putAnew : GoodIn wsX7_undo wsX3_putAnew := goodIn_r _ [36, 37, 38, 39, 40, 41, 42, 43, 44, 45, 6, 46, 47, 48, 49, 50, 51, 52, 53, 54, 55, 56, 57, 58, 71, 72, 73] (by decide +kernel) (by decide +kernel)
set_option maxRecDepth 20000 in
theorem gX7_undo_X3_putAnew : GoodIn wsX7_undo (wsV RX7 103 RX3 yX3_putAnew wsX3_putAnew) := goodIn_app (goodIn_of _ (by decide +kernel)) ggX7_undo_X3_putAnew
theorem dX7_undo_0 : decode cX7_undo 0 = .ok (.aload_n 0, 1) := by decide +kernel
theorem dX7_undo_1 : decode cX7_undo 1 = .ok (.iload_n 1, 1) := by decide +kernel
theorem dX7_undo_2 : decode cX7_undo 2 = .ok (.invokevirtual 66, 3) := by decide +kernel
theorem dX7_undo_5 : decode cX7_undo 5 = .ok (.astore_n 2, 1) := by decide +kernel
theorem dX7_undo_6 : decode cX7_undo 6 = .ok (.aload_n 2, 1) := by decide +kernel
theorem dX7_undo_7 : decode cX7_undo 7 = .ok (.getfield 93, 3) := by decide +kernel
theorem dX7_undo_10 : decode cX7_undo 10 = .ok (.astore_n 3, 1) := by decide +kernel
theorem dX7_undo_11 : decode cX7_undo 11 = .ok (.aload_n 3, 1) := by decide +kernel
theorem dX7_undo_12 : decode cX7_undo 12 = .ok (.getfield 112, 3) := by decide +kernel
theorem dX7_undo_15 : decode cX7_undo 15 = .ok (.ifCond .gt 13, 3) := by decide +kernel
theorem dX7_undo_18 : decode cX7_undo 18 = .ok (.new 88, 3) := by decide +kernel
theorem dX7_undo_21 : decode cX7_undo 21 = .ok (.dup, 1) := by decide +kernel
theorem dX7_undo_22 : decode cX7_undo 22 = .ok (.ldc 115, 2) := by decide +kernel
theorem dX7_undo_24 : decode cX7_undo 24 = .ok (.invokespecial 92, 3) := by decide +kernel
theorem dX7_undo_27 : decode cX7_undo 27 = .ok (.athrow, 1) := by decide +kernel
theorem dX7_undo_28 : decode cX7_undo 28 = .ok (.aload_n 3, 1) := by decide +kernel
theorem dX7_undo_29 : decode cX7_undo 29 = .ok (.invokevirtual 117, 3) := by decide +kernel
theorem dX7_undo_32 : decode cX7_undo 32 = .ok (.aload_n 3, 1) := by decide +kernel
theorem dX7_undo_33 : decode cX7_undo 33 = .ok (.invokevirtual 120, 3) := by decide +kernel
theorem dX7_undo_36 : decode cX7_undo 36 = .ok (.istore 4, 2) := by decide +kernel
theorem dX7_undo_38 : decode cX7_undo 38 = .ok (.aload_n 2, 1) := by decide +kernel
theorem dX7_undo_39 : decode cX7_undo 39 = .ok (.iload 4, 2) := by decide +kernel
theorem dX7_undo_41 : decode cX7_undo 41 = .ok (.aload_n 3, 1) := by decide +kernel
theorem dX7_undo_42 : decode cX7_undo 42 = .ok (.invokevirtual 123, 3) := by decide +kernel
theorem dX7_undo_45 : decode cX7_undo 45 = .ok (.invokevirtual 103, 3) := by decide +kernel
theorem dX7_undo_48 : decode cX7_undo 48 = .ok (.iload 4, 2) := by decide +kernel
theorem dX7_undo_50 : decode cX7_undo 50 = .ok (.ireturn, 1) := by decide +kernel
set_option maxRecDepth 20000 in
theorem ggX7_redo_X7_levelOf : GoodIn wsX7_redo wsX7_levelOf := goodIn_ca (goodIn_r _ [7, 8, 9, 10, 64, 65, 66, 67, 68, 69, 70] (by decide +kernel) (by decide +kernel)) (goodIn_sub (fun _ h => List.mem_cons_of_mem _ (List.mem_append_right _ h)) (by decide +kernel))
set_option maxRecDepth 20000 in
theorem gX7_redo_X7_levelOf : GoodIn wsX7_redo (wsV RX7 66 RX7 yX7_levelOf wsX7_levelOf) := goodIn_app (goodIn_of _ (by decide +kernel)) ggX7_redo_X7_levelOf
set_option maxRecDepth 20000 in
theorem ggX7_redo_X2_cellOfNext : GoodIn wsX7_redo wsX2_cellOfNext := goodIn_r _ [15, 16, 17, 18, 19, 20, 14, 21, 59, 60, 61, 62, 63] (by decide +kernel) (by decide +kernel)
set_option maxRecDepth 20000 in
theorem gX7_redo_X2_cellOfNext : GoodIn wsX7_redo (wsV RX7 120 RX2 yX2_cellOfNext wsX2_cellOfNext) := goodIn_app (goodIn_of _ (by decide +kernel)) ggX7_redo_X2_cellOfNext
set_option maxRecDepth 20000 in
theorem ggX7_redo_X2_kindAfterNext : GoodIn wsX7_redo wsX2_kindAfterNext := goodIn_r _ [25, 26, 17, 18, 19, 20, 14, 21, 59, 60, 61, 62, 63] (by decide +kernel) (by decide +kernel)
set_option maxRecDepth 20000 in
theorem gX7_redo_X2_kindAfterNext : GoodIn wsX7_redo (wsV RX7 131 RX2 yX2_kindAfterNext wsX2_kindAfterNext) := goodIn_app (goodIn_of _ (by decide +kernel)) ggX7_redo_X2_kindAfterNext
set_option maxRecDepth 20000 in
theorem ggX7_redo_X3_putAnew : GoodIn wsX7_redo wsX3_putAnew := goodIn_r _ [31, 32, 33, 34, 35, 36, 37, 38, 39, 40, 6, 41, 42, 43, 44, 45, 46, 47, 53, 54, 55, 56, 57, 58, 71, 72, 73] (by decide +kernel) (by decide +kernel)
set_option maxRecDepth 20000 in
theorem gX7_redo_X3_putAnew : GoodIn wsX7_redo (wsV RX7 103 RX3 yX3_putAnew wsX3_putAnew) := goodIn_app (goodIn_of _ (by decide +kernel)) ggX7_redo_X3_putAnew
set_option maxRecDepth 20000 in
theorem ggX7_redo_X2_stepOn : GoodIn wsX7_redo wsX2_stepOn := goodIn_r _ [51, 17, 52, 59, 60, 61, 62, 63] (by decide +kernel) (by decide +kernel)
set_option maxRecDepth 20000 in
theorem gX7_redo_X2_stepOn : GoodIn wsX7_redo (wsV RX7 134 RX2 yX2_stepOn wsX2_stepOn) := goodIn_app (goodIn_of _ (by decide +kernel)) ggX7_redo_X2_stepOn
theorem dX7_redo_0 : decode cX7_redo 0 = .ok (.aload_n 0, 1) := by decide +kernel
theorem dX7_redo_1 : decode cX7_redo 1 = .ok (.iload_n 1, 1) := by decide +kernel
theorem dX7_redo_2 : decode cX7_redo 2 = .ok (.invokevirtual 66, 3) := by decide +kernel
theorem dX7_redo_5 : decode cX7_redo 5 = .ok (.astore_n 2, 1) := by decide +kernel
theorem dX7_redo_6 : decode cX7_redo 6 = .ok (.aload_n 2, 1) := by decide +kernel
theorem dX7_redo_7 : decode cX7_redo 7 = .ok (.getfield 93, 3) := by decide +kernel
theorem dX7_redo_10 : decode cX7_redo 10 = .ok (.astore_n 3, 1) := by decide +kernel
theorem dX7_redo_11 : decode cX7_redo 11 = .ok (.aload_n 3, 1) := by decide +kernel
theorem dX7_redo_12 : decode cX7_redo 12 = .ok (.getfield 126, 3) := by decide +kernel
theorem dX7_redo_15 : decode cX7_redo 15 = .ok (.ifCond .gt 13, 3) := by decide +kernel
theorem dX7_redo_18 : decode cX7_redo 18 = .ok (.new 88, 3) := by decide +kernel
theorem dX7_redo_21 : decode cX7_redo 21 = .ok (.dup, 1) := by decide +kernel
theorem dX7_redo_22 : decode cX7_redo 22 = .ok (.ldc 129, 2) := by decide +kernel
theorem dX7_redo_24 : decode cX7_redo 24 = .ok (.invokespecial 92, 3) := by decide +kernel
theorem dX7_redo_27 : decode cX7_redo 27 = .ok (.athrow, 1) := by decide +kernel
theorem dX7_redo_28 : decode cX7_redo 28 = .ok (.aload_n 3, 1) := by decide +kernel
theorem dX7_redo_29 : decode cX7_redo 29 = .ok (.invokevirtual 120, 3) := by decide +kernel
theorem dX7_redo_32 : decode cX7_redo 32 = .ok (.istore 4, 2) := by decide +kernel
theorem dX7_redo_34 : decode cX7_redo 34 = .ok (.aload_n 2, 1) := by decide +kernel
theorem dX7_redo_35 : decode cX7_redo 35 = .ok (.iload 4, 2) := by decide +kernel
theorem dX7_redo_37 : decode cX7_redo 37 = .ok (.aload_n 3, 1) := by decide +kernel
theorem dX7_redo_38 : decode cX7_redo 38 = .ok (.invokevirtual 131, 3) := by decide +kernel
theorem dX7_redo_41 : decode cX7_redo 41 = .ok (.invokevirtual 103, 3) := by decide +kernel
theorem dX7_redo_44 : decode cX7_redo 44 = .ok (.aload_n 3, 1) := by decide +kernel
theorem dX7_redo_45 : decode cX7_redo 45 = .ok (.invokevirtual 134, 3) := by decide +kernel
theorem dX7_redo_48 : decode cX7_redo 48 = .ok (.iload 4, 2) := by decide +kernel
theorem dX7_redo_50 : decode cX7_redo 50 = .ok (.ireturn, 1) := by decide +kernel
set_option maxRecDepth 20000 in
theorem ggX7_setSpring_X7_checkSpring : GoodIn wsX7_setSpring wsX7_checkSpring := goodIn_ca (goodIn_r _ [9, 10, 11] (by decide +kernel) (by decide +kernel)) (goodIn_sub (fun _ h => List.mem_cons_of_mem _ (List.mem_append_right _ h)) (by decide +kernel))
set_option maxRecDepth 20000 in
theorem gX7_setSpring_X7_checkSpring : GoodIn wsX7_setSpring (va_wsS RX7 137 yX7_checkSpring wsX7_checkSpring) := goodIn_app (goodIn_of _ (by decide +kernel)) ggX7_setSpring_X7_checkSpring
set_option maxRecDepth 20000 in
theorem ggX7_setSpring_X7_workOf : GoodIn wsX7_setSpring wsX7_workOf := goodIn_ca (goodIn_r _ [15, 10, 11, 16, 136, 137, 138, 139, 140, 141, 142] (by decide +kernel) (by decide +kernel)) (goodIn_sub (fun _ h => List.mem_cons_of_mem _ (List.mem_append_right _ h)) (by decide +kernel))
set_option maxRecDepth 20000 in
theorem gX7_setSpring_X7_workOf : GoodIn wsX7_setSpring (wsV RX7 142 RX7 yX7_workOf wsX7_workOf) := goodIn_app (goodIn_of _ (by decide +kernel)) ggX7_setSpring_X7_workOf
set_option maxRecDepth 20000 in
theorem ggX7_setSpring_X1_has : GoodIn wsX7_setSpring wsX1_has := goodIn_r _ [21, 22, 151, 152, 153] (by decide +kernel) (by decide +kernel)
set_option maxRecDepth 20000 in
theorem gX7_setSpring_X1_has : GoodIn wsX7_setSpring (wsV RX7 147 RX1 yX1_has wsX1_has) := goodIn_app (goodIn_of _ (by decide +kernel)) ggX7_setSpring_X1_has
set_option maxRecDepth 20000 in
theorem ggX7_setSpring_X5_explore : GoodIn wsX7_setSpring wsX5_explore := goodIn_r _ [27, 28, 29, 30, 31, 32, 33, 26, 34, 35, 36, 37, 38, 39, 40, 41, 42, 43, 44, 45, 46, 47, 48, 49, 50, 8, 51, 52, 53, 54, 20, 55, 22, 56, 57, 58, 59, 60, 61, 62, 63, 64, 65, 66, 67, 68, 69, 70, 71, 72, 73, 74, 75, 76, 77, 78, 79, 80, 81, 82, 83, 84, 85, 86, 87, 88, 89, 90, 91, 92, 93, 94, 95, 96, 97, 98, 99, 100, 101, 102, 103, 104, 105, 106, 107, 108, 109, 110, 111, 112, 113, 114, 115, 116, 154, 155, 156, 157, 158, 159, 160, 161, 162, 163, 164, 165, 151, 152, 153] (by decide +kernel) (by decide +kernel)
set_option maxRecDepth 20000 in
theorem gX7_setSpring_X5_explore : GoodIn wsX7_setSpring (wsV RX7 152 RX5 yX5_explore wsX5_explore) := goodIn_app (goodIn_of _ (by decide +kernel)) ggX7_setSpring_X5_explore
set_option maxRecDepth 20000 in
theorem ggX7_setSpring_X7_endRunsIfWithdrawn : GoodIn wsX7_setSpring wsX7_endRunsIfWithdrawn := goodIn_ca (goodIn_r _ [120, 121, 122, 123, 8, 124, 10, 11, 125, 143, 144, 145, 146, 147, 148, 149, 150, 166, 167, 168, 169, 136, 137, 138, 139, 140, 141, 142] (by decide +kernel) (by decide +kernel)) (goodIn_sub (fun _ h => List.mem_cons_of_mem _ (List.mem_append_right _ h)) (by decide +kernel))
set_option maxRecDepth 20000 in
theorem gX7_setSpring_X7_endRunsIfWithdrawn : GoodIn wsX7_setSpring (wsV RX7 159 RX7 yX7_endRunsIfWithdrawn wsX7_endRunsIfWithdrawn) := goodIn_app (goodIn_of _ (by decide +kernel)) ggX7_setSpring_X7_endRunsIfWithdrawn
set_option maxRecDepth 20000 in
theorem ggX7_setSpring_X7_voidProofsWith : GoodIn wsX7_setSpring wsX7_voidProofsWith := goodIn_ca (goodIn_r _ [129, 130, 131, 132, 133, 8, 134, 10, 11, 135, 17, 18, 19, 20, 21, 22, 136, 137, 138, 139, 140, 141, 142, 170, 171, 172, 173, 174, 175, 151, 152, 153] (by decide +kernel) (by decide +kernel)) (goodIn_sub (fun _ h => List.mem_cons_of_mem _ (List.mem_append_right _ h)) (by decide +kernel))
set_option maxRecDepth 20000 in
theorem gX7_setSpring_X7_voidProofsWith : GoodIn wsX7_setSpring (wsV RX7 163 RX7 yX7_voidProofsWith wsX7_voidProofsWith) := goodIn_app (goodIn_of _ (by decide +kernel)) ggX7_setSpring_X7_voidProofsWith
theorem dX7_setSpring_0 : decode cX7_setSpring 0 = .ok (.iload_n 1, 1) := by decide +kernel
theorem dX7_setSpring_1 : decode cX7_setSpring 1 = .ok (.invokestatic 137, 3) := by decide +kernel
theorem dX7_setSpring_4 : decode cX7_setSpring 4 = .ok (.iload_n 2, 1) := by decide +kernel
theorem dX7_setSpring_5 : decode cX7_setSpring 5 = .ok (.iconst 1, 1) := by decide +kernel
theorem dX7_setSpring_6 : decode cX7_setSpring 6 = .ok (.if_icmp .lt 8, 3) := by decide +kernel
theorem dX7_setSpring_9 : decode cX7_setSpring 9 = .ok (.iload_n 2, 1) := by decide +kernel
theorem dX7_setSpring_10 : decode cX7_setSpring 10 = .ok (.iconst 4, 1) := by decide +kernel
theorem dX7_setSpring_11 : decode cX7_setSpring 11 = .ok (.if_icmp .le 13, 3) := by decide +kernel
theorem dX7_setSpring_14 : decode cX7_setSpring 14 = .ok (.new 73, 3) := by decide +kernel
theorem dX7_setSpring_17 : decode cX7_setSpring 17 = .ok (.dup, 1) := by decide +kernel
theorem dX7_setSpring_18 : decode cX7_setSpring 18 = .ok (.ldc 140, 2) := by decide +kernel
theorem dX7_setSpring_20 : decode cX7_setSpring 20 = .ok (.invokespecial 77, 3) := by decide +kernel
theorem dX7_setSpring_23 : decode cX7_setSpring 23 = .ok (.athrow, 1) := by decide +kernel
theorem dX7_setSpring_24 : decode cX7_setSpring 24 = .ok (.aload_n 0, 1) := by decide +kernel
theorem dX7_setSpring_25 : decode cX7_setSpring 25 = .ok (.getfield 7, 3) := by decide +kernel
theorem dX7_setSpring_28 : decode cX7_setSpring 28 = .ok (.iload_n 1, 1) := by decide +kernel
theorem dX7_setSpring_29 : decode cX7_setSpring 29 = .ok (.iaload, 1) := by decide +kernel
theorem dX7_setSpring_30 : decode cX7_setSpring 30 = .ok (.iload_n 2, 1) := by decide +kernel
theorem dX7_setSpring_31 : decode cX7_setSpring 31 = .ok (.if_icmp .ne 5, 3) := by decide +kernel
theorem dX7_setSpring_34 : decode cX7_setSpring 34 = .ok (.iconst 0, 1) := by decide +kernel
theorem dX7_setSpring_35 : decode cX7_setSpring 35 = .ok (.ireturn, 1) := by decide +kernel
theorem dX7_setSpring_36 : decode cX7_setSpring 36 = .ok (.aload_n 0, 1) := by decide +kernel
theorem dX7_setSpring_37 : decode cX7_setSpring 37 = .ok (.getfield 7, 3) := by decide +kernel
theorem dX7_setSpring_40 : decode cX7_setSpring 40 = .ok (.iload_n 1, 1) := by decide +kernel
theorem dX7_setSpring_41 : decode cX7_setSpring 41 = .ok (.iload_n 2, 1) := by decide +kernel
theorem dX7_setSpring_42 : decode cX7_setSpring 42 = .ok (.iastore, 1) := by decide +kernel
theorem dX7_setSpring_43 : decode cX7_setSpring 43 = .ok (.iconst 0, 1) := by decide +kernel
theorem dX7_setSpring_44 : decode cX7_setSpring 44 = .ok (.istore_n 3, 1) := by decide +kernel
theorem dX7_setSpring_45 : decode cX7_setSpring 45 = .ok (.iload_n 3, 1) := by decide +kernel
theorem dX7_setSpring_46 : decode cX7_setSpring 46 = .ok (.aload_n 0, 1) := by decide +kernel
theorem dX7_setSpring_47 : decode cX7_setSpring 47 = .ok (.getfield 44, 3) := by decide +kernel
theorem dX7_setSpring_50 : decode cX7_setSpring 50 = .ok (.if_icmp .ge 60, 3) := by decide +kernel
theorem dX7_setSpring_53 : decode cX7_setSpring 53 = .ok (.aload_n 0, 1) := by decide +kernel
theorem dX7_setSpring_54 : decode cX7_setSpring 54 = .ok (.iload_n 3, 1) := by decide +kernel
theorem dX7_setSpring_55 : decode cX7_setSpring 55 = .ok (.invokevirtual 142, 3) := by decide +kernel
theorem dX7_setSpring_58 : decode cX7_setSpring 58 = .ok (.astore 4, 2) := by decide +kernel
theorem dX7_setSpring_60 : decode cX7_setSpring 60 = .ok (.aload 4, 2) := by decide +kernel
theorem dX7_setSpring_62 : decode cX7_setSpring 62 = .ok (.getfield 146, 3) := by decide +kernel
theorem dX7_setSpring_65 : decode cX7_setSpring 65 = .ok (.bipush 6, 2) := by decide +kernel
theorem dX7_setSpring_67 : decode cX7_setSpring 67 = .ok (.iload_n 1, 1) := by decide +kernel
theorem dX7_setSpring_68 : decode cX7_setSpring 68 = .ok (.iadd, 1) := by decide +kernel
theorem dX7_setSpring_69 : decode cX7_setSpring 69 = .ok (.invokevirtual 147, 3) := by decide +kernel
theorem dX7_setSpring_72 : decode cX7_setSpring 72 = .ok (.ifCond .eq 32, 3) := by decide +kernel
theorem dX7_setSpring_75 : decode cX7_setSpring 75 = .ok (.aload 4, 2) := by decide +kernel
theorem dX7_setSpring_77 : decode cX7_setSpring 77 = .ok (.aload_n 0, 1) := by decide +kernel
theorem dX7_setSpring_78 : decode cX7_setSpring 78 = .ok (.getfield 36, 3) := by decide +kernel
theorem dX7_setSpring_81 : decode cX7_setSpring 81 = .ok (.aload 4, 2) := by decide +kernel
theorem dX7_setSpring_83 : decode cX7_setSpring 83 = .ok (.getfield 146, 3) := by decide +kernel
theorem dX7_setSpring_86 : decode cX7_setSpring 86 = .ok (.aload 4, 2) := by decide +kernel
theorem dX7_setSpring_88 : decode cX7_setSpring 88 = .ok (.getfield 151, 3) := by decide +kernel
theorem dX7_setSpring_91 : decode cX7_setSpring 91 = .ok (.iconst 1, 1) := by decide +kernel
theorem dX7_setSpring_92 : decode cX7_setSpring 92 = .ok (.invokevirtual 152, 3) := by decide +kernel
theorem dX7_setSpring_95 : decode cX7_setSpring 95 = .ok (.putfield 156, 3) := by decide +kernel
theorem dX7_setSpring_98 : decode cX7_setSpring 98 = .ok (.aload_n 0, 1) := by decide +kernel
theorem dX7_setSpring_99 : decode cX7_setSpring 99 = .ok (.aload 4, 2) := by decide +kernel
theorem dX7_setSpring_101 : decode cX7_setSpring 101 = .ok (.invokevirtual 159, 3) := by decide +kernel
theorem dX7_setSpring_104 : decode cX7_setSpring 104 = .ok (.iinc 3 1, 3) := by decide +kernel
theorem dX7_setSpring_107 : decode cX7_setSpring 107 = .ok (.goto (-62), 3) := by decide +kernel
theorem dX7_setSpring_110 : decode cX7_setSpring 110 = .ok (.aload_n 0, 1) := by decide +kernel
theorem dX7_setSpring_111 : decode cX7_setSpring 111 = .ok (.bipush 6, 2) := by decide +kernel
theorem dX7_setSpring_113 : decode cX7_setSpring 113 = .ok (.iload_n 1, 1) := by decide +kernel
theorem dX7_setSpring_114 : decode cX7_setSpring 114 = .ok (.iadd, 1) := by decide +kernel
theorem dX7_setSpring_115 : decode cX7_setSpring 115 = .ok (.invokevirtual 163, 3) := by decide +kernel
theorem dX7_setSpring_118 : decode cX7_setSpring 118 = .ok (.ireturn, 1) := by decide +kernel
set_option maxRecDepth 20000 in
theorem ggX7_prove_X7_levelOf : GoodIn wsX7_prove wsX7_levelOf := goodIn_ca (goodIn_r _ [6, 7, 8, 9, 106, 107, 108, 109, 110, 111, 112] (by decide +kernel) (by decide +kernel)) (goodIn_sub (fun _ h => List.mem_cons_of_mem _ (List.mem_append_right _ h)) (by decide +kernel))
set_option maxRecDepth 20000 in
theorem gX7_prove_X7_levelOf : GoodIn wsX7_prove (wsV RX7 66 RX7 yX7_levelOf wsX7_levelOf) := goodIn_app (goodIn_of _ (by decide +kernel)) ggX7_prove_X7_levelOf
set_option maxRecDepth 20000 in
theorem ggX7_prove_X5_explore : GoodIn wsX7_prove wsX5_explore := goodIn_r _ [14, 15, 16, 17, 18, 19, 20, 13, 21, 22, 23, 24, 25, 26, 27, 28, 29, 30, 31, 32, 33, 34, 35, 36, 37, 5, 38, 39, 40, 41, 42, 43, 44, 45, 46, 47, 48, 49, 50, 51, 52, 53, 54, 55, 56, 57, 58, 59, 60, 61, 62, 63, 64, 65, 66, 67, 68, 69, 70, 71, 72, 73, 74, 75, 76, 77, 78, 79, 80, 81, 82, 83, 84, 85, 86, 87, 88, 89, 90, 91, 92, 93, 94, 95, 96, 97, 98, 99, 100, 101, 102, 103, 104, 105, 119, 120, 121, 122, 123, 124, 125, 126, 127, 128, 129, 130, 131, 132, 133] (by decide +kernel) (by decide +kernel)
set_option maxRecDepth 20000 in
theorem gX7_prove_X5_explore : GoodIn wsX7_prove (wsV RX7 152 RX5 yX5_explore wsX5_explore) := goodIn_app (goodIn_of _ (by decide +kernel)) ggX7_prove_X5_explore
theorem dX7_prove_0 : decode cX7_prove 0 = .ok (.aload_n 0, 1) := by decide +kernel
theorem dX7_prove_1 : decode cX7_prove 1 = .ok (.iload_n 1, 1) := by decide +kernel
theorem dX7_prove_2 : decode cX7_prove 2 = .ok (.invokevirtual 66, 3) := by decide +kernel
theorem dX7_prove_5 : decode cX7_prove 5 = .ok (.astore_n 2, 1) := by decide +kernel
theorem dX7_prove_6 : decode cX7_prove 6 = .ok (.aload_n 2, 1) := by decide +kernel
theorem dX7_prove_7 : decode cX7_prove 7 = .ok (.aload_n 0, 1) := by decide +kernel
theorem dX7_prove_8 : decode cX7_prove 8 = .ok (.getfield 36, 3) := by decide +kernel
theorem dX7_prove_11 : decode cX7_prove 11 = .ok (.aload_n 2, 1) := by decide +kernel
theorem dX7_prove_12 : decode cX7_prove 12 = .ok (.getfield 56, 3) := by decide +kernel
theorem dX7_prove_15 : decode cX7_prove 15 = .ok (.aload_n 2, 1) := by decide +kernel
theorem dX7_prove_16 : decode cX7_prove 16 = .ok (.getfield 106, 3) := by decide +kernel
theorem dX7_prove_19 : decode cX7_prove 19 = .ok (.iconst 1, 1) := by decide +kernel
theorem dX7_prove_20 : decode cX7_prove 20 = .ok (.invokevirtual 152, 3) := by decide +kernel
theorem dX7_prove_23 : decode cX7_prove 23 = .ok (.putfield 109, 3) := by decide +kernel
theorem dX7_prove_26 : decode cX7_prove 26 = .ok (.aload_n 2, 1) := by decide +kernel
theorem dX7_prove_27 : decode cX7_prove 27 = .ok (.getfield 109, 3) := by decide +kernel
theorem dX7_prove_30 : decode cX7_prove 30 = .ok (.ireturn, 1) := by decide +kernel
set_option maxRecDepth 20000 in
theorem ggX7_offer_X7_levelOf : GoodIn wsX7_offer wsX7_levelOf := goodIn_ca (goodIn_r _ [12, 13, 14, 15, 64, 65, 66, 67, 68, 69, 70] (by decide +kernel) (by decide +kernel)) (goodIn_sub (fun _ h => List.mem_cons_of_mem _ (List.mem_append_right _ h)) (by decide +kernel))
set_option maxRecDepth 20000 in
theorem gX7_offer_X7_levelOf : GoodIn wsX7_offer (wsV RX7 66 RX7 yX7_levelOf wsX7_levelOf) := goodIn_app (goodIn_of _ (by decide +kernel)) ggX7_offer_X7_levelOf
set_option maxRecDepth 20000 in
theorem ggX7_offer_X6_init : GoodIn wsX7_offer wsX6_init := goodIn_r _ [18, 19, 20, 21, 22, 23, 24, 25, 26, 27, 28, 29, 30, 31, 32, 33, 34, 35, 36, 37, 38, 39, 40, 41, 42, 43, 44, 45, 46, 47, 48, 49, 50, 51, 52, 11, 53, 54, 55, 56, 57, 79, 80, 81, 71, 72, 73, 74, 75, 76, 77, 78, 58, 59, 60, 61, 62, 63] (by decide +kernel) (by decide +kernel)
set_option maxRecDepth 20000 in
theorem gX7_offer_X6_init : GoodIn wsX7_offer (wsX6_init) := ggX7_offer_X6_init
theorem dX7_offer_0 : decode cX7_offer 0 = .ok (.aload_n 0, 1) := by decide +kernel
theorem dX7_offer_1 : decode cX7_offer 1 = .ok (.iload_n 1, 1) := by decide +kernel
theorem dX7_offer_2 : decode cX7_offer 2 = .ok (.invokevirtual 66, 3) := by decide +kernel
theorem dX7_offer_5 : decode cX7_offer 5 = .ok (.astore_n 2, 1) := by decide +kernel
theorem dX7_offer_6 : decode cX7_offer 6 = .ok (.aload_n 2, 1) := by decide +kernel
theorem dX7_offer_7 : decode cX7_offer 7 = .ok (.getfield 109, 3) := by decide +kernel
theorem dX7_offer_10 : decode cX7_offer 10 = .ok (.ifCond .ge 13, 3) := by decide +kernel
theorem dX7_offer_13 : decode cX7_offer 13 = .ok (.new 88, 3) := by decide +kernel
theorem dX7_offer_16 : decode cX7_offer 16 = .ok (.dup, 1) := by decide +kernel
theorem dX7_offer_17 : decode cX7_offer 17 = .ok (.ldc 166, 2) := by decide +kernel
theorem dX7_offer_19 : decode cX7_offer 19 = .ok (.invokespecial 92, 3) := by decide +kernel
theorem dX7_offer_22 : decode cX7_offer 22 = .ok (.athrow, 1) := by decide +kernel
theorem dX7_offer_23 : decode cX7_offer 23 = .ok (.aload_n 0, 1) := by decide +kernel
theorem dX7_offer_24 : decode cX7_offer 24 = .ok (.getfield 44, 3) := by decide +kernel
theorem dX7_offer_27 : decode cX7_offer 27 = .ok (.aload_n 0, 1) := by decide +kernel
theorem dX7_offer_28 : decode cX7_offer 28 = .ok (.getfield 21, 3) := by decide +kernel
theorem dX7_offer_31 : decode cX7_offer 31 = .ok (.arraylength, 1) := by decide +kernel
theorem dX7_offer_32 : decode cX7_offer 32 = .ok (.if_icmp .lt 13, 3) := by decide +kernel
theorem dX7_offer_35 : decode cX7_offer 35 = .ok (.new 88, 3) := by decide +kernel
theorem dX7_offer_38 : decode cX7_offer 38 = .ok (.dup, 1) := by decide +kernel
theorem dX7_offer_39 : decode cX7_offer 39 = .ok (.ldc 168, 2) := by decide +kernel
theorem dX7_offer_41 : decode cX7_offer 41 = .ok (.invokespecial 92, 3) := by decide +kernel
theorem dX7_offer_44 : decode cX7_offer 44 = .ok (.athrow, 1) := by decide +kernel
theorem dX7_offer_45 : decode cX7_offer 45 = .ok (.aload_n 0, 1) := by decide +kernel
theorem dX7_offer_46 : decode cX7_offer 46 = .ok (.getfield 21, 3) := by decide +kernel
theorem dX7_offer_49 : decode cX7_offer 49 = .ok (.aload_n 0, 1) := by decide +kernel
theorem dX7_offer_50 : decode cX7_offer 50 = .ok (.getfield 44, 3) := by decide +kernel
theorem dX7_offer_53 : decode cX7_offer 53 = .ok (.new 19, 3) := by decide +kernel
theorem dX7_offer_56 : decode cX7_offer 56 = .ok (.dup, 1) := by decide +kernel
theorem dX7_offer_57 : decode cX7_offer 57 = .ok (.aload_n 0, 1) := by decide +kernel
theorem dX7_offer_58 : decode cX7_offer 58 = .ok (.getfield 44, 3) := by decide +kernel
theorem dX7_offer_61 : decode cX7_offer 61 = .ok (.aload_n 2, 1) := by decide +kernel
theorem dX7_offer_62 : decode cX7_offer 62 = .ok (.invokespecial 170, 3) := by decide +kernel
theorem dX7_offer_65 : decode cX7_offer 65 = .ok (.aastore, 1) := by decide +kernel
theorem dX7_offer_66 : decode cX7_offer 66 = .ok (.aload_n 0, 1) := by decide +kernel
theorem dX7_offer_67 : decode cX7_offer 67 = .ok (.dup, 1) := by decide +kernel
theorem dX7_offer_68 : decode cX7_offer 68 = .ok (.getfield 44, 3) := by decide +kernel
theorem dX7_offer_71 : decode cX7_offer 71 = .ok (.iconst 1, 1) := by decide +kernel
theorem dX7_offer_72 : decode cX7_offer 72 = .ok (.iadd, 1) := by decide +kernel
theorem dX7_offer_73 : decode cX7_offer 73 = .ok (.putfield 44, 3) := by decide +kernel
theorem dX7_offer_76 : decode cX7_offer 76 = .ok (.aload_n 0, 1) := by decide +kernel
theorem dX7_offer_77 : decode cX7_offer 77 = .ok (.getfield 44, 3) := by decide +kernel
theorem dX7_offer_80 : decode cX7_offer 80 = .ok (.iconst 1, 1) := by decide +kernel
theorem dX7_offer_81 : decode cX7_offer 81 = .ok (.isub, 1) := by decide +kernel
theorem dX7_offer_82 : decode cX7_offer 82 = .ok (.ireturn, 1) := by decide +kernel
set_option maxRecDepth 20000 in
theorem ggX7_copy_X7_workOf : GoodIn wsX7_copy wsX7_workOf := goodIn_ca (goodIn_r _ [6, 7, 8, 9, 91, 92, 93, 94, 95, 96, 97] (by decide +kernel) (by decide +kernel)) (goodIn_sub (fun _ h => List.mem_cons_of_mem _ (List.mem_append_left _ (List.mem_append_right _ h))) (by decide +kernel))
set_option maxRecDepth 20000 in
theorem gX7_copy_X7_workOf : GoodIn wsX7_copy (wsV RX7 142 RX7 yX7_workOf wsX7_workOf) := goodIn_app (goodIn_of _ (by decide +kernel)) ggX7_copy_X7_workOf
set_option maxRecDepth 20000 in
theorem ggX7_copy_X7_checkPerson : GoodIn wsX7_copy wsX7_checkPerson := goodIn_ca (goodIn_r _ [12, 7, 8] (by decide +kernel) (by decide +kernel)) (goodIn_sub (fun _ h => List.mem_cons_of_mem _ (List.mem_append_left _ (List.mem_append_right _ h))) (by decide +kernel))
set_option maxRecDepth 20000 in
theorem gX7_copy_X7_checkPerson : GoodIn wsX7_copy (va_wsS RX7 48 yX7_checkPerson wsX7_checkPerson) := goodIn_app (goodIn_of _ (by decide +kernel)) ggX7_copy_X7_checkPerson
set_option maxRecDepth 20000 in
theorem ggX7_copy_X7_checkNotWithdrawn : GoodIn wsX7_copy wsX7_checkNotWithdrawn := goodIn_ca (goodIn_r _ [15, 16, 17, 83, 84, 85, 86, 87, 88, 89, 90] (by decide +kernel) (by decide +kernel)) (goodIn_sub (fun _ h => List.mem_cons_of_mem _ (List.mem_append_right _ h)) (by decide +kernel))
set_option maxRecDepth 20000 in
theorem gX7_copy_X7_checkNotWithdrawn : GoodIn wsX7_copy (va_wsS RX7 173 yX7_checkNotWithdrawn wsX7_checkNotWithdrawn) := goodIn_app (goodIn_of _ (by decide +kernel)) ggX7_copy_X7_checkNotWithdrawn
set_option maxRecDepth 20000 in
theorem ggX7_copy_X7_addLevel : GoodIn wsX7_copy wsX7_addLevel := goodIn_ca (goodIn_r _ [21, 16, 17, 1, 22, 23, 24, 25, 26, 27, 28, 29, 30, 31, 32, 33, 34, 35, 36, 37, 38, 39, 40, 41, 42, 43, 44, 45, 46, 47, 48, 49, 50, 51, 52, 53, 54, 55, 56, 57, 58, 91, 92, 93, 94, 95, 96, 97, 77, 78, 79, 80, 81, 82, 98, 99, 100, 101, 102, 103, 104, 105] (by decide +kernel) (by decide +kernel)) (goodIn_sub (fun _ h => List.mem_cons_of_mem _ (List.mem_append_right _ h)) (by decide +kernel))
set_option maxRecDepth 20000 in
theorem gX7_copy_X7_addLevel : GoodIn wsX7_copy (wsV RX7 52 RX7 yX7_addLevel wsX7_addLevel) := goodIn_app (goodIn_of _ (by decide +kernel)) ggX7_copy_X7_addLevel
set_option maxRecDepth 20000 in
theorem ggX7_copy_X1_putAllOf : GoodIn wsX7_copy wsX1_putAllOf := goodIn_r _ [62, 63, 64, 65, 34, 66, 48, 67, 68, 69, 70, 71, 5, 72, 73, 74, 75, 76, 49, 50, 98, 99, 100] (by decide +kernel) (by decide +kernel)
set_option maxRecDepth 20000 in
theorem gX7_copy_X1_putAllOf : GoodIn wsX7_copy (wsV RX7 176 RX1 yX1_putAllOf wsX1_putAllOf) := goodIn_app (goodIn_of _ (by decide +kernel)) ggX7_copy_X1_putAllOf
theorem dX7_copy_0 : decode cX7_copy 0 = .ok (.aload_n 0, 1) := by decide +kernel
theorem dX7_copy_1 : decode cX7_copy 1 = .ok (.iload_n 1, 1) := by decide +kernel
theorem dX7_copy_2 : decode cX7_copy 2 = .ok (.invokevirtual 142, 3) := by decide +kernel
theorem dX7_copy_5 : decode cX7_copy 5 = .ok (.astore_n 3, 1) := by decide +kernel
theorem dX7_copy_6 : decode cX7_copy 6 = .ok (.iload_n 2, 1) := by decide +kernel
theorem dX7_copy_7 : decode cX7_copy 7 = .ok (.invokestatic 48, 3) := by decide +kernel
theorem dX7_copy_10 : decode cX7_copy 10 = .ok (.aload_n 3, 1) := by decide +kernel
theorem dX7_copy_11 : decode cX7_copy 11 = .ok (.invokestatic 173, 3) := by decide +kernel
theorem dX7_copy_14 : decode cX7_copy 14 = .ok (.aload_n 0, 1) := by decide +kernel
theorem dX7_copy_15 : decode cX7_copy 15 = .ok (.iload_n 2, 1) := by decide +kernel
theorem dX7_copy_16 : decode cX7_copy 16 = .ok (.aload_n 3, 1) := by decide +kernel
theorem dX7_copy_17 : decode cX7_copy 17 = .ok (.invokevirtual 52, 3) := by decide +kernel
theorem dX7_copy_20 : decode cX7_copy 20 = .ok (.astore 4, 2) := by decide +kernel
theorem dX7_copy_22 : decode cX7_copy 22 = .ok (.aload 4, 2) := by decide +kernel
theorem dX7_copy_24 : decode cX7_copy 24 = .ok (.getfield 56, 3) := by decide +kernel
theorem dX7_copy_27 : decode cX7_copy 27 = .ok (.aload_n 3, 1) := by decide +kernel
theorem dX7_copy_28 : decode cX7_copy 28 = .ok (.getfield 146, 3) := by decide +kernel
theorem dX7_copy_31 : decode cX7_copy 31 = .ok (.invokevirtual 176, 3) := by decide +kernel
theorem dX7_copy_34 : decode cX7_copy 34 = .ok (.aload 4, 2) := by decide +kernel
theorem dX7_copy_36 : decode cX7_copy 36 = .ok (.aload_n 3, 1) := by decide +kernel
theorem dX7_copy_37 : decode cX7_copy 37 = .ok (.getfield 151, 3) := by decide +kernel
theorem dX7_copy_40 : decode cX7_copy 40 = .ok (.putfield 106, 3) := by decide +kernel
theorem dX7_copy_43 : decode cX7_copy 43 = .ok (.aload_n 0, 1) := by decide +kernel
theorem dX7_copy_44 : decode cX7_copy 44 = .ok (.getfield 40, 3) := by decide +kernel
theorem dX7_copy_47 : decode cX7_copy 47 = .ok (.iconst 1, 1) := by decide +kernel
theorem dX7_copy_48 : decode cX7_copy 48 = .ok (.isub, 1) := by decide +kernel
theorem dX7_copy_49 : decode cX7_copy 49 = .ok (.ireturn, 1) := by decide +kernel
set_option maxRecDepth 20000 in
theorem ggX7_star_X7_workOf : GoodIn wsX7_star wsX7_workOf := goodIn_ca (goodIn_r _ [9, 10, 11, 12, 27, 28, 29, 30, 31, 32, 33] (by decide +kernel) (by decide +kernel)) (goodIn_sub (fun _ h => List.mem_cons_of_mem _ (List.mem_append_right _ h)) (by decide +kernel))
set_option maxRecDepth 20000 in
theorem gX7_star_X7_workOf : GoodIn wsX7_star (wsV RX7 142 RX7 yX7_workOf wsX7_workOf) := goodIn_app (goodIn_of _ (by decide +kernel)) ggX7_star_X7_workOf
set_option maxRecDepth 20000 in
theorem ggX7_star_X7_checkPerson : GoodIn wsX7_star wsX7_checkPerson := goodIn_ca (goodIn_r _ [15, 10, 11] (by decide +kernel) (by decide +kernel)) (goodIn_sub (fun _ h => List.mem_cons_of_mem _ (List.mem_append_right _ h)) (by decide +kernel))
set_option maxRecDepth 20000 in
theorem gX7_star_X7_checkPerson : GoodIn wsX7_star (va_wsS RX7 48 yX7_checkPerson wsX7_checkPerson) := goodIn_app (goodIn_of _ (by decide +kernel)) ggX7_star_X7_checkPerson
set_option maxRecDepth 20000 in
theorem ggX7_star_X7_checkNotWithdrawn : GoodIn wsX7_star wsX7_checkNotWithdrawn := goodIn_ca (goodIn_r _ [18, 3, 4, 19, 20, 21, 22, 23, 24, 25, 26] (by decide +kernel) (by decide +kernel)) (goodIn_sub (fun _ h => List.mem_cons_of_mem _ (List.mem_append_left _ (List.mem_append_right _ h))) (by decide +kernel))
set_option maxRecDepth 20000 in
theorem gX7_star_X7_checkNotWithdrawn : GoodIn wsX7_star (va_wsS RX7 173 yX7_checkNotWithdrawn wsX7_checkNotWithdrawn) := goodIn_app (goodIn_of _ (by decide +kernel)) ggX7_star_X7_checkNotWithdrawn
theorem dX7_star_0 : decode cX7_star 0 = .ok (.aload_n 0, 1) := by decide +kernel
theorem dX7_star_1 : decode cX7_star 1 = .ok (.iload_n 1, 1) := by decide +kernel
theorem dX7_star_2 : decode cX7_star 2 = .ok (.invokevirtual 142, 3) := by decide +kernel
theorem dX7_star_5 : decode cX7_star 5 = .ok (.astore 4, 2) := by decide +kernel
theorem dX7_star_7 : decode cX7_star 7 = .ok (.iload_n 2, 1) := by decide +kernel
theorem dX7_star_8 : decode cX7_star 8 = .ok (.invokestatic 48, 3) := by decide +kernel
theorem dX7_star_11 : decode cX7_star 11 = .ok (.iload_n 3, 1) := by decide +kernel
theorem dX7_star_12 : decode cX7_star 12 = .ok (.iconst 1, 1) := by decide +kernel
theorem dX7_star_13 : decode cX7_star 13 = .ok (.if_icmp .lt 8, 3) := by decide +kernel
theorem dX7_star_16 : decode cX7_star 16 = .ok (.iload_n 3, 1) := by decide +kernel
theorem dX7_star_17 : decode cX7_star 17 = .ok (.iconst 5, 1) := by decide +kernel
theorem dX7_star_18 : decode cX7_star 18 = .ok (.if_icmp .le 13, 3) := by decide +kernel
theorem dX7_star_21 : decode cX7_star 21 = .ok (.new 73, 3) := by decide +kernel
theorem dX7_star_24 : decode cX7_star 24 = .ok (.dup, 1) := by decide +kernel
theorem dX7_star_25 : decode cX7_star 25 = .ok (.ldc 180, 2) := by decide +kernel
theorem dX7_star_27 : decode cX7_star 27 = .ok (.invokespecial 77, 3) := by decide +kernel
theorem dX7_star_30 : decode cX7_star 30 = .ok (.athrow, 1) := by decide +kernel
theorem dX7_star_31 : decode cX7_star 31 = .ok (.aload 4, 2) := by decide +kernel
theorem dX7_star_33 : decode cX7_star 33 = .ok (.invokestatic 173, 3) := by decide +kernel
theorem dX7_star_36 : decode cX7_star 36 = .ok (.aload 4, 2) := by decide +kernel
theorem dX7_star_38 : decode cX7_star 38 = .ok (.getfield 182, 3) := by decide +kernel
theorem dX7_star_41 : decode cX7_star 41 = .ok (.iload_n 2, 1) := by decide +kernel
theorem dX7_star_42 : decode cX7_star 42 = .ok (.if_icmp .ne 13, 3) := by decide +kernel
theorem dX7_star_45 : decode cX7_star 45 = .ok (.new 88, 3) := by decide +kernel
theorem dX7_star_48 : decode cX7_star 48 = .ok (.dup, 1) := by decide +kernel
theorem dX7_star_49 : decode cX7_star 49 = .ok (.ldc 185, 2) := by decide +kernel
theorem dX7_star_51 : decode cX7_star 51 = .ok (.invokespecial 92, 3) := by decide +kernel
theorem dX7_star_54 : decode cX7_star 54 = .ok (.athrow, 1) := by decide +kernel
theorem dX7_star_55 : decode cX7_star 55 = .ok (.aload 4, 2) := by decide +kernel
theorem dX7_star_57 : decode cX7_star 57 = .ok (.getfield 187, 3) := by decide +kernel
theorem dX7_star_60 : decode cX7_star 60 = .ok (.iload_n 2, 1) := by decide +kernel
theorem dX7_star_61 : decode cX7_star 61 = .ok (.iaload, 1) := by decide +kernel
theorem dX7_star_62 : decode cX7_star 62 = .ok (.istore 5, 2) := by decide +kernel
theorem dX7_star_64 : decode cX7_star 64 = .ok (.aload 4, 2) := by decide +kernel
theorem dX7_star_66 : decode cX7_star 66 = .ok (.getfield 187, 3) := by decide +kernel
theorem dX7_star_69 : decode cX7_star 69 = .ok (.iload_n 2, 1) := by decide +kernel
theorem dX7_star_70 : decode cX7_star 70 = .ok (.iload_n 3, 1) := by decide +kernel
theorem dX7_star_71 : decode cX7_star 71 = .ok (.iastore, 1) := by decide +kernel
theorem dX7_star_72 : decode cX7_star 72 = .ok (.iload 5, 2) := by decide +kernel
theorem dX7_star_74 : decode cX7_star 74 = .ok (.ireturn, 1) := by decide +kernel
set_option maxRecDepth 20000 in
theorem ggX7_run_X7_runOf : GoodIn wsX7_run wsX7_runOf := goodIn_ca (goodIn_r _ [5, 6, 7, 8, 68, 69, 70, 71, 72, 73, 74] (by decide +kernel) (by decide +kernel)) (goodIn_sub (fun _ h => List.mem_cons_of_mem _ (List.mem_append_left _ (List.mem_append_right _ h))) (by decide +kernel))
set_option maxRecDepth 20000 in
theorem gX7_run_X7_runOf : GoodIn wsX7_run (wsV RX7 190 RX7 yX7_runOf wsX7_runOf) := goodIn_app (goodIn_of _ (by decide +kernel)) ggX7_run_X7_runOf
set_option maxRecDepth 20000 in
theorem ggX7_run_X7_workOf : GoodIn wsX7_run wsX7_workOf := goodIn_ca (goodIn_r _ [12, 6, 7, 13, 68, 69, 70, 71, 72, 73, 74] (by decide +kernel) (by decide +kernel)) (goodIn_sub (fun _ h => List.mem_cons_of_mem _ (List.mem_append_left _ (List.mem_append_right _ h))) (by decide +kernel))
set_option maxRecDepth 20000 in
theorem gX7_run_X7_workOf : GoodIn wsX7_run (wsV RX7 142 RX7 yX7_workOf wsX7_workOf) := goodIn_app (goodIn_of _ (by decide +kernel)) ggX7_run_X7_workOf
set_option maxRecDepth 20000 in
theorem ggX7_run_X7_checkNotWithdrawn : GoodIn wsX7_run wsX7_checkNotWithdrawn := goodIn_ca (goodIn_r _ [16, 17, 18, 75, 76, 77, 78, 79, 80, 81, 82] (by decide +kernel) (by decide +kernel)) (goodIn_sub (fun _ h => List.mem_cons_of_mem _ (List.mem_append_right _ h)) (by decide +kernel))
set_option maxRecDepth 20000 in
theorem gX7_run_X7_checkNotWithdrawn : GoodIn wsX7_run (va_wsS RX7 173 yX7_checkNotWithdrawn wsX7_checkNotWithdrawn) := goodIn_app (goodIn_of _ (by decide +kernel)) ggX7_run_X7_checkNotWithdrawn
set_option maxRecDepth 20000 in
theorem ggX7_run_X4_beginOn : GoodIn wsX7_run wsX4_beginOn := goodIn_r _ [23, 24, 25, 26, 27, 28, 29, 30, 31, 32, 33, 34, 35, 36, 37, 38, 39, 40, 4, 41, 42, 43, 44, 45, 46, 47, 48, 49, 50, 51, 52, 53, 54, 55, 22, 56, 57, 58, 59, 60, 61, 62, 63, 83, 84, 85, 86, 75, 76, 77, 78, 79, 80, 81, 82, 87, 88, 89, 90, 91, 92, 93, 94] (by decide +kernel) (by decide +kernel)
set_option maxRecDepth 20000 in
theorem gX7_run_X4_beginOn : GoodIn wsX7_run (wsV RX7 194 RX4 yX4_beginOn wsX4_beginOn) := goodIn_app (goodIn_of _ (by decide +kernel)) ggX7_run_X4_beginOn
set_option maxRecDepth 20000 in
theorem ggX7_run_X4_answer : GoodIn wsX7_run wsX4_answer := goodIn_r _ [67, 57, 26, 83, 84, 85, 86, 87, 88, 89, 90, 91] (by decide +kernel) (by decide +kernel)
set_option maxRecDepth 20000 in
theorem gX7_run_X4_answer : GoodIn wsX7_run (wsV RX7 197 RX4 yX4_answer wsX4_answer) := goodIn_app (goodIn_of _ (by decide +kernel)) ggX7_run_X4_answer
theorem dX7_run_0 : decode cX7_run 0 = .ok (.aload_n 0, 1) := by decide +kernel
theorem dX7_run_1 : decode cX7_run 1 = .ok (.iload_n 1, 1) := by decide +kernel
theorem dX7_run_2 : decode cX7_run 2 = .ok (.invokevirtual 190, 3) := by decide +kernel
theorem dX7_run_5 : decode cX7_run 5 = .ok (.astore_n 3, 1) := by decide +kernel
theorem dX7_run_6 : decode cX7_run 6 = .ok (.aload_n 0, 1) := by decide +kernel
theorem dX7_run_7 : decode cX7_run 7 = .ok (.iload_n 2, 1) := by decide +kernel
theorem dX7_run_8 : decode cX7_run 8 = .ok (.invokevirtual 142, 3) := by decide +kernel
theorem dX7_run_11 : decode cX7_run 11 = .ok (.astore 4, 2) := by decide +kernel
theorem dX7_run_13 : decode cX7_run 13 = .ok (.aload 4, 2) := by decide +kernel
theorem dX7_run_15 : decode cX7_run 15 = .ok (.invokestatic 173, 3) := by decide +kernel
theorem dX7_run_18 : decode cX7_run 18 = .ok (.aload_n 3, 1) := by decide +kernel
theorem dX7_run_19 : decode cX7_run 19 = .ok (.aload 4, 2) := by decide +kernel
theorem dX7_run_21 : decode cX7_run 21 = .ok (.invokevirtual 194, 3) := by decide +kernel
theorem dX7_run_24 : decode cX7_run 24 = .ok (.aload_n 3, 1) := by decide +kernel
theorem dX7_run_25 : decode cX7_run 25 = .ok (.invokevirtual 197, 3) := by decide +kernel
theorem dX7_run_28 : decode cX7_run 28 = .ok (.ireturn, 1) := by decide +kernel
set_option maxRecDepth 20000 in
theorem ggX7_step_X7_runOf : GoodIn wsX7_step wsX7_runOf := goodIn_ca (goodIn_r _ [9, 10, 11, 12, 87, 88, 89, 90, 91, 92, 93] (by decide +kernel) (by decide +kernel)) (goodIn_sub (fun _ h => List.mem_cons_of_mem _ (List.mem_append_right _ h)) (by decide +kernel))
set_option maxRecDepth 20000 in
theorem gX7_step_X7_runOf : GoodIn wsX7_step (wsV RX7 190 RX7 yX7_runOf wsX7_runOf) := goodIn_app (goodIn_of _ (by decide +kernel)) ggX7_step_X7_runOf
set_option maxRecDepth 20000 in
theorem ggX7_step_X4_goOn : GoodIn wsX7_step wsX4_goOn := goodIn_r _ [17, 18, 19, 20, 21, 22, 23, 24, 25, 26, 27, 28, 29, 30, 31, 32, 33, 34, 35, 36, 37, 38, 39, 40, 41, 42, 43, 44, 45, 46, 47, 48, 49, 50, 51, 52, 8, 53, 54, 55, 56, 57, 58, 59, 60, 61, 62, 63, 64, 65, 66, 67, 68, 69, 70, 16, 71, 72, 73, 74, 75, 76, 77, 78, 83, 84, 85, 86, 94, 95, 96, 97, 98, 99, 100, 101, 102, 103, 104, 105, 106, 107, 108, 109] (by decide +kernel) (by decide +kernel)
set_option maxRecDepth 20000 in
theorem gX7_step_X4_goOn : GoodIn wsX7_step (wsV RX7 212 RX4 yX4_goOn wsX4_goOn) := goodIn_app (goodIn_of _ (by decide +kernel)) ggX7_step_X4_goOn
set_option maxRecDepth 20000 in
theorem ggX7_step_X4_answer : GoodIn wsX7_step wsX4_answer := goodIn_r _ [82, 72, 20, 83, 84, 85, 86, 102, 103, 104, 105, 106] (by decide +kernel) (by decide +kernel)
set_option maxRecDepth 20000 in
theorem gX7_step_X4_answer : GoodIn wsX7_step (wsV RX7 197 RX4 yX4_answer wsX4_answer) := goodIn_app (goodIn_of _ (by decide +kernel)) ggX7_step_X4_answer
theorem dX7_step_0 : decode cX7_step 0 = .ok (.aload_n 0, 1) := by decide +kernel
theorem dX7_step_1 : decode cX7_step 1 = .ok (.iload_n 1, 1) := by decide +kernel
theorem dX7_step_2 : decode cX7_step 2 = .ok (.invokevirtual 190, 3) := by decide +kernel
theorem dX7_step_5 : decode cX7_step 5 = .ok (.astore_n 3, 1) := by decide +kernel
theorem dX7_step_6 : decode cX7_step 6 = .ok (.iload_n 2, 1) := by decide +kernel
theorem dX7_step_7 : decode cX7_step 7 = .ok (.ifCond .lt 9, 3) := by decide +kernel
theorem dX7_step_10 : decode cX7_step 10 = .ok (.iload_n 2, 1) := by decide +kernel
theorem dX7_step_11 : decode cX7_step 11 = .ok (.bipush 6, 2) := by decide +kernel
theorem dX7_step_13 : decode cX7_step 13 = .ok (.if_icmp .lt 13, 3) := by decide +kernel
theorem dX7_step_16 : decode cX7_step 16 = .ok (.new 73, 3) := by decide +kernel
theorem dX7_step_19 : decode cX7_step 19 = .ok (.dup, 1) := by decide +kernel
theorem dX7_step_20 : decode cX7_step 20 = .ok (.ldc 200, 2) := by decide +kernel
theorem dX7_step_22 : decode cX7_step 22 = .ok (.invokespecial 77, 3) := by decide +kernel
theorem dX7_step_25 : decode cX7_step 25 = .ok (.athrow, 1) := by decide +kernel
theorem dX7_step_26 : decode cX7_step 26 = .ok (.aload_n 3, 1) := by decide +kernel
theorem dX7_step_27 : decode cX7_step 27 = .ok (.getfield 202, 3) := by decide +kernel
theorem dX7_step_30 : decode cX7_step 30 = .ok (.iconst 1, 1) := by decide +kernel
theorem dX7_step_31 : decode cX7_step 31 = .ok (.if_icmp .eq 13, 3) := by decide +kernel
theorem dX7_step_34 : decode cX7_step 34 = .ok (.new 88, 3) := by decide +kernel
theorem dX7_step_37 : decode cX7_step 37 = .ok (.dup, 1) := by decide +kernel
theorem dX7_step_38 : decode cX7_step 38 = .ok (.ldc 205, 2) := by decide +kernel
theorem dX7_step_40 : decode cX7_step 40 = .ok (.invokespecial 92, 3) := by decide +kernel
theorem dX7_step_43 : decode cX7_step 43 = .ok (.athrow, 1) := by decide +kernel
theorem dX7_step_44 : decode cX7_step 44 = .ok (.aload_n 3, 1) := by decide +kernel
theorem dX7_step_45 : decode cX7_step 45 = .ok (.getfield 207, 3) := by decide +kernel
theorem dX7_step_48 : decode cX7_step 48 = .ok (.sipush 200, 3) := by decide +kernel
theorem dX7_step_51 : decode cX7_step 51 = .ok (.if_icmp .lt 13, 3) := by decide +kernel
theorem dX7_step_54 : decode cX7_step 54 = .ok (.new 88, 3) := by decide +kernel
theorem dX7_step_57 : decode cX7_step 57 = .ok (.dup, 1) := by decide +kernel
theorem dX7_step_58 : decode cX7_step 58 = .ok (.ldc 210, 2) := by decide +kernel
theorem dX7_step_60 : decode cX7_step 60 = .ok (.invokespecial 92, 3) := by decide +kernel
theorem dX7_step_63 : decode cX7_step 63 = .ok (.athrow, 1) := by decide +kernel
theorem dX7_step_64 : decode cX7_step 64 = .ok (.aload_n 3, 1) := by decide +kernel
theorem dX7_step_65 : decode cX7_step 65 = .ok (.iload_n 2, 1) := by decide +kernel
theorem dX7_step_66 : decode cX7_step 66 = .ok (.invokevirtual 212, 3) := by decide +kernel
theorem dX7_step_69 : decode cX7_step 69 = .ok (.aload_n 3, 1) := by decide +kernel
theorem dX7_step_70 : decode cX7_step 70 = .ok (.invokevirtual 197, 3) := by decide +kernel
theorem dX7_step_73 : decode cX7_step 73 = .ok (.ireturn, 1) := by decide +kernel
theorem dX7_levels_0 : decode cX7_levels 0 = .ok (.aload_n 0, 1) := by decide +kernel
theorem dX7_levels_1 : decode cX7_levels 1 = .ok (.getfield 40, 3) := by decide +kernel
theorem dX7_levels_4 : decode cX7_levels 4 = .ok (.ireturn, 1) := by decide +kernel
set_option maxRecDepth 20000 in
theorem ggX7_at_X7_levelOf : GoodIn wsX7_at wsX7_levelOf := goodIn_ca (goodIn_r _ [5, 6, 7, 8, 27, 28, 29, 30, 31, 32, 33] (by decide +kernel) (by decide +kernel)) (goodIn_sub (fun _ h => List.mem_cons_of_mem _ (List.mem_append_right _ h)) (by decide +kernel))
set_option maxRecDepth 20000 in
theorem gX7_at_X7_levelOf : GoodIn wsX7_at (wsV RX7 66 RX7 yX7_levelOf wsX7_levelOf) := goodIn_app (goodIn_of _ (by decide +kernel)) ggX7_at_X7_levelOf
set_option maxRecDepth 20000 in
theorem ggX7_at_X7_checkCell : GoodIn wsX7_at wsX7_checkCell := goodIn_ca (goodIn_r _ [11, 6, 7, 12, 13, 4, 14] (by decide +kernel) (by decide +kernel)) (goodIn_sub (fun _ h => List.mem_cons_of_mem _ (List.mem_append_right _ h)) (by decide +kernel))
set_option maxRecDepth 20000 in
theorem gX7_at_X7_checkCell : GoodIn wsX7_at (va_wsS RX7 70 yX7_checkCell wsX7_checkCell) := goodIn_app (goodIn_of _ (by decide +kernel)) ggX7_at_X7_checkCell
set_option maxRecDepth 20000 in
theorem ggX7_at_X1_kindAt : GoodIn wsX7_at wsX1_kindAt := goodIn_r _ [19, 20, 34, 35, 36] (by decide +kernel) (by decide +kernel)
set_option maxRecDepth 20000 in
theorem gX7_at_X1_kindAt : GoodIn wsX7_at (wsV RX7 80 RX1 yX1_kindAt wsX1_kindAt) := goodIn_app (goodIn_of _ (by decide +kernel)) ggX7_at_X1_kindAt
theorem dX7_at_0 : decode cX7_at 0 = .ok (.aload_n 0, 1) := by decide +kernel
theorem dX7_at_1 : decode cX7_at 1 = .ok (.iload_n 1, 1) := by decide +kernel
theorem dX7_at_2 : decode cX7_at 2 = .ok (.invokevirtual 66, 3) := by decide +kernel
theorem dX7_at_5 : decode cX7_at 5 = .ok (.astore_n 3, 1) := by decide +kernel
theorem dX7_at_6 : decode cX7_at 6 = .ok (.iload_n 2, 1) := by decide +kernel
theorem dX7_at_7 : decode cX7_at 7 = .ok (.invokestatic 70, 3) := by decide +kernel
theorem dX7_at_10 : decode cX7_at 10 = .ok (.aload_n 3, 1) := by decide +kernel
theorem dX7_at_11 : decode cX7_at 11 = .ok (.getfield 56, 3) := by decide +kernel
theorem dX7_at_14 : decode cX7_at 14 = .ok (.iload_n 2, 1) := by decide +kernel
theorem dX7_at_15 : decode cX7_at 15 = .ok (.invokevirtual 80, 3) := by decide +kernel
theorem dX7_at_18 : decode cX7_at 18 = .ok (.ireturn, 1) := by decide +kernel
set_option maxRecDepth 20000 in
theorem ggX7_start_X7_levelOf : GoodIn wsX7_start wsX7_levelOf := goodIn_ca (goodIn_r _ [5, 6, 7, 8, 15, 16, 17, 18, 19, 20, 21] (by decide +kernel) (by decide +kernel)) (goodIn_sub (fun _ h => List.mem_cons_of_mem _ (List.mem_append_right _ h)) (by decide +kernel))
set_option maxRecDepth 20000 in
theorem gX7_start_X7_levelOf : GoodIn wsX7_start (wsV RX7 66 RX7 yX7_levelOf wsX7_levelOf) := goodIn_app (goodIn_of _ (by decide +kernel)) ggX7_start_X7_levelOf
theorem dX7_start_0 : decode cX7_start 0 = .ok (.aload_n 0, 1) := by decide +kernel
theorem dX7_start_1 : decode cX7_start 1 = .ok (.iload_n 1, 1) := by decide +kernel
theorem dX7_start_2 : decode cX7_start 2 = .ok (.invokevirtual 66, 3) := by decide +kernel
theorem dX7_start_5 : decode cX7_start 5 = .ok (.getfield 106, 3) := by decide +kernel
theorem dX7_start_8 : decode cX7_start 8 = .ok (.ireturn, 1) := by decide +kernel
set_option maxRecDepth 20000 in
theorem ggX7_edits_X7_levelOf : GoodIn wsX7_edits wsX7_levelOf := goodIn_ca (goodIn_r _ [5, 6, 7, 8, 20, 21, 22, 23, 24, 25, 26] (by decide +kernel) (by decide +kernel)) (goodIn_sub (fun _ h => List.mem_cons_of_mem _ (List.mem_append_right _ h)) (by decide +kernel))
set_option maxRecDepth 20000 in
theorem gX7_edits_X7_levelOf : GoodIn wsX7_edits (wsV RX7 66 RX7 yX7_levelOf wsX7_levelOf) := goodIn_app (goodIn_of _ (by decide +kernel)) ggX7_edits_X7_levelOf
theorem dX7_edits_0 : decode cX7_edits 0 = .ok (.aload_n 0, 1) := by decide +kernel
theorem dX7_edits_1 : decode cX7_edits 1 = .ok (.iload_n 1, 1) := by decide +kernel
theorem dX7_edits_2 : decode cX7_edits 2 = .ok (.invokevirtual 66, 3) := by decide +kernel
theorem dX7_edits_5 : decode cX7_edits 5 = .ok (.getfield 93, 3) := by decide +kernel
theorem dX7_edits_8 : decode cX7_edits 8 = .ok (.astore_n 3, 1) := by decide +kernel
theorem dX7_edits_9 : decode cX7_edits 9 = .ok (.iload_n 2, 1) := by decide +kernel
theorem dX7_edits_10 : decode cX7_edits 10 = .ok (.ifCond .eq 10, 3) := by decide +kernel
theorem dX7_edits_13 : decode cX7_edits 13 = .ok (.aload_n 3, 1) := by decide +kernel
theorem dX7_edits_14 : decode cX7_edits 14 = .ok (.getfield 112, 3) := by decide +kernel
theorem dX7_edits_17 : decode cX7_edits 17 = .ok (.goto 7, 3) := by decide +kernel
theorem dX7_edits_20 : decode cX7_edits 20 = .ok (.aload_n 3, 1) := by decide +kernel
theorem dX7_edits_21 : decode cX7_edits 21 = .ok (.getfield 126, 3) := by decide +kernel
theorem dX7_edits_24 : decode cX7_edits 24 = .ok (.ireturn, 1) := by decide +kernel
set_option maxRecDepth 20000 in
theorem ggX7_proof_X7_levelOf : GoodIn wsX7_proof wsX7_levelOf := goodIn_ca (goodIn_r _ [5, 6, 7, 8, 15, 16, 17, 18, 19, 20, 21] (by decide +kernel) (by decide +kernel)) (goodIn_sub (fun _ h => List.mem_cons_of_mem _ (List.mem_append_right _ h)) (by decide +kernel))
set_option maxRecDepth 20000 in
theorem gX7_proof_X7_levelOf : GoodIn wsX7_proof (wsV RX7 66 RX7 yX7_levelOf wsX7_levelOf) := goodIn_app (goodIn_of _ (by decide +kernel)) ggX7_proof_X7_levelOf
theorem dX7_proof_0 : decode cX7_proof 0 = .ok (.aload_n 0, 1) := by decide +kernel
theorem dX7_proof_1 : decode cX7_proof 1 = .ok (.iload_n 1, 1) := by decide +kernel
theorem dX7_proof_2 : decode cX7_proof 2 = .ok (.invokevirtual 66, 3) := by decide +kernel
theorem dX7_proof_5 : decode cX7_proof 5 = .ok (.getfield 109, 3) := by decide +kernel
theorem dX7_proof_8 : decode cX7_proof 8 = .ok (.ireturn, 1) := by decide +kernel
set_option maxRecDepth 20000 in
theorem ggX7_shortest_X7_levelOf : GoodIn wsX7_shortest wsX7_levelOf := goodIn_ca (goodIn_r _ [8, 9, 10, 11, 98, 99, 100, 101, 102, 103, 104] (by decide +kernel) (by decide +kernel)) (goodIn_sub (fun _ h => List.mem_cons_of_mem _ (List.mem_append_right _ h)) (by decide +kernel))
set_option maxRecDepth 20000 in
theorem gX7_shortest_X7_levelOf : GoodIn wsX7_shortest (wsV RX7 66 RX7 yX7_levelOf wsX7_levelOf) := goodIn_app (goodIn_of _ (by decide +kernel)) ggX7_shortest_X7_levelOf
set_option maxRecDepth 20000 in
theorem ggX7_shortest_X5_fewestStepsByRows : GoodIn wsX7_shortest wsX5_fewestStepsByRows := goodIn_r _ [16, 17, 18, 19, 20, 21, 15, 22, 23, 24, 25, 26, 27, 28, 29, 30, 31, 32, 33, 34, 35, 36, 37, 38, 39, 7, 40, 41, 42, 43, 44, 45, 46, 47, 48, 49, 50, 51, 52, 53, 54, 55, 56, 57, 58, 59, 60, 61, 62, 63, 64, 65, 66, 67, 68, 69, 70, 71, 72, 73, 74, 75, 76, 77, 78, 79, 80, 81, 82, 83, 84, 85, 86, 87, 88, 89, 90, 91, 92, 93, 94, 95, 96, 97, 111, 112, 113, 114, 115, 116, 117, 118, 119, 120, 121, 122, 123, 124, 125] (by decide +kernel) (by decide +kernel)
set_option maxRecDepth 20000 in
theorem gX7_shortest_X5_fewestStepsByRows : GoodIn wsX7_shortest (wsV RX7 217 RX5 yX5_fewestStepsByRows wsX5_fewestStepsByRows) := goodIn_app (goodIn_of _ (by decide +kernel)) ggX7_shortest_X5_fewestStepsByRows
theorem dX7_shortest_0 : decode cX7_shortest 0 = .ok (.aload_n 0, 1) := by decide +kernel
theorem dX7_shortest_1 : decode cX7_shortest 1 = .ok (.iload_n 1, 1) := by decide +kernel
theorem dX7_shortest_2 : decode cX7_shortest 2 = .ok (.invokevirtual 66, 3) := by decide +kernel
theorem dX7_shortest_5 : decode cX7_shortest 5 = .ok (.astore_n 3, 1) := by decide +kernel
theorem dX7_shortest_6 : decode cX7_shortest 6 = .ok (.iload_n 2, 1) := by decide +kernel
theorem dX7_shortest_7 : decode cX7_shortest 7 = .ok (.ifCond .lt 8, 3) := by decide +kernel
theorem dX7_shortest_10 : decode cX7_shortest 10 = .ok (.iload_n 2, 1) := by decide +kernel
theorem dX7_shortest_11 : decode cX7_shortest 11 = .ok (.iconst 5, 1) := by decide +kernel
theorem dX7_shortest_12 : decode cX7_shortest 12 = .ok (.if_icmp .le 13, 3) := by decide +kernel
theorem dX7_shortest_15 : decode cX7_shortest 15 = .ok (.new 73, 3) := by decide +kernel
theorem dX7_shortest_18 : decode cX7_shortest 18 = .ok (.dup, 1) := by decide +kernel
theorem dX7_shortest_19 : decode cX7_shortest 19 = .ok (.ldc 215, 2) := by decide +kernel
theorem dX7_shortest_21 : decode cX7_shortest 21 = .ok (.invokespecial 77, 3) := by decide +kernel
theorem dX7_shortest_24 : decode cX7_shortest 24 = .ok (.athrow, 1) := by decide +kernel
theorem dX7_shortest_25 : decode cX7_shortest 25 = .ok (.aload_n 0, 1) := by decide +kernel
theorem dX7_shortest_26 : decode cX7_shortest 26 = .ok (.getfield 36, 3) := by decide +kernel
theorem dX7_shortest_29 : decode cX7_shortest 29 = .ok (.aload_n 3, 1) := by decide +kernel
theorem dX7_shortest_30 : decode cX7_shortest 30 = .ok (.getfield 56, 3) := by decide +kernel
theorem dX7_shortest_33 : decode cX7_shortest 33 = .ok (.aload_n 3, 1) := by decide +kernel
theorem dX7_shortest_34 : decode cX7_shortest 34 = .ok (.getfield 106, 3) := by decide +kernel
theorem dX7_shortest_37 : decode cX7_shortest 37 = .ok (.iload_n 2, 1) := by decide +kernel
theorem dX7_shortest_38 : decode cX7_shortest 38 = .ok (.invokevirtual 217, 3) := by decide +kernel
theorem dX7_shortest_41 : decode cX7_shortest 41 = .ok (.ireturn, 1) := by decide +kernel
set_option maxRecDepth 20000 in
theorem ggX7_reach_X7_levelOf : GoodIn wsX7_reach wsX7_levelOf := goodIn_ca (goodIn_r _ [6, 7, 8, 9, 110, 111, 112, 113, 114, 115, 116] (by decide +kernel) (by decide +kernel)) (goodIn_sub (fun _ h => List.mem_cons_of_mem _ (List.mem_append_right _ h)) (by decide +kernel))
set_option maxRecDepth 20000 in
theorem gX7_reach_X7_levelOf : GoodIn wsX7_reach (wsV RX7 66 RX7 yX7_levelOf wsX7_levelOf) := goodIn_app (goodIn_of _ (by decide +kernel)) ggX7_reach_X7_levelOf
set_option maxRecDepth 20000 in
theorem ggX7_reach_X5_explore : GoodIn wsX7_reach wsX5_explore := goodIn_r _ [14, 15, 16, 17, 18, 19, 20, 13, 21, 22, 23, 24, 25, 26, 27, 28, 29, 30, 31, 32, 33, 34, 35, 36, 37, 5, 38, 39, 40, 41, 42, 43, 44, 45, 46, 47, 48, 49, 50, 51, 52, 53, 54, 55, 56, 57, 58, 59, 60, 61, 62, 63, 64, 65, 66, 67, 68, 69, 70, 71, 72, 73, 74, 75, 76, 77, 78, 79, 80, 81, 82, 83, 84, 85, 86, 87, 88, 89, 90, 91, 92, 93, 94, 95, 96, 97, 98, 99, 100, 101, 102, 103, 104, 105, 123, 124, 125, 126, 127, 128, 129, 130, 131, 132, 133, 134, 135, 136, 137] (by decide +kernel) (by decide +kernel)
set_option maxRecDepth 20000 in
theorem gX7_reach_X5_explore : GoodIn wsX7_reach (wsV RX7 152 RX5 yX5_explore wsX5_explore) := goodIn_app (goodIn_of _ (by decide +kernel)) ggX7_reach_X5_explore
set_option maxRecDepth 20000 in
theorem ggX7_reach_X5_reachedCount : GoodIn wsX7_reach wsX5_reachedCount := goodIn_r _ [109, 23, 123, 124, 125, 126, 127, 128, 129] (by decide +kernel) (by decide +kernel)
set_option maxRecDepth 20000 in
theorem gX7_reach_X5_reachedCount : GoodIn wsX7_reach (wsV RX7 221 RX5 yX5_reachedCount wsX5_reachedCount) := goodIn_app (goodIn_of _ (by decide +kernel)) ggX7_reach_X5_reachedCount
theorem dX7_reach_0 : decode cX7_reach 0 = .ok (.aload_n 0, 1) := by decide +kernel
theorem dX7_reach_1 : decode cX7_reach 1 = .ok (.iload_n 1, 1) := by decide +kernel
theorem dX7_reach_2 : decode cX7_reach 2 = .ok (.invokevirtual 66, 3) := by decide +kernel
theorem dX7_reach_5 : decode cX7_reach 5 = .ok (.astore_n 2, 1) := by decide +kernel
theorem dX7_reach_6 : decode cX7_reach 6 = .ok (.aload_n 0, 1) := by decide +kernel
theorem dX7_reach_7 : decode cX7_reach 7 = .ok (.getfield 36, 3) := by decide +kernel
theorem dX7_reach_10 : decode cX7_reach 10 = .ok (.aload_n 2, 1) := by decide +kernel
theorem dX7_reach_11 : decode cX7_reach 11 = .ok (.getfield 56, 3) := by decide +kernel
theorem dX7_reach_14 : decode cX7_reach 14 = .ok (.aload_n 2, 1) := by decide +kernel
theorem dX7_reach_15 : decode cX7_reach 15 = .ok (.getfield 106, 3) := by decide +kernel
theorem dX7_reach_18 : decode cX7_reach 18 = .ok (.iconst 0, 1) := by decide +kernel
theorem dX7_reach_19 : decode cX7_reach 19 = .ok (.invokevirtual 152, 3) := by decide +kernel
theorem dX7_reach_22 : decode cX7_reach 22 = .ok (.pop, 1) := by decide +kernel
theorem dX7_reach_23 : decode cX7_reach 23 = .ok (.aload_n 0, 1) := by decide +kernel
theorem dX7_reach_24 : decode cX7_reach 24 = .ok (.getfield 36, 3) := by decide +kernel
theorem dX7_reach_27 : decode cX7_reach 27 = .ok (.invokevirtual 221, 3) := by decide +kernel
theorem dX7_reach_30 : decode cX7_reach 30 = .ok (.ireturn, 1) := by decide +kernel
set_option maxRecDepth 20000 in
theorem ggX7_farthest_X7_levelOf : GoodIn wsX7_farthest wsX7_levelOf := goodIn_ca (goodIn_r _ [6, 7, 8, 9, 110, 111, 112, 113, 114, 115, 116] (by decide +kernel) (by decide +kernel)) (goodIn_sub (fun _ h => List.mem_cons_of_mem _ (List.mem_append_right _ h)) (by decide +kernel))
set_option maxRecDepth 20000 in
theorem gX7_farthest_X7_levelOf : GoodIn wsX7_farthest (wsV RX7 66 RX7 yX7_levelOf wsX7_levelOf) := goodIn_app (goodIn_of _ (by decide +kernel)) ggX7_farthest_X7_levelOf
set_option maxRecDepth 20000 in
theorem ggX7_farthest_X5_explore : GoodIn wsX7_farthest wsX5_explore := goodIn_r _ [14, 15, 16, 17, 18, 19, 20, 13, 21, 22, 23, 24, 25, 26, 27, 28, 29, 30, 31, 32, 33, 34, 35, 36, 37, 5, 38, 39, 40, 41, 42, 43, 44, 45, 46, 47, 48, 49, 50, 51, 52, 53, 54, 55, 56, 57, 58, 59, 60, 61, 62, 63, 64, 65, 66, 67, 68, 69, 70, 71, 72, 73, 74, 75, 76, 77, 78, 79, 80, 81, 82, 83, 84, 85, 86, 87, 88, 89, 90, 91, 92, 93, 94, 95, 96, 97, 98, 99, 100, 101, 102, 103, 104, 105, 123, 124, 125, 126, 127, 128, 129, 130, 131, 132, 133, 134, 135, 136, 137] (by decide +kernel) (by decide +kernel)
set_option maxRecDepth 20000 in
theorem gX7_farthest_X5_explore : GoodIn wsX7_farthest (wsV RX7 152 RX5 yX5_explore wsX5_explore) := goodIn_app (goodIn_of _ (by decide +kernel)) ggX7_farthest_X5_explore
set_option maxRecDepth 20000 in
theorem ggX7_farthest_X5_farthestReached : GoodIn wsX7_farthest wsX5_farthestReached := goodIn_r _ [109, 23, 37, 5, 38, 123, 124, 125, 126, 127, 128, 129] (by decide +kernel) (by decide +kernel)
set_option maxRecDepth 20000 in
theorem gX7_farthest_X5_farthestReached : GoodIn wsX7_farthest (wsV RX7 224 RX5 yX5_farthestReached wsX5_farthestReached) := goodIn_app (goodIn_of _ (by decide +kernel)) ggX7_farthest_X5_farthestReached
theorem dX7_farthest_0 : decode cX7_farthest 0 = .ok (.aload_n 0, 1) := by decide +kernel
theorem dX7_farthest_1 : decode cX7_farthest 1 = .ok (.iload_n 1, 1) := by decide +kernel
theorem dX7_farthest_2 : decode cX7_farthest 2 = .ok (.invokevirtual 66, 3) := by decide +kernel
theorem dX7_farthest_5 : decode cX7_farthest 5 = .ok (.astore_n 2, 1) := by decide +kernel
theorem dX7_farthest_6 : decode cX7_farthest 6 = .ok (.aload_n 0, 1) := by decide +kernel
theorem dX7_farthest_7 : decode cX7_farthest 7 = .ok (.getfield 36, 3) := by decide +kernel
theorem dX7_farthest_10 : decode cX7_farthest 10 = .ok (.aload_n 2, 1) := by decide +kernel
theorem dX7_farthest_11 : decode cX7_farthest 11 = .ok (.getfield 56, 3) := by decide +kernel
theorem dX7_farthest_14 : decode cX7_farthest 14 = .ok (.aload_n 2, 1) := by decide +kernel
theorem dX7_farthest_15 : decode cX7_farthest 15 = .ok (.getfield 106, 3) := by decide +kernel
theorem dX7_farthest_18 : decode cX7_farthest 18 = .ok (.iconst 0, 1) := by decide +kernel
theorem dX7_farthest_19 : decode cX7_farthest 19 = .ok (.invokevirtual 152, 3) := by decide +kernel
theorem dX7_farthest_22 : decode cX7_farthest 22 = .ok (.pop, 1) := by decide +kernel
theorem dX7_farthest_23 : decode cX7_farthest 23 = .ok (.aload_n 0, 1) := by decide +kernel
theorem dX7_farthest_24 : decode cX7_farthest 24 = .ok (.getfield 36, 3) := by decide +kernel
theorem dX7_farthest_27 : decode cX7_farthest 27 = .ok (.invokevirtual 224, 3) := by decide +kernel
theorem dX7_farthest_30 : decode cX7_farthest 30 = .ok (.ireturn, 1) := by decide +kernel
set_option maxRecDepth 20000 in
theorem ggX7_strength_X7_checkSpring : GoodIn wsX7_strength wsX7_checkSpring := goodIn_ca (goodIn_r _ [5, 6, 7] (by decide +kernel) (by decide +kernel)) (goodIn_sub (fun _ h => List.mem_cons_of_mem _ (List.mem_append_right _ h)) (by decide +kernel))
set_option maxRecDepth 20000 in
theorem gX7_strength_X7_checkSpring : GoodIn wsX7_strength (va_wsS RX7 137 yX7_checkSpring wsX7_checkSpring) := goodIn_app (goodIn_of _ (by decide +kernel)) ggX7_strength_X7_checkSpring
theorem dX7_strength_0 : decode cX7_strength 0 = .ok (.iload_n 1, 1) := by decide +kernel
theorem dX7_strength_1 : decode cX7_strength 1 = .ok (.invokestatic 137, 3) := by decide +kernel
theorem dX7_strength_4 : decode cX7_strength 4 = .ok (.aload_n 0, 1) := by decide +kernel
theorem dX7_strength_5 : decode cX7_strength 5 = .ok (.getfield 7, 3) := by decide +kernel
theorem dX7_strength_8 : decode cX7_strength 8 = .ok (.iload_n 1, 1) := by decide +kernel
theorem dX7_strength_9 : decode cX7_strength 9 = .ok (.iaload, 1) := by decide +kernel
theorem dX7_strength_10 : decode cX7_strength 10 = .ok (.ireturn, 1) := by decide +kernel
theorem dX7_works_0 : decode cX7_works 0 = .ok (.aload_n 0, 1) := by decide +kernel
theorem dX7_works_1 : decode cX7_works 1 = .ok (.getfield 44, 3) := by decide +kernel
theorem dX7_works_4 : decode cX7_works 4 = .ok (.ireturn, 1) := by decide +kernel
set_option maxRecDepth 20000 in
theorem ggX7_author_X7_workOf : GoodIn wsX7_author wsX7_workOf := goodIn_ca (goodIn_r _ [5, 6, 7, 8, 17, 18, 19, 20, 21, 22, 23] (by decide +kernel) (by decide +kernel)) (goodIn_sub (fun _ h => List.mem_cons_of_mem _ (List.mem_append_right _ h)) (by decide +kernel))
set_option maxRecDepth 20000 in
theorem gX7_author_X7_workOf : GoodIn wsX7_author (wsV RX7 142 RX7 yX7_workOf wsX7_workOf) := goodIn_app (goodIn_of _ (by decide +kernel)) ggX7_author_X7_workOf
theorem dX7_author_0 : decode cX7_author 0 = .ok (.aload_n 0, 1) := by decide +kernel
theorem dX7_author_1 : decode cX7_author 1 = .ok (.iload_n 1, 1) := by decide +kernel
theorem dX7_author_2 : decode cX7_author 2 = .ok (.invokevirtual 142, 3) := by decide +kernel
theorem dX7_author_5 : decode cX7_author 5 = .ok (.getfield 182, 3) := by decide +kernel
theorem dX7_author_8 : decode cX7_author 8 = .ok (.ireturn, 1) := by decide +kernel
set_option maxRecDepth 20000 in
theorem ggX7_best_X7_workOf : GoodIn wsX7_best wsX7_workOf := goodIn_ca (goodIn_r _ [5, 6, 7, 8, 17, 18, 19, 20, 21, 22, 23] (by decide +kernel) (by decide +kernel)) (goodIn_sub (fun _ h => List.mem_cons_of_mem _ (List.mem_append_right _ h)) (by decide +kernel))
set_option maxRecDepth 20000 in
theorem gX7_best_X7_workOf : GoodIn wsX7_best (wsV RX7 142 RX7 yX7_workOf wsX7_workOf) := goodIn_app (goodIn_of _ (by decide +kernel)) ggX7_best_X7_workOf
theorem dX7_best_0 : decode cX7_best 0 = .ok (.aload_n 0, 1) := by decide +kernel
theorem dX7_best_1 : decode cX7_best 1 = .ok (.iload_n 1, 1) := by decide +kernel
theorem dX7_best_2 : decode cX7_best 2 = .ok (.invokevirtual 142, 3) := by decide +kernel
theorem dX7_best_5 : decode cX7_best 5 = .ok (.getfield 156, 3) := by decide +kernel
theorem dX7_best_8 : decode cX7_best 8 = .ok (.ireturn, 1) := by decide +kernel
set_option maxRecDepth 20000 in
theorem ggX7_parent_X7_workOf : GoodIn wsX7_parent wsX7_workOf := goodIn_ca (goodIn_r _ [5, 6, 7, 8, 17, 18, 19, 20, 21, 22, 23] (by decide +kernel) (by decide +kernel)) (goodIn_sub (fun _ h => List.mem_cons_of_mem _ (List.mem_append_right _ h)) (by decide +kernel))
set_option maxRecDepth 20000 in
theorem gX7_parent_X7_workOf : GoodIn wsX7_parent (wsV RX7 142 RX7 yX7_workOf wsX7_workOf) := goodIn_app (goodIn_of _ (by decide +kernel)) ggX7_parent_X7_workOf
theorem dX7_parent_0 : decode cX7_parent 0 = .ok (.aload_n 0, 1) := by decide +kernel
theorem dX7_parent_1 : decode cX7_parent 1 = .ok (.iload_n 1, 1) := by decide +kernel
theorem dX7_parent_2 : decode cX7_parent 2 = .ok (.invokevirtual 142, 3) := by decide +kernel
theorem dX7_parent_5 : decode cX7_parent 5 = .ok (.getfield 227, 3) := by decide +kernel
theorem dX7_parent_8 : decode cX7_parent 8 = .ok (.astore_n 2, 1) := by decide +kernel
theorem dX7_parent_9 : decode cX7_parent 9 = .ok (.aload_n 2, 1) := by decide +kernel
theorem dX7_parent_10 : decode cX7_parent 10 = .ok (.ifnonnull 7, 3) := by decide +kernel
theorem dX7_parent_13 : decode cX7_parent 13 = .ok (.iconst (-1), 1) := by decide +kernel
theorem dX7_parent_14 : decode cX7_parent 14 = .ok (.goto 7, 3) := by decide +kernel
theorem dX7_parent_17 : decode cX7_parent 17 = .ok (.aload_n 2, 1) := by decide +kernel
theorem dX7_parent_18 : decode cX7_parent 18 = .ok (.getfield 231, 3) := by decide +kernel
theorem dX7_parent_21 : decode cX7_parent 21 = .ok (.ireturn, 1) := by decide +kernel
set_option maxRecDepth 20000 in
theorem ggX7_line_X7_workOf : GoodIn wsX7_line wsX7_workOf := goodIn_ca (goodIn_r _ [6, 7, 8, 9, 16, 17, 18, 19, 20, 21, 22] (by decide +kernel) (by decide +kernel)) (goodIn_sub (fun _ h => List.mem_cons_of_mem _ (List.mem_append_right _ h)) (by decide +kernel))
set_option maxRecDepth 20000 in
theorem gX7_line_X7_workOf : GoodIn wsX7_line (wsV RX7 142 RX7 yX7_workOf wsX7_workOf) := goodIn_app (goodIn_of _ (by decide +kernel)) ggX7_line_X7_workOf
set_option maxRecDepth 20000 in
theorem ggX7_line_X6_comesFrom : GoodIn wsX7_line wsX6_comesFrom := goodIn_r _ [14, 15, 23, 24, 25, 26, 27, 28, 29, 30] (by decide +kernel) (by decide +kernel)
set_option maxRecDepth 20000 in
theorem gX7_line_X6_comesFrom : GoodIn wsX7_line (wsV RX7 234 RX6 yX6_comesFrom wsX6_comesFrom) := goodIn_app (goodIn_of _ (by decide +kernel)) ggX7_line_X6_comesFrom
theorem dX7_line_0 : decode cX7_line 0 = .ok (.aload_n 0, 1) := by decide +kernel
theorem dX7_line_1 : decode cX7_line 1 = .ok (.iload_n 1, 1) := by decide +kernel
theorem dX7_line_2 : decode cX7_line 2 = .ok (.invokevirtual 142, 3) := by decide +kernel
theorem dX7_line_5 : decode cX7_line 5 = .ok (.astore_n 2, 1) := by decide +kernel
theorem dX7_line_6 : decode cX7_line 6 = .ok (.iconst 0, 1) := by decide +kernel
theorem dX7_line_7 : decode cX7_line 7 = .ok (.istore_n 3, 1) := by decide +kernel
theorem dX7_line_8 : decode cX7_line 8 = .ok (.iconst 0, 1) := by decide +kernel
theorem dX7_line_9 : decode cX7_line 9 = .ok (.istore 4, 2) := by decide +kernel
theorem dX7_line_11 : decode cX7_line 11 = .ok (.iload 4, 2) := by decide +kernel
theorem dX7_line_13 : decode cX7_line 13 = .ok (.aload_n 0, 1) := by decide +kernel
theorem dX7_line_14 : decode cX7_line 14 = .ok (.getfield 44, 3) := by decide +kernel
theorem dX7_line_17 : decode cX7_line 17 = .ok (.if_icmp .ge 25, 3) := by decide +kernel
theorem dX7_line_20 : decode cX7_line 20 = .ok (.aload_n 0, 1) := by decide +kernel
theorem dX7_line_21 : decode cX7_line 21 = .ok (.iload 4, 2) := by decide +kernel
theorem dX7_line_23 : decode cX7_line 23 = .ok (.invokevirtual 142, 3) := by decide +kernel
theorem dX7_line_26 : decode cX7_line 26 = .ok (.aload_n 2, 1) := by decide +kernel
theorem dX7_line_27 : decode cX7_line 27 = .ok (.invokevirtual 234, 3) := by decide +kernel
theorem dX7_line_30 : decode cX7_line 30 = .ok (.ifCond .eq 6, 3) := by decide +kernel
theorem dX7_line_33 : decode cX7_line 33 = .ok (.iinc 3 1, 3) := by decide +kernel
theorem dX7_line_36 : decode cX7_line 36 = .ok (.iinc 4 1, 3) := by decide +kernel
theorem dX7_line_39 : decode cX7_line 39 = .ok (.goto (-28), 3) := by decide +kernel
theorem dX7_line_42 : decode cX7_line 42 = .ok (.iload_n 3, 1) := by decide +kernel
theorem dX7_line_43 : decode cX7_line 43 = .ok (.ireturn, 1) := by decide +kernel
set_option maxRecDepth 20000 in
theorem ggX7_stars_X7_workOf : GoodIn wsX7_stars wsX7_workOf := goodIn_ca (goodIn_r _ [5, 6, 7, 8, 15, 16, 17, 18, 19, 20, 21] (by decide +kernel) (by decide +kernel)) (goodIn_sub (fun _ h => List.mem_cons_of_mem _ (List.mem_append_right _ h)) (by decide +kernel))
set_option maxRecDepth 20000 in
theorem gX7_stars_X7_workOf : GoodIn wsX7_stars (wsV RX7 142 RX7 yX7_workOf wsX7_workOf) := goodIn_app (goodIn_of _ (by decide +kernel)) ggX7_stars_X7_workOf
set_option maxRecDepth 20000 in
theorem ggX7_stars_X6_starSum : GoodIn wsX7_stars wsX6_starSum := goodIn_r _ [13, 14, 22, 23, 24, 25, 26, 27, 28, 29] (by decide +kernel) (by decide +kernel)
set_option maxRecDepth 20000 in
theorem gX7_stars_X6_starSum : GoodIn wsX7_stars (wsV RX7 238 RX6 yX6_starSum wsX6_starSum) := goodIn_app (goodIn_of _ (by decide +kernel)) ggX7_stars_X6_starSum
theorem dX7_stars_0 : decode cX7_stars 0 = .ok (.aload_n 0, 1) := by decide +kernel
theorem dX7_stars_1 : decode cX7_stars 1 = .ok (.iload_n 1, 1) := by decide +kernel
theorem dX7_stars_2 : decode cX7_stars 2 = .ok (.invokevirtual 142, 3) := by decide +kernel
theorem dX7_stars_5 : decode cX7_stars 5 = .ok (.invokevirtual 238, 3) := by decide +kernel
theorem dX7_stars_8 : decode cX7_stars 8 = .ok (.ireturn, 1) := by decide +kernel
set_option maxRecDepth 20000 in
theorem ggX7_credit_X7_checkPerson : GoodIn wsX7_credit wsX7_checkPerson := goodIn_ca (goodIn_r _ [5, 6, 7] (by decide +kernel) (by decide +kernel)) (goodIn_sub (fun _ h => List.mem_cons_of_mem _ (List.mem_append_right _ h)) (by decide +kernel))
set_option maxRecDepth 20000 in
theorem gX7_credit_X7_checkPerson : GoodIn wsX7_credit (va_wsS RX7 48 yX7_checkPerson wsX7_checkPerson) := goodIn_app (goodIn_of _ (by decide +kernel)) ggX7_credit_X7_checkPerson
set_option maxRecDepth 20000 in
theorem ggX7_credit_X7_workOf : GoodIn wsX7_credit wsX7_workOf := goodIn_ca (goodIn_r _ [11, 6, 7, 12, 25, 26, 27, 28, 29, 30, 31] (by decide +kernel) (by decide +kernel)) (goodIn_sub (fun _ h => List.mem_cons_of_mem _ (List.mem_append_right _ h)) (by decide +kernel))
set_option maxRecDepth 20000 in
theorem gX7_credit_X7_workOf : GoodIn wsX7_credit (wsV RX7 142 RX7 yX7_workOf wsX7_workOf) := goodIn_app (goodIn_of _ (by decide +kernel)) ggX7_credit_X7_workOf
set_option maxRecDepth 20000 in
theorem ggX7_credit_X6_comesFromWorkBy : GoodIn wsX7_credit wsX6_comesFromWorkBy := goodIn_r _ [17, 18, 19, 32, 33, 34, 35, 36, 37, 38, 39] (by decide +kernel) (by decide +kernel)
set_option maxRecDepth 20000 in
theorem gX7_credit_X6_comesFromWorkBy : GoodIn wsX7_credit (wsV RX7 241 RX6 yX6_comesFromWorkBy wsX6_comesFromWorkBy) := goodIn_app (goodIn_of _ (by decide +kernel)) ggX7_credit_X6_comesFromWorkBy
set_option maxRecDepth 20000 in
theorem ggX7_credit_X6_starSum : GoodIn wsX7_credit wsX6_starSum := goodIn_r _ [23, 24, 32, 33, 34, 35, 36, 37, 38, 39] (by decide +kernel) (by decide +kernel)
set_option maxRecDepth 20000 in
theorem gX7_credit_X6_starSum : GoodIn wsX7_credit (wsV RX7 238 RX6 yX6_starSum wsX6_starSum) := goodIn_app (goodIn_of _ (by decide +kernel)) ggX7_credit_X6_starSum
theorem dX7_credit_0 : decode cX7_credit 0 = .ok (.iload_n 1, 1) := by decide +kernel
theorem dX7_credit_1 : decode cX7_credit 1 = .ok (.invokestatic 48, 3) := by decide +kernel
theorem dX7_credit_4 : decode cX7_credit 4 = .ok (.iconst 0, 1) := by decide +kernel
theorem dX7_credit_5 : decode cX7_credit 5 = .ok (.istore_n 2, 1) := by decide +kernel
theorem dX7_credit_6 : decode cX7_credit 6 = .ok (.iconst 0, 1) := by decide +kernel
theorem dX7_credit_7 : decode cX7_credit 7 = .ok (.istore_n 3, 1) := by decide +kernel
theorem dX7_credit_8 : decode cX7_credit 8 = .ok (.iload_n 3, 1) := by decide +kernel
theorem dX7_credit_9 : decode cX7_credit 9 = .ok (.aload_n 0, 1) := by decide +kernel
theorem dX7_credit_10 : decode cX7_credit 10 = .ok (.getfield 44, 3) := by decide +kernel
theorem dX7_credit_13 : decode cX7_credit 13 = .ok (.if_icmp .ge 33, 3) := by decide +kernel
theorem dX7_credit_16 : decode cX7_credit 16 = .ok (.aload_n 0, 1) := by decide +kernel
theorem dX7_credit_17 : decode cX7_credit 17 = .ok (.iload_n 3, 1) := by decide +kernel
theorem dX7_credit_18 : decode cX7_credit 18 = .ok (.invokevirtual 142, 3) := by decide +kernel
theorem dX7_credit_21 : decode cX7_credit 21 = .ok (.astore 4, 2) := by decide +kernel
theorem dX7_credit_23 : decode cX7_credit 23 = .ok (.aload 4, 2) := by decide +kernel
theorem dX7_credit_25 : decode cX7_credit 25 = .ok (.iload_n 1, 1) := by decide +kernel
theorem dX7_credit_26 : decode cX7_credit 26 = .ok (.invokevirtual 241, 3) := by decide +kernel
theorem dX7_credit_29 : decode cX7_credit 29 = .ok (.ifCond .eq 11, 3) := by decide +kernel
theorem dX7_credit_32 : decode cX7_credit 32 = .ok (.iload_n 2, 1) := by decide +kernel
theorem dX7_credit_33 : decode cX7_credit 33 = .ok (.aload 4, 2) := by decide +kernel
theorem dX7_credit_35 : decode cX7_credit 35 = .ok (.invokevirtual 238, 3) := by decide +kernel
theorem dX7_credit_38 : decode cX7_credit 38 = .ok (.iadd, 1) := by decide +kernel
theorem dX7_credit_39 : decode cX7_credit 39 = .ok (.istore_n 2, 1) := by decide +kernel
theorem dX7_credit_40 : decode cX7_credit 40 = .ok (.iinc 3 1, 3) := by decide +kernel
theorem dX7_credit_43 : decode cX7_credit 43 = .ok (.goto (-35), 3) := by decide +kernel
theorem dX7_credit_46 : decode cX7_credit 46 = .ok (.iload_n 2, 1) := by decide +kernel
theorem dX7_credit_47 : decode cX7_credit 47 = .ok (.ireturn, 1) := by decide +kernel
set_option maxRecDepth 20000 in
theorem ggX7_record_X7_workOf : GoodIn wsX7_record wsX7_workOf := goodIn_ca (goodIn_r _ [5, 6, 7, 8, 17, 18, 19, 20, 21, 22, 23] (by decide +kernel) (by decide +kernel)) (goodIn_sub (fun _ h => List.mem_cons_of_mem _ (List.mem_append_right _ h)) (by decide +kernel))
set_option maxRecDepth 20000 in
theorem gX7_record_X7_workOf : GoodIn wsX7_record (wsV RX7 142 RX7 yX7_workOf wsX7_workOf) := goodIn_app (goodIn_of _ (by decide +kernel)) ggX7_record_X7_workOf
theorem dX7_record_0 : decode cX7_record 0 = .ok (.aload_n 0, 1) := by decide +kernel
theorem dX7_record_1 : decode cX7_record 1 = .ok (.iload_n 1, 1) := by decide +kernel
theorem dX7_record_2 : decode cX7_record 2 = .ok (.invokevirtual 142, 3) := by decide +kernel
theorem dX7_record_5 : decode cX7_record 5 = .ok (.getfield 244, 3) := by decide +kernel
theorem dX7_record_8 : decode cX7_record 8 = .ok (.ireturn, 1) := by decide +kernel
set_option maxRecDepth 20000 in
theorem ggX7_runState_X7_runOf : GoodIn wsX7_runState wsX7_runOf := goodIn_ca (goodIn_r _ [5, 6, 7, 8, 13, 14, 15, 16, 17, 18, 19] (by decide +kernel) (by decide +kernel)) (goodIn_sub (fun _ h => List.mem_cons_of_mem _ (List.mem_append_right _ h)) (by decide +kernel))
set_option maxRecDepth 20000 in
theorem gX7_runState_X7_runOf : GoodIn wsX7_runState (wsV RX7 190 RX7 yX7_runOf wsX7_runOf) := goodIn_app (goodIn_of _ (by decide +kernel)) ggX7_runState_X7_runOf
theorem dX7_runState_0 : decode cX7_runState 0 = .ok (.aload_n 0, 1) := by decide +kernel
theorem dX7_runState_1 : decode cX7_runState 1 = .ok (.iload_n 1, 1) := by decide +kernel
theorem dX7_runState_2 : decode cX7_runState 2 = .ok (.invokevirtual 190, 3) := by decide +kernel
theorem dX7_runState_5 : decode cX7_runState 5 = .ok (.getfield 202, 3) := by decide +kernel
theorem dX7_runState_8 : decode cX7_runState 8 = .ok (.ireturn, 1) := by decide +kernel
set_option maxRecDepth 20000 in
theorem ggX7_body_X7_runOf : GoodIn wsX7_body wsX7_runOf := goodIn_ca (goodIn_r _ [5, 6, 7, 8, 18, 19, 20, 21, 22, 23, 24] (by decide +kernel) (by decide +kernel)) (goodIn_sub (fun _ h => List.mem_cons_of_mem _ (List.mem_append_right _ h)) (by decide +kernel))
set_option maxRecDepth 20000 in
theorem gX7_body_X7_runOf : GoodIn wsX7_body (wsV RX7 190 RX7 yX7_runOf wsX7_runOf) := goodIn_app (goodIn_of _ (by decide +kernel)) ggX7_body_X7_runOf
theorem dX7_body_0 : decode cX7_body 0 = .ok (.aload_n 0, 1) := by decide +kernel
theorem dX7_body_1 : decode cX7_body 1 = .ok (.iload_n 1, 1) := by decide +kernel
theorem dX7_body_2 : decode cX7_body 2 = .ok (.invokevirtual 190, 3) := by decide +kernel
theorem dX7_body_5 : decode cX7_body 5 = .ok (.astore_n 2, 1) := by decide +kernel
theorem dX7_body_6 : decode cX7_body 6 = .ok (.aload_n 2, 1) := by decide +kernel
theorem dX7_body_7 : decode cX7_body 7 = .ok (.getfield 202, 3) := by decide +kernel
theorem dX7_body_10 : decode cX7_body 10 = .ok (.ifCond .ne 7, 3) := by decide +kernel
theorem dX7_body_13 : decode cX7_body 13 = .ok (.iconst (-1), 1) := by decide +kernel
theorem dX7_body_14 : decode cX7_body 14 = .ok (.goto 10, 3) := by decide +kernel
theorem dX7_body_17 : decode cX7_body 17 = .ok (.aload_n 2, 1) := by decide +kernel
theorem dX7_body_18 : decode cX7_body 18 = .ok (.getfield 247, 3) := by decide +kernel
theorem dX7_body_21 : decode cX7_body 21 = .ok (.getfield 251, 3) := by decide +kernel
theorem dX7_body_24 : decode cX7_body 24 = .ok (.ireturn, 1) := by decide +kernel
set_option maxRecDepth 20000 in
theorem ggX7_speed_X7_runOf : GoodIn wsX7_speed wsX7_runOf := goodIn_ca (goodIn_r _ [5, 6, 7, 8, 18, 19, 20, 21, 22, 23, 24] (by decide +kernel) (by decide +kernel)) (goodIn_sub (fun _ h => List.mem_cons_of_mem _ (List.mem_append_right _ h)) (by decide +kernel))
set_option maxRecDepth 20000 in
theorem gX7_speed_X7_runOf : GoodIn wsX7_speed (wsV RX7 190 RX7 yX7_runOf wsX7_runOf) := goodIn_app (goodIn_of _ (by decide +kernel)) ggX7_speed_X7_runOf
theorem dX7_speed_0 : decode cX7_speed 0 = .ok (.aload_n 0, 1) := by decide +kernel
theorem dX7_speed_1 : decode cX7_speed 1 = .ok (.iload_n 1, 1) := by decide +kernel
theorem dX7_speed_2 : decode cX7_speed 2 = .ok (.invokevirtual 190, 3) := by decide +kernel
theorem dX7_speed_5 : decode cX7_speed 5 = .ok (.getfield 247, 3) := by decide +kernel
theorem dX7_speed_8 : decode cX7_speed 8 = .ok (.getfield 256, 3) := by decide +kernel
theorem dX7_speed_11 : decode cX7_speed 11 = .ok (.ireturn, 1) := by decide +kernel
set_option maxRecDepth 20000 in
theorem ggX7_keys_X7_runOf : GoodIn wsX7_keys wsX7_runOf := goodIn_ca (goodIn_r _ [5, 6, 7, 8, 25, 26, 27, 28, 29, 30, 31] (by decide +kernel) (by decide +kernel)) (goodIn_sub (fun _ h => List.mem_cons_of_mem _ (List.mem_append_right _ h)) (by decide +kernel))
set_option maxRecDepth 20000 in
theorem gX7_keys_X7_runOf : GoodIn wsX7_keys (wsV RX7 190 RX7 yX7_runOf wsX7_runOf) := goodIn_app (goodIn_of _ (by decide +kernel)) ggX7_keys_X7_runOf
set_option maxRecDepth 20000 in
theorem ggX7_keys_J6_bitCount_0f7a4 : GoodIn wsX7_keys wsJ6_bitCount_0f7a4 := goodIn_r _ [12, 13, 14, 15] (by decide +kernel) (by decide +kernel)
set_option maxRecDepth 20000 in
theorem gX7_keys_J6_bitCount_0f7a4 : GoodIn wsX7_keys (va_wsS RX7 262 yJ6_bitCount_0f7a4 wsJ6_bitCount_0f7a4) := goodIn_app (goodIn_of _ (by decide +kernel)) ggX7_keys_J6_bitCount_0f7a4
theorem dX7_keys_0 : decode cX7_keys 0 = .ok (.aload_n 0, 1) := by decide +kernel
theorem dX7_keys_1 : decode cX7_keys 1 = .ok (.iload_n 1, 1) := by decide +kernel
theorem dX7_keys_2 : decode cX7_keys 2 = .ok (.invokevirtual 190, 3) := by decide +kernel
theorem dX7_keys_5 : decode cX7_keys 5 = .ok (.getfield 247, 3) := by decide +kernel
theorem dX7_keys_8 : decode cX7_keys 8 = .ok (.getfield 259, 3) := by decide +kernel
theorem dX7_keys_11 : decode cX7_keys 11 = .ok (.invokestatic 262, 3) := by decide +kernel
theorem dX7_keys_14 : decode cX7_keys 14 = .ok (.ireturn, 1) := by decide +kernel
set_option maxRecDepth 20000 in
theorem ggX7_stepsOf_X7_runOf : GoodIn wsX7_stepsOf wsX7_runOf := goodIn_ca (goodIn_r _ [5, 6, 7, 8, 13, 14, 15, 16, 17, 18, 19] (by decide +kernel) (by decide +kernel)) (goodIn_sub (fun _ h => List.mem_cons_of_mem _ (List.mem_append_right _ h)) (by decide +kernel))
set_option maxRecDepth 20000 in
theorem gX7_stepsOf_X7_runOf : GoodIn wsX7_stepsOf (wsV RX7 190 RX7 yX7_runOf wsX7_runOf) := goodIn_app (goodIn_of _ (by decide +kernel)) ggX7_stepsOf_X7_runOf
theorem dX7_stepsOf_0 : decode cX7_stepsOf 0 = .ok (.aload_n 0, 1) := by decide +kernel
theorem dX7_stepsOf_1 : decode cX7_stepsOf 1 = .ok (.iload_n 1, 1) := by decide +kernel
theorem dX7_stepsOf_2 : decode cX7_stepsOf 2 = .ok (.invokevirtual 190, 3) := by decide +kernel
theorem dX7_stepsOf_5 : decode cX7_stepsOf 5 = .ok (.getfield 207, 3) := by decide +kernel
theorem dX7_stepsOf_8 : decode cX7_stepsOf 8 = .ok (.ireturn, 1) := by decide +kernel
theorem dX7_checkPerson_0 : decode cX7_checkPerson 0 = .ok (.iload_n 0, 1) := by decide +kernel
theorem dX7_checkPerson_1 : decode cX7_checkPerson 1 = .ok (.ifCond .lt 9, 3) := by decide +kernel
theorem dX7_checkPerson_4 : decode cX7_checkPerson 4 = .ok (.iload_n 0, 1) := by decide +kernel
theorem dX7_checkPerson_5 : decode cX7_checkPerson 5 = .ok (.bipush 6, 2) := by decide +kernel
theorem dX7_checkPerson_7 : decode cX7_checkPerson 7 = .ok (.if_icmp .lt 14, 3) := by decide +kernel
theorem dX7_checkPerson_10 : decode cX7_checkPerson 10 = .ok (.new 267, 3) := by decide +kernel
theorem dX7_checkPerson_13 : decode cX7_checkPerson 13 = .ok (.dup, 1) := by decide +kernel
theorem dX7_checkPerson_14 : decode cX7_checkPerson 14 = .ok (.ldc_w 269, 3) := by decide +kernel
theorem dX7_checkPerson_17 : decode cX7_checkPerson 17 = .ok (.invokespecial 271, 3) := by decide +kernel
theorem dX7_checkPerson_20 : decode cX7_checkPerson 20 = .ok (.athrow, 1) := by decide +kernel
theorem dX7_checkPerson_21 : decode cX7_checkPerson 21 = .ok (.return_, 1) := by decide +kernel
set_option maxRecDepth 20000 in
theorem ggX7_checkCell_X7_isCell : GoodIn wsX7_checkCell wsX7_isCell := goodIn_r _ [6] (by decide +kernel) (by decide +kernel)
set_option maxRecDepth 20000 in
theorem gX7_checkCell_X7_isCell : GoodIn wsX7_checkCell (va_wsS RX7 272 yX7_isCell wsX7_isCell) := goodIn_app (goodIn_of _ (by decide +kernel)) ggX7_checkCell_X7_isCell
theorem dX7_checkCell_0 : decode cX7_checkCell 0 = .ok (.iload_n 0, 1) := by decide +kernel
theorem dX7_checkCell_1 : decode cX7_checkCell 1 = .ok (.invokestatic 272, 3) := by decide +kernel
theorem dX7_checkCell_4 : decode cX7_checkCell 4 = .ok (.ifCond .ne 14, 3) := by decide +kernel
theorem dX7_checkCell_7 : decode cX7_checkCell 7 = .ok (.new 267, 3) := by decide +kernel
theorem dX7_checkCell_10 : decode cX7_checkCell 10 = .ok (.dup, 1) := by decide +kernel
theorem dX7_checkCell_11 : decode cX7_checkCell 11 = .ok (.ldc_w 275, 3) := by decide +kernel
theorem dX7_checkCell_14 : decode cX7_checkCell 14 = .ok (.invokespecial 271, 3) := by decide +kernel
theorem dX7_checkCell_17 : decode cX7_checkCell 17 = .ok (.athrow, 1) := by decide +kernel
theorem dX7_checkCell_18 : decode cX7_checkCell 18 = .ok (.return_, 1) := by decide +kernel
theorem dX7_checkSpring_0 : decode cX7_checkSpring 0 = .ok (.iload_n 0, 1) := by decide +kernel
theorem dX7_checkSpring_1 : decode cX7_checkSpring 1 = .ok (.ifCond .lt 8, 3) := by decide +kernel
theorem dX7_checkSpring_4 : decode cX7_checkSpring 4 = .ok (.iload_n 0, 1) := by decide +kernel
theorem dX7_checkSpring_5 : decode cX7_checkSpring 5 = .ok (.iconst 3, 1) := by decide +kernel
theorem dX7_checkSpring_6 : decode cX7_checkSpring 6 = .ok (.if_icmp .lt 14, 3) := by decide +kernel
theorem dX7_checkSpring_9 : decode cX7_checkSpring 9 = .ok (.new 267, 3) := by decide +kernel
theorem dX7_checkSpring_12 : decode cX7_checkSpring 12 = .ok (.dup, 1) := by decide +kernel
theorem dX7_checkSpring_13 : decode cX7_checkSpring 13 = .ok (.ldc_w 277, 3) := by decide +kernel
theorem dX7_checkSpring_16 : decode cX7_checkSpring 16 = .ok (.invokespecial 271, 3) := by decide +kernel
theorem dX7_checkSpring_19 : decode cX7_checkSpring 19 = .ok (.athrow, 1) := by decide +kernel
theorem dX7_checkSpring_20 : decode cX7_checkSpring 20 = .ok (.return_, 1) := by decide +kernel
theorem dX7_checkNotWithdrawn_0 : decode cX7_checkNotWithdrawn 0 = .ok (.aload_n 0, 1) := by decide +kernel
theorem dX7_checkNotWithdrawn_1 : decode cX7_checkNotWithdrawn 1 = .ok (.getfield 156, 3) := by decide +kernel
theorem dX7_checkNotWithdrawn_4 : decode cX7_checkNotWithdrawn 4 = .ok (.ifCond .ge 14, 3) := by decide +kernel
theorem dX7_checkNotWithdrawn_7 : decode cX7_checkNotWithdrawn 7 = .ok (.new 88, 3) := by decide +kernel
theorem dX7_checkNotWithdrawn_10 : decode cX7_checkNotWithdrawn 10 = .ok (.dup, 1) := by decide +kernel
theorem dX7_checkNotWithdrawn_11 : decode cX7_checkNotWithdrawn 11 = .ok (.ldc_w 279, 3) := by decide +kernel
theorem dX7_checkNotWithdrawn_14 : decode cX7_checkNotWithdrawn 14 = .ok (.invokespecial 92, 3) := by decide +kernel
theorem dX7_checkNotWithdrawn_17 : decode cX7_checkNotWithdrawn 17 = .ok (.athrow, 1) := by decide +kernel
theorem dX7_checkNotWithdrawn_18 : decode cX7_checkNotWithdrawn 18 = .ok (.return_, 1) := by decide +kernel
theorem dX7_levelOf_0 : decode cX7_levelOf 0 = .ok (.iload_n 1, 1) := by decide +kernel
theorem dX7_levelOf_1 : decode cX7_levelOf 1 = .ok (.ifCond .lt 21, 3) := by decide +kernel
theorem dX7_levelOf_4 : decode cX7_levelOf 4 = .ok (.iload_n 1, 1) := by decide +kernel
theorem dX7_levelOf_5 : decode cX7_levelOf 5 = .ok (.aload_n 0, 1) := by decide +kernel
theorem dX7_levelOf_6 : decode cX7_levelOf 6 = .ok (.getfield 15, 3) := by decide +kernel
theorem dX7_levelOf_9 : decode cX7_levelOf 9 = .ok (.arraylength, 1) := by decide +kernel
theorem dX7_levelOf_10 : decode cX7_levelOf 10 = .ok (.if_icmp .ge 12, 3) := by decide +kernel
theorem dX7_levelOf_13 : decode cX7_levelOf 13 = .ok (.aload_n 0, 1) := by decide +kernel
theorem dX7_levelOf_14 : decode cX7_levelOf 14 = .ok (.getfield 15, 3) := by decide +kernel
theorem dX7_levelOf_17 : decode cX7_levelOf 17 = .ok (.iload_n 1, 1) := by decide +kernel
theorem dX7_levelOf_18 : decode cX7_levelOf 18 = .ok (.aaload, 1) := by decide +kernel
theorem dX7_levelOf_19 : decode cX7_levelOf 19 = .ok (.goto 4, 3) := by decide +kernel
theorem dX7_levelOf_22 : decode cX7_levelOf 22 = .ok (.aconst_null, 1) := by decide +kernel
theorem dX7_levelOf_23 : decode cX7_levelOf 23 = .ok (.astore_n 2, 1) := by decide +kernel
theorem dX7_levelOf_24 : decode cX7_levelOf 24 = .ok (.aload_n 2, 1) := by decide +kernel
theorem dX7_levelOf_25 : decode cX7_levelOf 25 = .ok (.ifnonnull 14, 3) := by decide +kernel
theorem dX7_levelOf_28 : decode cX7_levelOf 28 = .ok (.new 267, 3) := by decide +kernel
theorem dX7_levelOf_31 : decode cX7_levelOf 31 = .ok (.dup, 1) := by decide +kernel
theorem dX7_levelOf_32 : decode cX7_levelOf 32 = .ok (.ldc_w 281, 3) := by decide +kernel
theorem dX7_levelOf_35 : decode cX7_levelOf 35 = .ok (.invokespecial 271, 3) := by decide +kernel
theorem dX7_levelOf_38 : decode cX7_levelOf 38 = .ok (.athrow, 1) := by decide +kernel
theorem dX7_levelOf_39 : decode cX7_levelOf 39 = .ok (.aload_n 2, 1) := by decide +kernel
theorem dX7_levelOf_40 : decode cX7_levelOf 40 = .ok (.areturn, 1) := by decide +kernel
theorem dX7_workOf_0 : decode cX7_workOf 0 = .ok (.iload_n 1, 1) := by decide +kernel
theorem dX7_workOf_1 : decode cX7_workOf 1 = .ok (.ifCond .lt 21, 3) := by decide +kernel
theorem dX7_workOf_4 : decode cX7_workOf 4 = .ok (.iload_n 1, 1) := by decide +kernel
theorem dX7_workOf_5 : decode cX7_workOf 5 = .ok (.aload_n 0, 1) := by decide +kernel
theorem dX7_workOf_6 : decode cX7_workOf 6 = .ok (.getfield 21, 3) := by decide +kernel
theorem dX7_workOf_9 : decode cX7_workOf 9 = .ok (.arraylength, 1) := by decide +kernel
theorem dX7_workOf_10 : decode cX7_workOf 10 = .ok (.if_icmp .ge 12, 3) := by decide +kernel
theorem dX7_workOf_13 : decode cX7_workOf 13 = .ok (.aload_n 0, 1) := by decide +kernel
theorem dX7_workOf_14 : decode cX7_workOf 14 = .ok (.getfield 21, 3) := by decide +kernel
theorem dX7_workOf_17 : decode cX7_workOf 17 = .ok (.iload_n 1, 1) := by decide +kernel
theorem dX7_workOf_18 : decode cX7_workOf 18 = .ok (.aaload, 1) := by decide +kernel
theorem dX7_workOf_19 : decode cX7_workOf 19 = .ok (.goto 4, 3) := by decide +kernel
theorem dX7_workOf_22 : decode cX7_workOf 22 = .ok (.aconst_null, 1) := by decide +kernel
theorem dX7_workOf_23 : decode cX7_workOf 23 = .ok (.astore_n 2, 1) := by decide +kernel
theorem dX7_workOf_24 : decode cX7_workOf 24 = .ok (.aload_n 2, 1) := by decide +kernel
theorem dX7_workOf_25 : decode cX7_workOf 25 = .ok (.ifnonnull 14, 3) := by decide +kernel
theorem dX7_workOf_28 : decode cX7_workOf 28 = .ok (.new 267, 3) := by decide +kernel
theorem dX7_workOf_31 : decode cX7_workOf 31 = .ok (.dup, 1) := by decide +kernel
theorem dX7_workOf_32 : decode cX7_workOf 32 = .ok (.ldc_w 283, 3) := by decide +kernel
theorem dX7_workOf_35 : decode cX7_workOf 35 = .ok (.invokespecial 271, 3) := by decide +kernel
theorem dX7_workOf_38 : decode cX7_workOf 38 = .ok (.athrow, 1) := by decide +kernel
theorem dX7_workOf_39 : decode cX7_workOf 39 = .ok (.aload_n 2, 1) := by decide +kernel
theorem dX7_workOf_40 : decode cX7_workOf 40 = .ok (.areturn, 1) := by decide +kernel
theorem dX7_runOf_0 : decode cX7_runOf 0 = .ok (.iload_n 1, 1) := by decide +kernel
theorem dX7_runOf_1 : decode cX7_runOf 1 = .ok (.ifCond .lt 21, 3) := by decide +kernel
theorem dX7_runOf_4 : decode cX7_runOf 4 = .ok (.iload_n 1, 1) := by decide +kernel
theorem dX7_runOf_5 : decode cX7_runOf 5 = .ok (.aload_n 0, 1) := by decide +kernel
theorem dX7_runOf_6 : decode cX7_runOf 6 = .ok (.getfield 27, 3) := by decide +kernel
theorem dX7_runOf_9 : decode cX7_runOf 9 = .ok (.arraylength, 1) := by decide +kernel
theorem dX7_runOf_10 : decode cX7_runOf 10 = .ok (.if_icmp .ge 12, 3) := by decide +kernel
theorem dX7_runOf_13 : decode cX7_runOf 13 = .ok (.aload_n 0, 1) := by decide +kernel
theorem dX7_runOf_14 : decode cX7_runOf 14 = .ok (.getfield 27, 3) := by decide +kernel
theorem dX7_runOf_17 : decode cX7_runOf 17 = .ok (.iload_n 1, 1) := by decide +kernel
theorem dX7_runOf_18 : decode cX7_runOf 18 = .ok (.aaload, 1) := by decide +kernel
theorem dX7_runOf_19 : decode cX7_runOf 19 = .ok (.goto 4, 3) := by decide +kernel
theorem dX7_runOf_22 : decode cX7_runOf 22 = .ok (.aconst_null, 1) := by decide +kernel
theorem dX7_runOf_23 : decode cX7_runOf 23 = .ok (.astore_n 2, 1) := by decide +kernel
theorem dX7_runOf_24 : decode cX7_runOf 24 = .ok (.aload_n 2, 1) := by decide +kernel
theorem dX7_runOf_25 : decode cX7_runOf 25 = .ok (.ifnonnull 14, 3) := by decide +kernel
theorem dX7_runOf_28 : decode cX7_runOf 28 = .ok (.new 267, 3) := by decide +kernel
theorem dX7_runOf_31 : decode cX7_runOf 31 = .ok (.dup, 1) := by decide +kernel
theorem dX7_runOf_32 : decode cX7_runOf 32 = .ok (.ldc_w 269, 3) := by decide +kernel
theorem dX7_runOf_35 : decode cX7_runOf 35 = .ok (.invokespecial 271, 3) := by decide +kernel
theorem dX7_runOf_38 : decode cX7_runOf 38 = .ok (.athrow, 1) := by decide +kernel
theorem dX7_runOf_39 : decode cX7_runOf 39 = .ok (.aload_n 2, 1) := by decide +kernel
theorem dX7_runOf_40 : decode cX7_runOf 40 = .ok (.areturn, 1) := by decide +kernel
set_option maxRecDepth 20000 in
theorem ggX7_addLevel_X3_init : GoodIn wsX7_addLevel wsX3_init := goodIn_r _ [10, 11, 12, 13, 14, 15, 16, 17, 18, 19, 20, 21, 22, 23, 24, 25, 26, 27, 28, 29, 30, 31, 32, 33, 34, 35, 36, 37, 38, 39, 40, 54, 55, 56, 48, 49, 50, 51, 52, 53, 57, 58, 59, 60, 61] (by decide +kernel) (by decide +kernel)
set_option maxRecDepth 20000 in
theorem gX7_addLevel_X3_init : GoodIn wsX7_addLevel (wsX3_init) := ggX7_addLevel_X3_init
theorem dX7_addLevel_0 : decode cX7_addLevel 0 = .ok (.aload_n 0, 1) := by decide +kernel
theorem dX7_addLevel_1 : decode cX7_addLevel 1 = .ok (.getfield 40, 3) := by decide +kernel
theorem dX7_addLevel_4 : decode cX7_addLevel 4 = .ok (.aload_n 0, 1) := by decide +kernel
theorem dX7_addLevel_5 : decode cX7_addLevel 5 = .ok (.getfield 15, 3) := by decide +kernel
theorem dX7_addLevel_8 : decode cX7_addLevel 8 = .ok (.arraylength, 1) := by decide +kernel
theorem dX7_addLevel_9 : decode cX7_addLevel 9 = .ok (.if_icmp .lt 14, 3) := by decide +kernel
theorem dX7_addLevel_12 : decode cX7_addLevel 12 = .ok (.new 88, 3) := by decide +kernel
theorem dX7_addLevel_15 : decode cX7_addLevel 15 = .ok (.dup, 1) := by decide +kernel
theorem dX7_addLevel_16 : decode cX7_addLevel 16 = .ok (.ldc_w 285, 3) := by decide +kernel
theorem dX7_addLevel_19 : decode cX7_addLevel 19 = .ok (.invokespecial 92, 3) := by decide +kernel
theorem dX7_addLevel_22 : decode cX7_addLevel 22 = .ok (.athrow, 1) := by decide +kernel
theorem dX7_addLevel_23 : decode cX7_addLevel 23 = .ok (.new 13, 3) := by decide +kernel
theorem dX7_addLevel_26 : decode cX7_addLevel 26 = .ok (.dup, 1) := by decide +kernel
theorem dX7_addLevel_27 : decode cX7_addLevel 27 = .ok (.iload_n 1, 1) := by decide +kernel
theorem dX7_addLevel_28 : decode cX7_addLevel 28 = .ok (.aload_n 2, 1) := by decide +kernel
theorem dX7_addLevel_29 : decode cX7_addLevel 29 = .ok (.invokespecial 287, 3) := by decide +kernel
theorem dX7_addLevel_32 : decode cX7_addLevel 32 = .ok (.astore_n 3, 1) := by decide +kernel
theorem dX7_addLevel_33 : decode cX7_addLevel 33 = .ok (.aload_n 0, 1) := by decide +kernel
theorem dX7_addLevel_34 : decode cX7_addLevel 34 = .ok (.getfield 15, 3) := by decide +kernel
theorem dX7_addLevel_37 : decode cX7_addLevel 37 = .ok (.aload_n 0, 1) := by decide +kernel
theorem dX7_addLevel_38 : decode cX7_addLevel 38 = .ok (.getfield 40, 3) := by decide +kernel
theorem dX7_addLevel_41 : decode cX7_addLevel 41 = .ok (.aload_n 3, 1) := by decide +kernel
theorem dX7_addLevel_42 : decode cX7_addLevel 42 = .ok (.aastore, 1) := by decide +kernel
theorem dX7_addLevel_43 : decode cX7_addLevel 43 = .ok (.aload_n 0, 1) := by decide +kernel
theorem dX7_addLevel_44 : decode cX7_addLevel 44 = .ok (.dup, 1) := by decide +kernel
theorem dX7_addLevel_45 : decode cX7_addLevel 45 = .ok (.getfield 40, 3) := by decide +kernel
theorem dX7_addLevel_48 : decode cX7_addLevel 48 = .ok (.iconst 1, 1) := by decide +kernel
theorem dX7_addLevel_49 : decode cX7_addLevel 49 = .ok (.iadd, 1) := by decide +kernel
theorem dX7_addLevel_50 : decode cX7_addLevel 50 = .ok (.putfield 40, 3) := by decide +kernel
theorem dX7_addLevel_53 : decode cX7_addLevel 53 = .ok (.aload_n 3, 1) := by decide +kernel
theorem dX7_addLevel_54 : decode cX7_addLevel 54 = .ok (.areturn, 1) := by decide +kernel
set_option maxRecDepth 20000 in
theorem ggX7_endRunsIfWithdrawn_X7_runOf : GoodIn wsX7_endRunsIfWithdrawn wsX7_runOf := goodIn_ca (goodIn_r _ [5, 6, 7, 8, 21, 22, 23, 24, 25, 26, 27] (by decide +kernel) (by decide +kernel)) (goodIn_sub (fun _ h => List.mem_cons_of_mem _ (List.mem_append_right _ h)) (by decide +kernel))
set_option maxRecDepth 20000 in
theorem gX7_endRunsIfWithdrawn_X7_runOf : GoodIn wsX7_endRunsIfWithdrawn (wsV RX7 190 RX7 yX7_runOf wsX7_runOf) := goodIn_app (goodIn_of _ (by decide +kernel)) ggX7_endRunsIfWithdrawn_X7_runOf
theorem dX7_endRunsIfWithdrawn_0 : decode cX7_endRunsIfWithdrawn 0 = .ok (.aload_n 1, 1) := by decide +kernel
theorem dX7_endRunsIfWithdrawn_1 : decode cX7_endRunsIfWithdrawn 1 = .ok (.getfield 156, 3) := by decide +kernel
theorem dX7_endRunsIfWithdrawn_4 : decode cX7_endRunsIfWithdrawn 4 = .ok (.ifCond .lt 4, 3) := by decide +kernel
theorem dX7_endRunsIfWithdrawn_7 : decode cX7_endRunsIfWithdrawn 7 = .ok (.return_, 1) := by decide +kernel
theorem dX7_endRunsIfWithdrawn_8 : decode cX7_endRunsIfWithdrawn 8 = .ok (.iconst 0, 1) := by decide +kernel
theorem dX7_endRunsIfWithdrawn_9 : decode cX7_endRunsIfWithdrawn 9 = .ok (.istore_n 2, 1) := by decide +kernel
theorem dX7_endRunsIfWithdrawn_10 : decode cX7_endRunsIfWithdrawn 10 = .ok (.iload_n 2, 1) := by decide +kernel
theorem dX7_endRunsIfWithdrawn_11 : decode cX7_endRunsIfWithdrawn 11 = .ok (.bipush 6, 2) := by decide +kernel
theorem dX7_endRunsIfWithdrawn_13 : decode cX7_endRunsIfWithdrawn 13 = .ok (.if_icmp .ge 36, 3) := by decide +kernel
theorem dX7_endRunsIfWithdrawn_16 : decode cX7_endRunsIfWithdrawn 16 = .ok (.aload_n 0, 1) := by decide +kernel
theorem dX7_endRunsIfWithdrawn_17 : decode cX7_endRunsIfWithdrawn 17 = .ok (.iload_n 2, 1) := by decide +kernel
theorem dX7_endRunsIfWithdrawn_18 : decode cX7_endRunsIfWithdrawn 18 = .ok (.invokevirtual 190, 3) := by decide +kernel
theorem dX7_endRunsIfWithdrawn_21 : decode cX7_endRunsIfWithdrawn 21 = .ok (.astore_n 3, 1) := by decide +kernel
theorem dX7_endRunsIfWithdrawn_22 : decode cX7_endRunsIfWithdrawn 22 = .ok (.aload_n 3, 1) := by decide +kernel
theorem dX7_endRunsIfWithdrawn_23 : decode cX7_endRunsIfWithdrawn 23 = .ok (.getfield 290, 3) := by decide +kernel
theorem dX7_endRunsIfWithdrawn_26 : decode cX7_endRunsIfWithdrawn 26 = .ok (.aload_n 1, 1) := by decide +kernel
theorem dX7_endRunsIfWithdrawn_27 : decode cX7_endRunsIfWithdrawn 27 = .ok (.if_acmp .ne 16, 3) := by decide +kernel
theorem dX7_endRunsIfWithdrawn_30 : decode cX7_endRunsIfWithdrawn 30 = .ok (.aload_n 3, 1) := by decide +kernel
theorem dX7_endRunsIfWithdrawn_31 : decode cX7_endRunsIfWithdrawn 31 = .ok (.getfield 202, 3) := by decide +kernel
theorem dX7_endRunsIfWithdrawn_34 : decode cX7_endRunsIfWithdrawn 34 = .ok (.iconst 1, 1) := by decide +kernel
theorem dX7_endRunsIfWithdrawn_35 : decode cX7_endRunsIfWithdrawn 35 = .ok (.if_icmp .ne 8, 3) := by decide +kernel
theorem dX7_endRunsIfWithdrawn_38 : decode cX7_endRunsIfWithdrawn 38 = .ok (.aload_n 3, 1) := by decide +kernel
theorem dX7_endRunsIfWithdrawn_39 : decode cX7_endRunsIfWithdrawn 39 = .ok (.iconst 4, 1) := by decide +kernel
theorem dX7_endRunsIfWithdrawn_40 : decode cX7_endRunsIfWithdrawn 40 = .ok (.putfield 202, 3) := by decide +kernel
theorem dX7_endRunsIfWithdrawn_43 : decode cX7_endRunsIfWithdrawn 43 = .ok (.iinc 2 1, 3) := by decide +kernel
theorem dX7_endRunsIfWithdrawn_46 : decode cX7_endRunsIfWithdrawn 46 = .ok (.goto (-36), 3) := by decide +kernel
theorem dX7_endRunsIfWithdrawn_49 : decode cX7_endRunsIfWithdrawn 49 = .ok (.return_, 1) := by decide +kernel
set_option maxRecDepth 20000 in
theorem ggX7_voidProofsWith_X7_levelOf : GoodIn wsX7_voidProofsWith wsX7_levelOf := goodIn_ca (goodIn_r _ [6, 7, 8, 9, 16, 17, 18, 19, 20, 21, 22] (by decide +kernel) (by decide +kernel)) (goodIn_sub (fun _ h => List.mem_cons_of_mem _ (List.mem_append_right _ h)) (by decide +kernel))
set_option maxRecDepth 20000 in
theorem gX7_voidProofsWith_X7_levelOf : GoodIn wsX7_voidProofsWith (wsV RX7 66 RX7 yX7_levelOf wsX7_levelOf) := goodIn_app (goodIn_of _ (by decide +kernel)) ggX7_voidProofsWith_X7_levelOf
set_option maxRecDepth 20000 in
theorem ggX7_voidProofsWith_X1_has : GoodIn wsX7_voidProofsWith wsX1_has := goodIn_r _ [14, 15, 29, 30, 31] (by decide +kernel) (by decide +kernel)
set_option maxRecDepth 20000 in
theorem gX7_voidProofsWith_X1_has : GoodIn wsX7_voidProofsWith (wsV RX7 147 RX1 yX1_has wsX1_has) := goodIn_app (goodIn_of _ (by decide +kernel)) ggX7_voidProofsWith_X1_has
theorem dX7_voidProofsWith_0 : decode cX7_voidProofsWith 0 = .ok (.iconst 0, 1) := by decide +kernel
theorem dX7_voidProofsWith_1 : decode cX7_voidProofsWith 1 = .ok (.istore_n 2, 1) := by decide +kernel
theorem dX7_voidProofsWith_2 : decode cX7_voidProofsWith 2 = .ok (.iconst 0, 1) := by decide +kernel
theorem dX7_voidProofsWith_3 : decode cX7_voidProofsWith 3 = .ok (.istore_n 3, 1) := by decide +kernel
theorem dX7_voidProofsWith_4 : decode cX7_voidProofsWith 4 = .ok (.iload_n 3, 1) := by decide +kernel
theorem dX7_voidProofsWith_5 : decode cX7_voidProofsWith 5 = .ok (.aload_n 0, 1) := by decide +kernel
theorem dX7_voidProofsWith_6 : decode cX7_voidProofsWith 6 = .ok (.getfield 40, 3) := by decide +kernel
theorem dX7_voidProofsWith_9 : decode cX7_voidProofsWith 9 = .ok (.if_icmp .ge 48, 3) := by decide +kernel
theorem dX7_voidProofsWith_12 : decode cX7_voidProofsWith 12 = .ok (.aload_n 0, 1) := by decide +kernel
theorem dX7_voidProofsWith_13 : decode cX7_voidProofsWith 13 = .ok (.iload_n 3, 1) := by decide +kernel
theorem dX7_voidProofsWith_14 : decode cX7_voidProofsWith 14 = .ok (.invokevirtual 66, 3) := by decide +kernel
theorem dX7_voidProofsWith_17 : decode cX7_voidProofsWith 17 = .ok (.astore 4, 2) := by decide +kernel
theorem dX7_voidProofsWith_19 : decode cX7_voidProofsWith 19 = .ok (.aload 4, 2) := by decide +kernel
theorem dX7_voidProofsWith_21 : decode cX7_voidProofsWith 21 = .ok (.getfield 109, 3) := by decide +kernel
theorem dX7_voidProofsWith_24 : decode cX7_voidProofsWith 24 = .ok (.bipush (-2), 2) := by decide +kernel
theorem dX7_voidProofsWith_26 : decode cX7_voidProofsWith 26 = .ok (.if_icmp .eq 25, 3) := by decide +kernel
theorem dX7_voidProofsWith_29 : decode cX7_voidProofsWith 29 = .ok (.aload 4, 2) := by decide +kernel
theorem dX7_voidProofsWith_31 : decode cX7_voidProofsWith 31 = .ok (.getfield 56, 3) := by decide +kernel
theorem dX7_voidProofsWith_34 : decode cX7_voidProofsWith 34 = .ok (.iload_n 1, 1) := by decide +kernel
theorem dX7_voidProofsWith_35 : decode cX7_voidProofsWith 35 = .ok (.invokevirtual 147, 3) := by decide +kernel
theorem dX7_voidProofsWith_38 : decode cX7_voidProofsWith 38 = .ok (.ifCond .eq 13, 3) := by decide +kernel
theorem dX7_voidProofsWith_41 : decode cX7_voidProofsWith 41 = .ok (.aload 4, 2) := by decide +kernel
theorem dX7_voidProofsWith_43 : decode cX7_voidProofsWith 43 = .ok (.bipush (-2), 2) := by decide +kernel
theorem dX7_voidProofsWith_45 : decode cX7_voidProofsWith 45 = .ok (.putfield 109, 3) := by decide +kernel
theorem dX7_voidProofsWith_48 : decode cX7_voidProofsWith 48 = .ok (.iinc 2 1, 3) := by decide +kernel
theorem dX7_voidProofsWith_51 : decode cX7_voidProofsWith 51 = .ok (.iinc 3 1, 3) := by decide +kernel
theorem dX7_voidProofsWith_54 : decode cX7_voidProofsWith 54 = .ok (.goto (-50), 3) := by decide +kernel
theorem dX7_voidProofsWith_57 : decode cX7_voidProofsWith 57 = .ok (.iload_n 2, 1) := by decide +kernel
theorem dX7_voidProofsWith_58 : decode cX7_voidProofsWith 58 = .ok (.ireturn, 1) := by decide +kernel
theorem dX7_isCell_0 : decode cX7_isCell 0 = .ok (.iload_n 0, 1) := by decide +kernel
theorem dX7_isCell_1 : decode cX7_isCell 1 = .ok (.ifCond .lt 13, 3) := by decide +kernel
theorem dX7_isCell_4 : decode cX7_isCell 4 = .ok (.iload_n 0, 1) := by decide +kernel
theorem dX7_isCell_5 : decode cX7_isCell 5 = .ok (.bipush 96, 2) := by decide +kernel
theorem dX7_isCell_7 : decode cX7_isCell 7 = .ok (.if_icmp .ge 7, 3) := by decide +kernel
theorem dX7_isCell_10 : decode cX7_isCell 10 = .ok (.iconst 1, 1) := by decide +kernel
theorem dX7_isCell_11 : decode cX7_isCell 11 = .ok (.goto 4, 3) := by decide +kernel
theorem dX7_isCell_14 : decode cX7_isCell 14 = .ok (.iconst 0, 1) := by decide +kernel
theorem dX7_isCell_15 : decode cX7_isCell 15 = .ok (.ireturn, 1) := by decide +kernel
theorem dX8_init_0 : decode cX8_init 0 = .ok (.aload_n 0, 1) := by decide +kernel
theorem dX8_init_1 : decode cX8_init 1 = .ok (.invokespecial 1, 3) := by decide +kernel
theorem dX8_init_4 : decode cX8_init 4 = .ok (.aload_n 0, 1) := by decide +kernel
theorem dX8_init_5 : decode cX8_init 5 = .ok (.iconst 3, 1) := by decide +kernel
theorem dX8_init_6 : decode cX8_init 6 = .ok (.newarray .int, 2) := by decide +kernel
theorem dX8_init_8 : decode cX8_init 8 = .ok (.putfield 7, 3) := by decide +kernel
theorem dX8_init_11 : decode cX8_init 11 = .ok (.aload_n 0, 1) := by decide +kernel
theorem dX8_init_12 : decode cX8_init 12 = .ok (.bipush 12, 2) := by decide +kernel
theorem dX8_init_14 : decode cX8_init 14 = .ok (.newarray .int, 2) := by decide +kernel
theorem dX8_init_16 : decode cX8_init 16 = .ok (.putfield 13, 3) := by decide +kernel
theorem dX8_init_19 : decode cX8_init 19 = .ok (.aload_n 0, 1) := by decide +kernel
theorem dX8_init_20 : decode cX8_init 20 = .ok (.sipush 1152, 3) := by decide +kernel
theorem dX8_init_23 : decode cX8_init 23 = .ok (.newarray .int, 2) := by decide +kernel
theorem dX8_init_25 : decode cX8_init 25 = .ok (.putfield 16, 3) := by decide +kernel
theorem dX8_init_28 : decode cX8_init 28 = .ok (.aload_n 0, 1) := by decide +kernel
theorem dX8_init_29 : decode cX8_init 29 = .ok (.bipush 12, 2) := by decide +kernel
theorem dX8_init_31 : decode cX8_init 31 = .ok (.newarray .int, 2) := by decide +kernel
theorem dX8_init_33 : decode cX8_init 33 = .ok (.putfield 19, 3) := by decide +kernel
theorem dX8_init_36 : decode cX8_init 36 = .ok (.aload_n 0, 1) := by decide +kernel
theorem dX8_init_37 : decode cX8_init 37 = .ok (.bipush 12, 2) := by decide +kernel
theorem dX8_init_39 : decode cX8_init 39 = .ok (.newarray .int, 2) := by decide +kernel
theorem dX8_init_41 : decode cX8_init 41 = .ok (.putfield 22, 3) := by decide +kernel
theorem dX8_init_44 : decode cX8_init 44 = .ok (.aload_n 0, 1) := by decide +kernel
theorem dX8_init_45 : decode cX8_init 45 = .ok (.bipush 12, 2) := by decide +kernel
theorem dX8_init_47 : decode cX8_init 47 = .ok (.newarray .int, 2) := by decide +kernel
theorem dX8_init_49 : decode cX8_init 49 = .ok (.putfield 25, 3) := by decide +kernel
theorem dX8_init_52 : decode cX8_init 52 = .ok (.aload_n 0, 1) := by decide +kernel
theorem dX8_init_53 : decode cX8_init 53 = .ok (.bipush 12, 2) := by decide +kernel
theorem dX8_init_55 : decode cX8_init 55 = .ok (.newarray .int, 2) := by decide +kernel
theorem dX8_init_57 : decode cX8_init 57 = .ok (.putfield 28, 3) := by decide +kernel
theorem dX8_init_60 : decode cX8_init 60 = .ok (.aload_n 0, 1) := by decide +kernel
theorem dX8_init_61 : decode cX8_init 61 = .ok (.sipush 480, 3) := by decide +kernel
theorem dX8_init_64 : decode cX8_init 64 = .ok (.newarray .int, 2) := by decide +kernel
theorem dX8_init_66 : decode cX8_init 66 = .ok (.putfield 31, 3) := by decide +kernel
theorem dX8_init_69 : decode cX8_init 69 = .ok (.aload_n 0, 1) := by decide +kernel
theorem dX8_init_70 : decode cX8_init 70 = .ok (.sipush 480, 3) := by decide +kernel
theorem dX8_init_73 : decode cX8_init 73 = .ok (.newarray .int, 2) := by decide +kernel
theorem dX8_init_75 : decode cX8_init 75 = .ok (.putfield 34, 3) := by decide +kernel
theorem dX8_init_78 : decode cX8_init 78 = .ok (.aload_n 0, 1) := by decide +kernel
theorem dX8_init_79 : decode cX8_init 79 = .ok (.bipush 12, 2) := by decide +kernel
theorem dX8_init_81 : decode cX8_init 81 = .ok (.newarray .int, 2) := by decide +kernel
theorem dX8_init_83 : decode cX8_init 83 = .ok (.putfield 37, 3) := by decide +kernel
theorem dX8_init_86 : decode cX8_init 86 = .ok (.aload_n 0, 1) := by decide +kernel
theorem dX8_init_87 : decode cX8_init 87 = .ok (.sipush 480, 3) := by decide +kernel
theorem dX8_init_90 : decode cX8_init 90 = .ok (.newarray .int, 2) := by decide +kernel
theorem dX8_init_92 : decode cX8_init 92 = .ok (.putfield 40, 3) := by decide +kernel
theorem dX8_init_95 : decode cX8_init 95 = .ok (.aload_n 0, 1) := by decide +kernel
theorem dX8_init_96 : decode cX8_init 96 = .ok (.sipush 480, 3) := by decide +kernel
theorem dX8_init_99 : decode cX8_init 99 = .ok (.newarray .int, 2) := by decide +kernel
theorem dX8_init_101 : decode cX8_init 101 = .ok (.putfield 43, 3) := by decide +kernel
theorem dX8_init_104 : decode cX8_init 104 = .ok (.aload_n 0, 1) := by decide +kernel
theorem dX8_init_105 : decode cX8_init 105 = .ok (.bipush 20, 2) := by decide +kernel
theorem dX8_init_107 : decode cX8_init 107 = .ok (.newarray .int, 2) := by decide +kernel
theorem dX8_init_109 : decode cX8_init 109 = .ok (.putfield 46, 3) := by decide +kernel
theorem dX8_init_112 : decode cX8_init 112 = .ok (.aload_n 0, 1) := by decide +kernel
theorem dX8_init_113 : decode cX8_init 113 = .ok (.sipush 1920, 3) := by decide +kernel
theorem dX8_init_116 : decode cX8_init 116 = .ok (.newarray .int, 2) := by decide +kernel
theorem dX8_init_118 : decode cX8_init 118 = .ok (.putfield 49, 3) := by decide +kernel
theorem dX8_init_121 : decode cX8_init 121 = .ok (.aload_n 0, 1) := by decide +kernel
theorem dX8_init_122 : decode cX8_init 122 = .ok (.bipush 20, 2) := by decide +kernel
theorem dX8_init_124 : decode cX8_init 124 = .ok (.newarray .int, 2) := by decide +kernel
theorem dX8_init_126 : decode cX8_init 126 = .ok (.putfield 52, 3) := by decide +kernel
theorem dX8_init_129 : decode cX8_init 129 = .ok (.aload_n 0, 1) := by decide +kernel
theorem dX8_init_130 : decode cX8_init 130 = .ok (.bipush 20, 2) := by decide +kernel
theorem dX8_init_132 : decode cX8_init 132 = .ok (.newarray .int, 2) := by decide +kernel
theorem dX8_init_134 : decode cX8_init 134 = .ok (.putfield 55, 3) := by decide +kernel
theorem dX8_init_137 : decode cX8_init 137 = .ok (.aload_n 0, 1) := by decide +kernel
theorem dX8_init_138 : decode cX8_init 138 = .ok (.bipush 20, 2) := by decide +kernel
theorem dX8_init_140 : decode cX8_init 140 = .ok (.newarray .int, 2) := by decide +kernel
theorem dX8_init_142 : decode cX8_init 142 = .ok (.putfield 58, 3) := by decide +kernel
theorem dX8_init_145 : decode cX8_init 145 = .ok (.aload_n 0, 1) := by decide +kernel
theorem dX8_init_146 : decode cX8_init 146 = .ok (.bipush 20, 2) := by decide +kernel
theorem dX8_init_148 : decode cX8_init 148 = .ok (.newarray .int, 2) := by decide +kernel
theorem dX8_init_150 : decode cX8_init 150 = .ok (.putfield 61, 3) := by decide +kernel
theorem dX8_init_153 : decode cX8_init 153 = .ok (.aload_n 0, 1) := by decide +kernel
theorem dX8_init_154 : decode cX8_init 154 = .ok (.bipush 120, 2) := by decide +kernel
theorem dX8_init_156 : decode cX8_init 156 = .ok (.newarray .int, 2) := by decide +kernel
theorem dX8_init_158 : decode cX8_init 158 = .ok (.putfield 64, 3) := by decide +kernel
theorem dX8_init_161 : decode cX8_init 161 = .ok (.aload_n 0, 1) := by decide +kernel
theorem dX8_init_162 : decode cX8_init 162 = .ok (.bipush 6, 2) := by decide +kernel
theorem dX8_init_164 : decode cX8_init 164 = .ok (.newarray .int, 2) := by decide +kernel
theorem dX8_init_166 : decode cX8_init 166 = .ok (.putfield 67, 3) := by decide +kernel
theorem dX8_init_169 : decode cX8_init 169 = .ok (.aload_n 0, 1) := by decide +kernel
theorem dX8_init_170 : decode cX8_init 170 = .ok (.bipush 6, 2) := by decide +kernel
theorem dX8_init_172 : decode cX8_init 172 = .ok (.newarray .int, 2) := by decide +kernel
theorem dX8_init_174 : decode cX8_init 174 = .ok (.putfield 70, 3) := by decide +kernel
theorem dX8_init_177 : decode cX8_init 177 = .ok (.aload_n 0, 1) := by decide +kernel
theorem dX8_init_178 : decode cX8_init 178 = .ok (.bipush 6, 2) := by decide +kernel
theorem dX8_init_180 : decode cX8_init 180 = .ok (.newarray .int, 2) := by decide +kernel
theorem dX8_init_182 : decode cX8_init 182 = .ok (.putfield 73, 3) := by decide +kernel
theorem dX8_init_185 : decode cX8_init 185 = .ok (.aload_n 0, 1) := by decide +kernel
theorem dX8_init_186 : decode cX8_init 186 = .ok (.bipush 6, 2) := by decide +kernel
theorem dX8_init_188 : decode cX8_init 188 = .ok (.newarray .int, 2) := by decide +kernel
theorem dX8_init_190 : decode cX8_init 190 = .ok (.putfield 76, 3) := by decide +kernel
theorem dX8_init_193 : decode cX8_init 193 = .ok (.aload_n 0, 1) := by decide +kernel
theorem dX8_init_194 : decode cX8_init 194 = .ok (.bipush 6, 2) := by decide +kernel
theorem dX8_init_196 : decode cX8_init 196 = .ok (.newarray .int, 2) := by decide +kernel
theorem dX8_init_198 : decode cX8_init 198 = .ok (.putfield 79, 3) := by decide +kernel
theorem dX8_init_201 : decode cX8_init 201 = .ok (.aload_n 0, 1) := by decide +kernel
theorem dX8_init_202 : decode cX8_init 202 = .ok (.bipush 6, 2) := by decide +kernel
theorem dX8_init_204 : decode cX8_init 204 = .ok (.newarray .int, 2) := by decide +kernel
theorem dX8_init_206 : decode cX8_init 206 = .ok (.putfield 82, 3) := by decide +kernel
theorem dX8_init_209 : decode cX8_init 209 = .ok (.aload_n 0, 1) := by decide +kernel
theorem dX8_init_210 : decode cX8_init 210 = .ok (.bipush 96, 2) := by decide +kernel
theorem dX8_init_212 : decode cX8_init 212 = .ok (.newarray .int, 2) := by decide +kernel
theorem dX8_init_214 : decode cX8_init 214 = .ok (.putfield 85, 3) := by decide +kernel
theorem dX8_init_217 : decode cX8_init 217 = .ok (.aload_n 0, 1) := by decide +kernel
theorem dX8_init_218 : decode cX8_init 218 = .ok (.bipush 96, 2) := by decide +kernel
theorem dX8_init_220 : decode cX8_init 220 = .ok (.newarray .int, 2) := by decide +kernel
theorem dX8_init_222 : decode cX8_init 222 = .ok (.putfield 88, 3) := by decide +kernel
theorem dX8_init_225 : decode cX8_init 225 = .ok (.aload_n 0, 1) := by decide +kernel
theorem dX8_init_226 : decode cX8_init 226 = .ok (.sipush 6144, 3) := by decide +kernel
theorem dX8_init_229 : decode cX8_init 229 = .ok (.newarray .int, 2) := by decide +kernel
theorem dX8_init_231 : decode cX8_init 231 = .ok (.putfield 91, 3) := by decide +kernel
theorem dX8_init_234 : decode cX8_init 234 = .ok (.aload_n 0, 1) := by decide +kernel
theorem dX8_init_235 : decode cX8_init 235 = .ok (.sipush 6144, 3) := by decide +kernel
theorem dX8_init_238 : decode cX8_init 238 = .ok (.newarray .int, 2) := by decide +kernel
theorem dX8_init_240 : decode cX8_init 240 = .ok (.putfield 94, 3) := by decide +kernel
theorem dX8_init_243 : decode cX8_init 243 = .ok (.aload_n 0, 1) := by decide +kernel
theorem dX8_init_244 : decode cX8_init 244 = .ok (.bipush 96, 2) := by decide +kernel
theorem dX8_init_246 : decode cX8_init 246 = .ok (.newarray .boolean, 2) := by decide +kernel
theorem dX8_init_248 : decode cX8_init 248 = .ok (.putfield 97, 3) := by decide +kernel
theorem dX8_init_251 : decode cX8_init 251 = .ok (.iconst 0, 1) := by decide +kernel
theorem dX8_init_252 : decode cX8_init 252 = .ok (.istore_n 1, 1) := by decide +kernel
theorem dX8_init_253 : decode cX8_init 253 = .ok (.iload_n 1, 1) := by decide +kernel
theorem dX8_init_254 : decode cX8_init 254 = .ok (.iconst 3, 1) := by decide +kernel
theorem dX8_init_255 : decode cX8_init 255 = .ok (.if_icmp .ge 18, 3) := by decide +kernel
theorem dX8_init_258 : decode cX8_init 258 = .ok (.aload_n 0, 1) := by decide +kernel
theorem dX8_init_259 : decode cX8_init 259 = .ok (.getfield 7, 3) := by decide +kernel
theorem dX8_init_262 : decode cX8_init 262 = .ok (.iload_n 1, 1) := by decide +kernel
theorem dX8_init_263 : decode cX8_init 263 = .ok (.iload_n 1, 1) := by decide +kernel
theorem dX8_init_264 : decode cX8_init 264 = .ok (.iconst 2, 1) := by decide +kernel
theorem dX8_init_265 : decode cX8_init 265 = .ok (.iadd, 1) := by decide +kernel
theorem dX8_init_266 : decode cX8_init 266 = .ok (.iastore, 1) := by decide +kernel
theorem dX8_init_267 : decode cX8_init 267 = .ok (.iinc 1 1, 3) := by decide +kernel
theorem dX8_init_270 : decode cX8_init 270 = .ok (.goto (-17), 3) := by decide +kernel
theorem dX8_init_273 : decode cX8_init 273 = .ok (.return_, 1) := by decide +kernel
theorem dX8_thrown_0 : decode cX8_thrown 0 = .ok (.aload_n 0, 1) := by decide +kernel
theorem dX8_thrown_1 : decode cX8_thrown 1 = .ok (.getfield 101, 3) := by decide +kernel
theorem dX8_thrown_4 : decode cX8_thrown 4 = .ok (.ireturn, 1) := by decide +kernel
theorem dX8_fails_0 : decode cX8_fails 0 = .ok (.aload_n 0, 1) := by decide +kernel
theorem dX8_fails_1 : decode cX8_fails 1 = .ok (.iload_n 1, 1) := by decide +kernel
theorem dX8_fails_2 : decode cX8_fails 2 = .ok (.putfield 101, 3) := by decide +kernel
theorem dX8_fails_5 : decode cX8_fails 5 = .ok (.iconst 0, 1) := by decide +kernel
theorem dX8_fails_6 : decode cX8_fails 6 = .ok (.ireturn, 1) := by decide +kernel
theorem dX8_in_0 : decode cX8_in 0 = .ok (.iload_n 0, 1) := by decide +kernel
theorem dX8_in_1 : decode cX8_in 1 = .ok (.iload_n 1, 1) := by decide +kernel
theorem dX8_in_2 : decode cX8_in 2 = .ok (.if_icmp .lt 12, 3) := by decide +kernel
theorem dX8_in_5 : decode cX8_in 5 = .ok (.iload_n 0, 1) := by decide +kernel
theorem dX8_in_6 : decode cX8_in 6 = .ok (.iload_n 2, 1) := by decide +kernel
theorem dX8_in_7 : decode cX8_in 7 = .ok (.if_icmp .gt 7, 3) := by decide +kernel
theorem dX8_in_10 : decode cX8_in 10 = .ok (.iconst 1, 1) := by decide +kernel
theorem dX8_in_11 : decode cX8_in 11 = .ok (.goto 4, 3) := by decide +kernel
theorem dX8_in_14 : decode cX8_in 14 = .ok (.iconst 0, 1) := by decide +kernel
theorem dX8_in_15 : decode cX8_in 15 = .ok (.ireturn, 1) := by decide +kernel
set_option maxRecDepth 20000 in
theorem ggX8_isCell_X8_in : GoodIn wsX8_isCell wsX8_in := goodIn_r _ [4] (by decide +kernel) (by decide +kernel)
set_option maxRecDepth 20000 in
theorem gX8_isCell_X8_in : GoodIn wsX8_isCell (va_wsS RX8 105 yX8_in wsX8_in) := goodIn_app (goodIn_of _ (by decide +kernel)) ggX8_isCell_X8_in
theorem dX8_isCell_0 : decode cX8_isCell 0 = .ok (.iload_n 0, 1) := by decide +kernel
theorem dX8_isCell_1 : decode cX8_isCell 1 = .ok (.iconst 0, 1) := by decide +kernel
theorem dX8_isCell_2 : decode cX8_isCell 2 = .ok (.bipush 95, 2) := by decide +kernel
theorem dX8_isCell_4 : decode cX8_isCell 4 = .ok (.invokestatic 105, 3) := by decide +kernel
theorem dX8_isCell_7 : decode cX8_isCell 7 = .ok (.ireturn, 1) := by decide +kernel
set_option maxRecDepth 20000 in
theorem ggX8_isPerson_X8_in : GoodIn wsX8_isPerson wsX8_in := goodIn_r _ [4] (by decide +kernel) (by decide +kernel)
set_option maxRecDepth 20000 in
theorem gX8_isPerson_X8_in : GoodIn wsX8_isPerson (va_wsS RX8 105 yX8_in wsX8_in) := goodIn_app (goodIn_of _ (by decide +kernel)) ggX8_isPerson_X8_in
theorem dX8_isPerson_0 : decode cX8_isPerson 0 = .ok (.iload_n 0, 1) := by decide +kernel
theorem dX8_isPerson_1 : decode cX8_isPerson 1 = .ok (.iconst 0, 1) := by decide +kernel
theorem dX8_isPerson_2 : decode cX8_isPerson 2 = .ok (.iconst 5, 1) := by decide +kernel
theorem dX8_isPerson_3 : decode cX8_isPerson 3 = .ok (.invokestatic 105, 3) := by decide +kernel
theorem dX8_isPerson_6 : decode cX8_isPerson 6 = .ok (.ireturn, 1) := by decide +kernel
set_option maxRecDepth 20000 in
theorem ggX8_isLevel_X8_in : GoodIn wsX8_isLevel wsX8_in := goodIn_r _ [5] (by decide +kernel) (by decide +kernel)
set_option maxRecDepth 20000 in
theorem gX8_isLevel_X8_in : GoodIn wsX8_isLevel (va_wsS RX8 105 yX8_in wsX8_in) := goodIn_app (goodIn_of _ (by decide +kernel)) ggX8_isLevel_X8_in
theorem dX8_isLevel_0 : decode cX8_isLevel 0 = .ok (.iload_n 1, 1) := by decide +kernel
theorem dX8_isLevel_1 : decode cX8_isLevel 1 = .ok (.iconst 0, 1) := by decide +kernel
theorem dX8_isLevel_2 : decode cX8_isLevel 2 = .ok (.aload_n 0, 1) := by decide +kernel
theorem dX8_isLevel_3 : decode cX8_isLevel 3 = .ok (.getfield 109, 3) := by decide +kernel
theorem dX8_isLevel_6 : decode cX8_isLevel 6 = .ok (.iconst 1, 1) := by decide +kernel
theorem dX8_isLevel_7 : decode cX8_isLevel 7 = .ok (.isub, 1) := by decide +kernel
theorem dX8_isLevel_8 : decode cX8_isLevel 8 = .ok (.invokestatic 105, 3) := by decide +kernel
theorem dX8_isLevel_11 : decode cX8_isLevel 11 = .ok (.ireturn, 1) := by decide +kernel
set_option maxRecDepth 20000 in
theorem ggX8_isWork_X8_in : GoodIn wsX8_isWork wsX8_in := goodIn_r _ [5] (by decide +kernel) (by decide +kernel)
set_option maxRecDepth 20000 in
theorem gX8_isWork_X8_in : GoodIn wsX8_isWork (va_wsS RX8 105 yX8_in wsX8_in) := goodIn_app (goodIn_of _ (by decide +kernel)) ggX8_isWork_X8_in
theorem dX8_isWork_0 : decode cX8_isWork 0 = .ok (.iload_n 1, 1) := by decide +kernel
theorem dX8_isWork_1 : decode cX8_isWork 1 = .ok (.iconst 0, 1) := by decide +kernel
theorem dX8_isWork_2 : decode cX8_isWork 2 = .ok (.aload_n 0, 1) := by decide +kernel
theorem dX8_isWork_3 : decode cX8_isWork 3 = .ok (.getfield 112, 3) := by decide +kernel
theorem dX8_isWork_6 : decode cX8_isWork 6 = .ok (.iconst 1, 1) := by decide +kernel
theorem dX8_isWork_7 : decode cX8_isWork 7 = .ok (.isub, 1) := by decide +kernel
theorem dX8_isWork_8 : decode cX8_isWork 8 = .ok (.invokestatic 105, 3) := by decide +kernel
theorem dX8_isWork_11 : decode cX8_isWork 11 = .ok (.ireturn, 1) := by decide +kernel
theorem dX8_lays_0 : decode cX8_lays 0 = .ok (.aload_n 0, 1) := by decide +kernel
theorem dX8_lays_1 : decode cX8_lays 1 = .ok (.iconst 0, 1) := by decide +kernel
theorem dX8_lays_2 : decode cX8_lays 2 = .ok (.putfield 115, 3) := by decide +kernel
theorem dX8_lays_5 : decode cX8_lays 5 = .ok (.iconst 0, 1) := by decide +kernel
theorem dX8_lays_6 : decode cX8_lays 6 = .ok (.istore_n 3, 1) := by decide +kernel
theorem dX8_lays_7 : decode cX8_lays 7 = .ok (.iload_n 3, 1) := by decide +kernel
theorem dX8_lays_8 : decode cX8_lays 8 = .ok (.bipush 96, 2) := by decide +kernel
theorem dX8_lays_10 : decode cX8_lays 10 = .ok (.if_icmp .ge 85, 3) := by decide +kernel
theorem dX8_lays_13 : decode cX8_lays 13 = .ok (.aload_n 0, 1) := by decide +kernel
theorem dX8_lays_14 : decode cX8_lays 14 = .ok (.getfield 85, 3) := by decide +kernel
theorem dX8_lays_17 : decode cX8_lays 17 = .ok (.iload_n 3, 1) := by decide +kernel
theorem dX8_lays_18 : decode cX8_lays 18 = .ok (.iload_n 1, 1) := by decide +kernel
theorem dX8_lays_19 : decode cX8_lays 19 = .ok (.ifCond .eq 17, 3) := by decide +kernel
theorem dX8_lays_22 : decode cX8_lays 22 = .ok (.aload_n 0, 1) := by decide +kernel
theorem dX8_lays_23 : decode cX8_lays 23 = .ok (.getfield 49, 3) := by decide +kernel
theorem dX8_lays_26 : decode cX8_lays 26 = .ok (.bipush 96, 2) := by decide +kernel
theorem dX8_lays_28 : decode cX8_lays 28 = .ok (.iload_n 2, 1) := by decide +kernel
theorem dX8_lays_29 : decode cX8_lays 29 = .ok (.imul, 1) := by decide +kernel
theorem dX8_lays_30 : decode cX8_lays 30 = .ok (.iload_n 3, 1) := by decide +kernel
theorem dX8_lays_31 : decode cX8_lays 31 = .ok (.iadd, 1) := by decide +kernel
theorem dX8_lays_32 : decode cX8_lays 32 = .ok (.iaload, 1) := by decide +kernel
theorem dX8_lays_33 : decode cX8_lays 33 = .ok (.goto 14, 3) := by decide +kernel
theorem dX8_lays_36 : decode cX8_lays 36 = .ok (.aload_n 0, 1) := by decide +kernel
theorem dX8_lays_37 : decode cX8_lays 37 = .ok (.getfield 16, 3) := by decide +kernel
theorem dX8_lays_40 : decode cX8_lays 40 = .ok (.bipush 96, 2) := by decide +kernel
theorem dX8_lays_42 : decode cX8_lays 42 = .ok (.iload_n 2, 1) := by decide +kernel
theorem dX8_lays_43 : decode cX8_lays 43 = .ok (.imul, 1) := by decide +kernel
theorem dX8_lays_44 : decode cX8_lays 44 = .ok (.iload_n 3, 1) := by decide +kernel
theorem dX8_lays_45 : decode cX8_lays 45 = .ok (.iadd, 1) := by decide +kernel
theorem dX8_lays_46 : decode cX8_lays 46 = .ok (.iaload, 1) := by decide +kernel
theorem dX8_lays_47 : decode cX8_lays 47 = .ok (.iastore, 1) := by decide +kernel
theorem dX8_lays_48 : decode cX8_lays 48 = .ok (.aload_n 0, 1) := by decide +kernel
theorem dX8_lays_49 : decode cX8_lays 49 = .ok (.getfield 88, 3) := by decide +kernel
theorem dX8_lays_52 : decode cX8_lays 52 = .ok (.iload_n 3, 1) := by decide +kernel
theorem dX8_lays_53 : decode cX8_lays 53 = .ok (.aload_n 0, 1) := by decide +kernel
theorem dX8_lays_54 : decode cX8_lays 54 = .ok (.getfield 85, 3) := by decide +kernel
theorem dX8_lays_57 : decode cX8_lays 57 = .ok (.iload_n 3, 1) := by decide +kernel
theorem dX8_lays_58 : decode cX8_lays 58 = .ok (.iaload, 1) := by decide +kernel
theorem dX8_lays_59 : decode cX8_lays 59 = .ok (.iconst 2, 1) := by decide +kernel
theorem dX8_lays_60 : decode cX8_lays 60 = .ok (.if_icmp .ne 12, 3) := by decide +kernel
theorem dX8_lays_63 : decode cX8_lays 63 = .ok (.aload_n 0, 1) := by decide +kernel
theorem dX8_lays_64 : decode cX8_lays 64 = .ok (.getfield 115, 3) := by decide +kernel
theorem dX8_lays_67 : decode cX8_lays 67 = .ok (.iconst 1, 1) := by decide +kernel
theorem dX8_lays_68 : decode cX8_lays 68 = .ok (.iadd, 1) := by decide +kernel
theorem dX8_lays_69 : decode cX8_lays 69 = .ok (.goto 4, 3) := by decide +kernel
theorem dX8_lays_72 : decode cX8_lays 72 = .ok (.iconst 0, 1) := by decide +kernel
theorem dX8_lays_73 : decode cX8_lays 73 = .ok (.iastore, 1) := by decide +kernel
theorem dX8_lays_74 : decode cX8_lays 74 = .ok (.aload_n 0, 1) := by decide +kernel
theorem dX8_lays_75 : decode cX8_lays 75 = .ok (.dup, 1) := by decide +kernel
theorem dX8_lays_76 : decode cX8_lays 76 = .ok (.getfield 115, 3) := by decide +kernel
theorem dX8_lays_79 : decode cX8_lays 79 = .ok (.aload_n 0, 1) := by decide +kernel
theorem dX8_lays_80 : decode cX8_lays 80 = .ok (.getfield 88, 3) := by decide +kernel
theorem dX8_lays_83 : decode cX8_lays 83 = .ok (.iload_n 3, 1) := by decide +kernel
theorem dX8_lays_84 : decode cX8_lays 84 = .ok (.iaload, 1) := by decide +kernel
theorem dX8_lays_85 : decode cX8_lays 85 = .ok (.iadd, 1) := by decide +kernel
theorem dX8_lays_86 : decode cX8_lays 86 = .ok (.putfield 115, 3) := by decide +kernel
theorem dX8_lays_89 : decode cX8_lays 89 = .ok (.iinc 3 1, 3) := by decide +kernel
theorem dX8_lays_92 : decode cX8_lays 92 = .ok (.goto (-85), 3) := by decide +kernel
theorem dX8_lays_95 : decode cX8_lays 95 = .ok (.return_, 1) := by decide +kernel
set_option maxRecDepth 20000 in
theorem ggX8_isSolid_X8_in : GoodIn wsX8_isSolid wsX8_in := goodIn_r _ [7] (by decide +kernel) (by decide +kernel)
set_option maxRecDepth 20000 in
theorem gX8_isSolid_X8_in : GoodIn wsX8_isSolid (va_wsS RX8 105 yX8_in wsX8_in) := goodIn_app (goodIn_of _ (by decide +kernel)) ggX8_isSolid_X8_in
theorem dX8_isSolid_0 : decode cX8_isSolid 0 = .ok (.iload_n 1, 1) := by decide +kernel
theorem dX8_isSolid_1 : decode cX8_isSolid 1 = .ok (.iconst 0, 1) := by decide +kernel
theorem dX8_isSolid_2 : decode cX8_isSolid 2 = .ok (.bipush 11, 2) := by decide +kernel
theorem dX8_isSolid_4 : decode cX8_isSolid 4 = .ok (.invokestatic 105, 3) := by decide +kernel
theorem dX8_isSolid_7 : decode cX8_isSolid 7 = .ok (.ifCond .eq 7, 3) := by decide +kernel
theorem dX8_isSolid_10 : decode cX8_isSolid 10 = .ok (.iload_n 2, 1) := by decide +kernel
theorem dX8_isSolid_11 : decode cX8_isSolid 11 = .ok (.ifCond .ge 5, 3) := by decide +kernel
theorem dX8_isSolid_14 : decode cX8_isSolid 14 = .ok (.iconst 1, 1) := by decide +kernel
theorem dX8_isSolid_15 : decode cX8_isSolid 15 = .ok (.ireturn, 1) := by decide +kernel
theorem dX8_isSolid_16 : decode cX8_isSolid 16 = .ok (.iload_n 2, 1) := by decide +kernel
theorem dX8_isSolid_17 : decode cX8_isSolid 17 = .ok (.bipush 7, 2) := by decide +kernel
theorem dX8_isSolid_19 : decode cX8_isSolid 19 = .ok (.if_icmp .le 5, 3) := by decide +kernel
theorem dX8_isSolid_22 : decode cX8_isSolid 22 = .ok (.iconst 0, 1) := by decide +kernel
theorem dX8_isSolid_23 : decode cX8_isSolid 23 = .ok (.ireturn, 1) := by decide +kernel
theorem dX8_isSolid_24 : decode cX8_isSolid 24 = .ok (.aload_n 0, 1) := by decide +kernel
theorem dX8_isSolid_25 : decode cX8_isSolid 25 = .ok (.getfield 85, 3) := by decide +kernel
theorem dX8_isSolid_28 : decode cX8_isSolid 28 = .ok (.bipush 12, 2) := by decide +kernel
theorem dX8_isSolid_30 : decode cX8_isSolid 30 = .ok (.iload_n 2, 1) := by decide +kernel
theorem dX8_isSolid_31 : decode cX8_isSolid 31 = .ok (.imul, 1) := by decide +kernel
theorem dX8_isSolid_32 : decode cX8_isSolid 32 = .ok (.iload_n 1, 1) := by decide +kernel
theorem dX8_isSolid_33 : decode cX8_isSolid 33 = .ok (.iadd, 1) := by decide +kernel
theorem dX8_isSolid_34 : decode cX8_isSolid 34 = .ok (.iaload, 1) := by decide +kernel
theorem dX8_isSolid_35 : decode cX8_isSolid 35 = .ok (.istore_n 3, 1) := by decide +kernel
theorem dX8_isSolid_36 : decode cX8_isSolid 36 = .ok (.iload_n 3, 1) := by decide +kernel
theorem dX8_isSolid_37 : decode cX8_isSolid 37 = .ok (.iconst 1, 1) := by decide +kernel
theorem dX8_isSolid_38 : decode cX8_isSolid 38 = .ok (.if_icmp .eq 25, 3) := by decide +kernel
theorem dX8_isSolid_41 : decode cX8_isSolid 41 = .ok (.iload_n 3, 1) := by decide +kernel
theorem dX8_isSolid_42 : decode cX8_isSolid 42 = .ok (.bipush 6, 2) := by decide +kernel
theorem dX8_isSolid_44 : decode cX8_isSolid 44 = .ok (.if_icmp .ge 19, 3) := by decide +kernel
theorem dX8_isSolid_47 : decode cX8_isSolid 47 = .ok (.iload_n 3, 1) := by decide +kernel
theorem dX8_isSolid_48 : decode cX8_isSolid 48 = .ok (.iconst 3, 1) := by decide +kernel
theorem dX8_isSolid_49 : decode cX8_isSolid 49 = .ok (.if_icmp .ne 18, 3) := by decide +kernel
theorem dX8_isSolid_52 : decode cX8_isSolid 52 = .ok (.aload_n 0, 1) := by decide +kernel
theorem dX8_isSolid_53 : decode cX8_isSolid 53 = .ok (.getfield 118, 3) := by decide +kernel
theorem dX8_isSolid_56 : decode cX8_isSolid 56 = .ok (.aload_n 0, 1) := by decide +kernel
theorem dX8_isSolid_57 : decode cX8_isSolid 57 = .ok (.getfield 115, 3) := by decide +kernel
theorem dX8_isSolid_60 : decode cX8_isSolid 60 = .ok (.if_icmp .eq 7, 3) := by decide +kernel
theorem dX8_isSolid_63 : decode cX8_isSolid 63 = .ok (.iconst 1, 1) := by decide +kernel
theorem dX8_isSolid_64 : decode cX8_isSolid 64 = .ok (.goto 4, 3) := by decide +kernel
theorem dX8_isSolid_67 : decode cX8_isSolid 67 = .ok (.iconst 0, 1) := by decide +kernel
theorem dX8_isSolid_68 : decode cX8_isSolid 68 = .ok (.ireturn, 1) := by decide +kernel
theorem dX8_comes_0 : decode cX8_comes 0 = .ok (.iload_n 2, 1) := by decide +kernel
theorem dX8_comes_1 : decode cX8_comes 1 = .ok (.bipush 7, 2) := by decide +kernel
theorem dX8_comes_3 : decode cX8_comes 3 = .ok (.if_icmp .le 9, 3) := by decide +kernel
theorem dX8_comes_6 : decode cX8_comes 6 = .ok (.aload_n 0, 1) := by decide +kernel
theorem dX8_comes_7 : decode cX8_comes 7 = .ok (.iconst 3, 1) := by decide +kernel
theorem dX8_comes_8 : decode cX8_comes 8 = .ok (.putfield 121, 3) := by decide +kernel
theorem dX8_comes_11 : decode cX8_comes 11 = .ok (.return_, 1) := by decide +kernel
theorem dX8_comes_12 : decode cX8_comes 12 = .ok (.aload_n 0, 1) := by decide +kernel
theorem dX8_comes_13 : decode cX8_comes 13 = .ok (.bipush 12, 2) := by decide +kernel
theorem dX8_comes_15 : decode cX8_comes 15 = .ok (.iload_n 2, 1) := by decide +kernel
theorem dX8_comes_16 : decode cX8_comes 16 = .ok (.imul, 1) := by decide +kernel
theorem dX8_comes_17 : decode cX8_comes 17 = .ok (.iload_n 1, 1) := by decide +kernel
theorem dX8_comes_18 : decode cX8_comes 18 = .ok (.iadd, 1) := by decide +kernel
theorem dX8_comes_19 : decode cX8_comes 19 = .ok (.putfield 124, 3) := by decide +kernel
theorem dX8_comes_22 : decode cX8_comes 22 = .ok (.aload_n 0, 1) := by decide +kernel
theorem dX8_comes_23 : decode cX8_comes 23 = .ok (.dup, 1) := by decide +kernel
theorem dX8_comes_24 : decode cX8_comes 24 = .ok (.getfield 118, 3) := by decide +kernel
theorem dX8_comes_27 : decode cX8_comes 27 = .ok (.aload_n 0, 1) := by decide +kernel
theorem dX8_comes_28 : decode cX8_comes 28 = .ok (.getfield 88, 3) := by decide +kernel
theorem dX8_comes_31 : decode cX8_comes 31 = .ok (.aload_n 0, 1) := by decide +kernel
theorem dX8_comes_32 : decode cX8_comes 32 = .ok (.getfield 124, 3) := by decide +kernel
theorem dX8_comes_35 : decode cX8_comes 35 = .ok (.iaload, 1) := by decide +kernel
theorem dX8_comes_36 : decode cX8_comes 36 = .ok (.ior, 1) := by decide +kernel
theorem dX8_comes_37 : decode cX8_comes 37 = .ok (.putfield 118, 3) := by decide +kernel
theorem dX8_comes_40 : decode cX8_comes 40 = .ok (.aload_n 0, 1) := by decide +kernel
theorem dX8_comes_41 : decode cX8_comes 41 = .ok (.aload_n 0, 1) := by decide +kernel
theorem dX8_comes_42 : decode cX8_comes 42 = .ok (.getfield 85, 3) := by decide +kernel
theorem dX8_comes_45 : decode cX8_comes 45 = .ok (.aload_n 0, 1) := by decide +kernel
theorem dX8_comes_46 : decode cX8_comes 46 = .ok (.getfield 124, 3) := by decide +kernel
theorem dX8_comes_49 : decode cX8_comes 49 = .ok (.iaload, 1) := by decide +kernel
theorem dX8_comes_50 : decode cX8_comes 50 = .ok (.iconst 4, 1) := by decide +kernel
theorem dX8_comes_51 : decode cX8_comes 51 = .ok (.if_icmp .ne 7, 3) := by decide +kernel
theorem dX8_comes_54 : decode cX8_comes 54 = .ok (.iconst 3, 1) := by decide +kernel
theorem dX8_comes_55 : decode cX8_comes 55 = .ok (.goto 21, 3) := by decide +kernel
theorem dX8_comes_58 : decode cX8_comes 58 = .ok (.aload_n 0, 1) := by decide +kernel
theorem dX8_comes_59 : decode cX8_comes 59 = .ok (.getfield 85, 3) := by decide +kernel
theorem dX8_comes_62 : decode cX8_comes 62 = .ok (.aload_n 0, 1) := by decide +kernel
theorem dX8_comes_63 : decode cX8_comes 63 = .ok (.getfield 124, 3) := by decide +kernel
theorem dX8_comes_66 : decode cX8_comes 66 = .ok (.iaload, 1) := by decide +kernel
theorem dX8_comes_67 : decode cX8_comes 67 = .ok (.iconst 5, 1) := by decide +kernel
theorem dX8_comes_68 : decode cX8_comes 68 = .ok (.if_icmp .ne 7, 3) := by decide +kernel
theorem dX8_comes_71 : decode cX8_comes 71 = .ok (.iconst 2, 1) := by decide +kernel
theorem dX8_comes_72 : decode cX8_comes 72 = .ok (.goto 4, 3) := by decide +kernel
theorem dX8_comes_75 : decode cX8_comes 75 = .ok (.iconst 1, 1) := by decide +kernel
theorem dX8_comes_76 : decode cX8_comes 76 = .ok (.putfield 121, 3) := by decide +kernel
theorem dX8_comes_79 : decode cX8_comes 79 = .ok (.return_, 1) := by decide +kernel
set_option maxRecDepth 20000 in
theorem ggX8_starts_X8_comes : GoodIn wsX8_starts wsX8_comes := goodIn_r _ [7, 8, 9, 2, 10, 11, 12, 13, 14, 15, 16, 17, 18, 19, 20, 21, 22, 23, 24, 25, 26, 27, 28, 29, 30, 31, 32, 33, 34, 35, 36, 37, 38, 39, 40, 41, 42, 43, 44, 45, 46, 47, 48, 49] (by decide +kernel) (by decide +kernel)
set_option maxRecDepth 20000 in
theorem gX8_starts_X8_comes : GoodIn wsX8_starts (wsV RX8 130 RX8 yX8_comes wsX8_comes) := goodIn_app (goodIn_of _ (by decide +kernel)) ggX8_starts_X8_comes
theorem dX8_starts_0 : decode cX8_starts 0 = .ok (.aload_n 0, 1) := by decide +kernel
theorem dX8_starts_1 : decode cX8_starts 1 = .ok (.iconst 0, 1) := by decide +kernel
theorem dX8_starts_2 : decode cX8_starts 2 = .ok (.putfield 127, 3) := by decide +kernel
theorem dX8_starts_5 : decode cX8_starts 5 = .ok (.aload_n 0, 1) := by decide +kernel
theorem dX8_starts_6 : decode cX8_starts 6 = .ok (.iconst 0, 1) := by decide +kernel
theorem dX8_starts_7 : decode cX8_starts 7 = .ok (.putfield 118, 3) := by decide +kernel
theorem dX8_starts_10 : decode cX8_starts 10 = .ok (.aload_n 0, 1) := by decide +kernel
theorem dX8_starts_11 : decode cX8_starts 11 = .ok (.iload_n 1, 1) := by decide +kernel
theorem dX8_starts_12 : decode cX8_starts 12 = .ok (.bipush 12, 2) := by decide +kernel
theorem dX8_starts_14 : decode cX8_starts 14 = .ok (.irem, 1) := by decide +kernel
theorem dX8_starts_15 : decode cX8_starts 15 = .ok (.iload_n 1, 1) := by decide +kernel
theorem dX8_starts_16 : decode cX8_starts 16 = .ok (.bipush 12, 2) := by decide +kernel
theorem dX8_starts_18 : decode cX8_starts 18 = .ok (.idiv, 1) := by decide +kernel
theorem dX8_starts_19 : decode cX8_starts 19 = .ok (.invokevirtual 130, 3) := by decide +kernel
theorem dX8_starts_22 : decode cX8_starts 22 = .ok (.return_, 1) := by decide +kernel
set_option maxRecDepth 20000 in
theorem ggX8_moves_X8_isSolid : GoodIn wsX8_moves wsX8_isSolid := goodIn_r _ [10, 4, 11, 12, 13, 14, 9, 15, 21, 22, 23, 24, 25, 26, 27, 28, 29, 30, 31, 32, 33, 34, 35, 36, 37, 38, 39, 40, 41, 42, 43, 44, 45, 46, 47, 48, 49, 50, 51, 52, 53, 54, 55, 56, 57, 58] (by decide +kernel) (by decide +kernel)
set_option maxRecDepth 20000 in
theorem gX8_moves_X8_isSolid : GoodIn wsX8_moves (wsV RX8 134 RX8 yX8_isSolid wsX8_isSolid) := goodIn_app (goodIn_of _ (by decide +kernel)) ggX8_moves_X8_isSolid
set_option maxRecDepth 20000 in
theorem ggX8_moves_X8_comes : GoodIn wsX8_moves wsX8_comes := goodIn_r _ [19, 3, 1, 11, 20, 4, 21, 22, 23, 24, 25, 26, 27, 28, 29, 30, 31, 32, 33, 34, 35, 36, 37, 38, 39, 40, 41, 42, 43, 44, 45, 46, 47, 48, 49, 50, 51, 52, 53, 54, 55, 56, 57, 58] (by decide +kernel) (by decide +kernel)
set_option maxRecDepth 20000 in
theorem gX8_moves_X8_comes : GoodIn wsX8_moves (wsV RX8 130 RX8 yX8_comes wsX8_comes) := goodIn_app (goodIn_of _ (by decide +kernel)) ggX8_moves_X8_comes
theorem dX8_moves_0 : decode cX8_moves 0 = .ok (.aload_n 0, 1) := by decide +kernel
theorem dX8_moves_1 : decode cX8_moves 1 = .ok (.getfield 124, 3) := by decide +kernel
theorem dX8_moves_4 : decode cX8_moves 4 = .ok (.bipush 12, 2) := by decide +kernel
theorem dX8_moves_6 : decode cX8_moves 6 = .ok (.irem, 1) := by decide +kernel
theorem dX8_moves_7 : decode cX8_moves 7 = .ok (.istore_n 2, 1) := by decide +kernel
theorem dX8_moves_8 : decode cX8_moves 8 = .ok (.aload_n 0, 1) := by decide +kernel
theorem dX8_moves_9 : decode cX8_moves 9 = .ok (.getfield 127, 3) := by decide +kernel
theorem dX8_moves_12 : decode cX8_moves 12 = .ok (.ifCond .lt 35, 3) := by decide +kernel
theorem dX8_moves_15 : decode cX8_moves 15 = .ok (.aload_n 0, 1) := by decide +kernel
theorem dX8_moves_16 : decode cX8_moves 16 = .ok (.iload_n 2, 1) := by decide +kernel
theorem dX8_moves_17 : decode cX8_moves 17 = .ok (.aload_n 0, 1) := by decide +kernel
theorem dX8_moves_18 : decode cX8_moves 18 = .ok (.getfield 124, 3) := by decide +kernel
theorem dX8_moves_21 : decode cX8_moves 21 = .ok (.bipush 12, 2) := by decide +kernel
theorem dX8_moves_23 : decode cX8_moves 23 = .ok (.idiv, 1) := by decide +kernel
theorem dX8_moves_24 : decode cX8_moves 24 = .ok (.iconst 1, 1) := by decide +kernel
theorem dX8_moves_25 : decode cX8_moves 25 = .ok (.iadd, 1) := by decide +kernel
theorem dX8_moves_26 : decode cX8_moves 26 = .ok (.invokevirtual 134, 3) := by decide +kernel
theorem dX8_moves_29 : decode cX8_moves 29 = .ok (.ifCond .eq 18, 3) := by decide +kernel
theorem dX8_moves_32 : decode cX8_moves 32 = .ok (.aload_n 0, 1) := by decide +kernel
theorem dX8_moves_33 : decode cX8_moves 33 = .ok (.iload_n 1, 1) := by decide +kernel
theorem dX8_moves_34 : decode cX8_moves 34 = .ok (.iconst 2, 1) := by decide +kernel
theorem dX8_moves_35 : decode cX8_moves 35 = .ok (.if_icmp .le 8, 3) := by decide +kernel
theorem dX8_moves_38 : decode cX8_moves 38 = .ok (.bipush (-2), 2) := by decide +kernel
theorem dX8_moves_40 : decode cX8_moves 40 = .ok (.goto 4, 3) := by decide +kernel
theorem dX8_moves_43 : decode cX8_moves 43 = .ok (.iconst 0, 1) := by decide +kernel
theorem dX8_moves_44 : decode cX8_moves 44 = .ok (.putfield 127, 3) := by decide +kernel
theorem dX8_moves_47 : decode cX8_moves 47 = .ok (.iload_n 2, 1) := by decide +kernel
theorem dX8_moves_48 : decode cX8_moves 48 = .ok (.iload_n 1, 1) := by decide +kernel
theorem dX8_moves_49 : decode cX8_moves 49 = .ok (.iconst 3, 1) := by decide +kernel
theorem dX8_moves_50 : decode cX8_moves 50 = .ok (.irem, 1) := by decide +kernel
theorem dX8_moves_51 : decode cX8_moves 51 = .ok (.iadd, 1) := by decide +kernel
theorem dX8_moves_52 : decode cX8_moves 52 = .ok (.iconst 1, 1) := by decide +kernel
theorem dX8_moves_53 : decode cX8_moves 53 = .ok (.isub, 1) := by decide +kernel
theorem dX8_moves_54 : decode cX8_moves 54 = .ok (.istore_n 3, 1) := by decide +kernel
theorem dX8_moves_55 : decode cX8_moves 55 = .ok (.iload_n 3, 1) := by decide +kernel
theorem dX8_moves_56 : decode cX8_moves 56 = .ok (.iload_n 2, 1) := by decide +kernel
theorem dX8_moves_57 : decode cX8_moves 57 = .ok (.if_icmp .eq 32, 3) := by decide +kernel
theorem dX8_moves_60 : decode cX8_moves 60 = .ok (.aload_n 0, 1) := by decide +kernel
theorem dX8_moves_61 : decode cX8_moves 61 = .ok (.iload_n 3, 1) := by decide +kernel
theorem dX8_moves_62 : decode cX8_moves 62 = .ok (.aload_n 0, 1) := by decide +kernel
theorem dX8_moves_63 : decode cX8_moves 63 = .ok (.getfield 124, 3) := by decide +kernel
theorem dX8_moves_66 : decode cX8_moves 66 = .ok (.bipush 12, 2) := by decide +kernel
theorem dX8_moves_68 : decode cX8_moves 68 = .ok (.idiv, 1) := by decide +kernel
theorem dX8_moves_69 : decode cX8_moves 69 = .ok (.invokevirtual 134, 3) := by decide +kernel
theorem dX8_moves_72 : decode cX8_moves 72 = .ok (.ifCond .ne 17, 3) := by decide +kernel
theorem dX8_moves_75 : decode cX8_moves 75 = .ok (.iload_n 3, 1) := by decide +kernel
theorem dX8_moves_76 : decode cX8_moves 76 = .ok (.istore_n 2, 1) := by decide +kernel
theorem dX8_moves_77 : decode cX8_moves 77 = .ok (.aload_n 0, 1) := by decide +kernel
theorem dX8_moves_78 : decode cX8_moves 78 = .ok (.iload_n 2, 1) := by decide +kernel
theorem dX8_moves_79 : decode cX8_moves 79 = .ok (.aload_n 0, 1) := by decide +kernel
theorem dX8_moves_80 : decode cX8_moves 80 = .ok (.getfield 124, 3) := by decide +kernel
theorem dX8_moves_83 : decode cX8_moves 83 = .ok (.bipush 12, 2) := by decide +kernel
theorem dX8_moves_85 : decode cX8_moves 85 = .ok (.idiv, 1) := by decide +kernel
theorem dX8_moves_86 : decode cX8_moves 86 = .ok (.invokevirtual 130, 3) := by decide +kernel
theorem dX8_moves_89 : decode cX8_moves 89 = .ok (.aload_n 0, 1) := by decide +kernel
theorem dX8_moves_90 : decode cX8_moves 90 = .ok (.getfield 127, 3) := by decide +kernel
theorem dX8_moves_93 : decode cX8_moves 93 = .ok (.ifCond .ge 7, 3) := by decide +kernel
theorem dX8_moves_96 : decode cX8_moves 96 = .ok (.iconst (-1), 1) := by decide +kernel
theorem dX8_moves_97 : decode cX8_moves 97 = .ok (.goto 4, 3) := by decide +kernel
theorem dX8_moves_100 : decode cX8_moves 100 = .ok (.iconst 1, 1) := by decide +kernel
theorem dX8_moves_101 : decode cX8_moves 101 = .ok (.istore 4, 2) := by decide +kernel
theorem dX8_moves_103 : decode cX8_moves 103 = .ok (.iconst 0, 1) := by decide +kernel
theorem dX8_moves_104 : decode cX8_moves 104 = .ok (.istore 5, 2) := by decide +kernel
theorem dX8_moves_106 : decode cX8_moves 106 = .ok (.aload_n 0, 1) := by decide +kernel
theorem dX8_moves_107 : decode cX8_moves 107 = .ok (.getfield 127, 3) := by decide +kernel
theorem dX8_moves_110 : decode cX8_moves 110 = .ok (.iload 4, 2) := by decide +kernel
theorem dX8_moves_112 : decode cX8_moves 112 = .ok (.imul, 1) := by decide +kernel
theorem dX8_moves_113 : decode cX8_moves 113 = .ok (.istore 6, 2) := by decide +kernel
theorem dX8_moves_115 : decode cX8_moves 115 = .ok (.iload 6, 2) := by decide +kernel
theorem dX8_moves_117 : decode cX8_moves 117 = .ok (.ifCond .le 59, 3) := by decide +kernel
theorem dX8_moves_120 : decode cX8_moves 120 = .ok (.aload_n 0, 1) := by decide +kernel
theorem dX8_moves_121 : decode cX8_moves 121 = .ok (.getfield 121, 3) := by decide +kernel
theorem dX8_moves_124 : decode cX8_moves 124 = .ok (.iconst 1, 1) := by decide +kernel
theorem dX8_moves_125 : decode cX8_moves 125 = .ok (.if_icmp .ne 51, 3) := by decide +kernel
theorem dX8_moves_128 : decode cX8_moves 128 = .ok (.iload 5, 2) := by decide +kernel
theorem dX8_moves_130 : decode cX8_moves 130 = .ok (.ifCond .ne 46, 3) := by decide +kernel
theorem dX8_moves_133 : decode cX8_moves 133 = .ok (.aload_n 0, 1) := by decide +kernel
theorem dX8_moves_134 : decode cX8_moves 134 = .ok (.iload_n 2, 1) := by decide +kernel
theorem dX8_moves_135 : decode cX8_moves 135 = .ok (.aload_n 0, 1) := by decide +kernel
theorem dX8_moves_136 : decode cX8_moves 136 = .ok (.getfield 124, 3) := by decide +kernel
theorem dX8_moves_139 : decode cX8_moves 139 = .ok (.bipush 12, 2) := by decide +kernel
theorem dX8_moves_141 : decode cX8_moves 141 = .ok (.idiv, 1) := by decide +kernel
theorem dX8_moves_142 : decode cX8_moves 142 = .ok (.iload 4, 2) := by decide +kernel
theorem dX8_moves_144 : decode cX8_moves 144 = .ok (.iadd, 1) := by decide +kernel
theorem dX8_moves_145 : decode cX8_moves 145 = .ok (.invokevirtual 134, 3) := by decide +kernel
theorem dX8_moves_148 : decode cX8_moves 148 = .ok (.istore 5, 2) := by decide +kernel
theorem dX8_moves_150 : decode cX8_moves 150 = .ok (.iload 5, 2) := by decide +kernel
theorem dX8_moves_152 : decode cX8_moves 152 = .ok (.ifCond .ne 18, 3) := by decide +kernel
theorem dX8_moves_155 : decode cX8_moves 155 = .ok (.aload_n 0, 1) := by decide +kernel
theorem dX8_moves_156 : decode cX8_moves 156 = .ok (.iload_n 2, 1) := by decide +kernel
theorem dX8_moves_157 : decode cX8_moves 157 = .ok (.aload_n 0, 1) := by decide +kernel
theorem dX8_moves_158 : decode cX8_moves 158 = .ok (.getfield 124, 3) := by decide +kernel
theorem dX8_moves_161 : decode cX8_moves 161 = .ok (.bipush 12, 2) := by decide +kernel
theorem dX8_moves_163 : decode cX8_moves 163 = .ok (.idiv, 1) := by decide +kernel
theorem dX8_moves_164 : decode cX8_moves 164 = .ok (.iload 4, 2) := by decide +kernel
theorem dX8_moves_166 : decode cX8_moves 166 = .ok (.iadd, 1) := by decide +kernel
theorem dX8_moves_167 : decode cX8_moves 167 = .ok (.invokevirtual 130, 3) := by decide +kernel
theorem dX8_moves_170 : decode cX8_moves 170 = .ok (.iinc 6 (-1), 3) := by decide +kernel
theorem dX8_moves_173 : decode cX8_moves 173 = .ok (.goto (-58), 3) := by decide +kernel
theorem dX8_moves_176 : decode cX8_moves 176 = .ok (.aload_n 0, 1) := by decide +kernel
theorem dX8_moves_177 : decode cX8_moves 177 = .ok (.getfield 121, 3) := by decide +kernel
theorem dX8_moves_180 : decode cX8_moves 180 = .ok (.iconst 1, 1) := by decide +kernel
theorem dX8_moves_181 : decode cX8_moves 181 = .ok (.if_icmp .eq 4, 3) := by decide +kernel
theorem dX8_moves_184 : decode cX8_moves 184 = .ok (.return_, 1) := by decide +kernel
theorem dX8_moves_185 : decode cX8_moves 185 = .ok (.iload 5, 2) := by decide +kernel
theorem dX8_moves_187 : decode cX8_moves 187 = .ok (.ifCond .eq 23, 3) := by decide +kernel
theorem dX8_moves_190 : decode cX8_moves 190 = .ok (.iload 4, 2) := by decide +kernel
theorem dX8_moves_192 : decode cX8_moves 192 = .ok (.ifCond .le 18, 3) := by decide +kernel
theorem dX8_moves_195 : decode cX8_moves 195 = .ok (.aload_n 0, 1) := by decide +kernel
theorem dX8_moves_196 : decode cX8_moves 196 = .ok (.getfield 85, 3) := by decide +kernel
theorem dX8_moves_199 : decode cX8_moves 199 = .ok (.aload_n 0, 1) := by decide +kernel
theorem dX8_moves_200 : decode cX8_moves 200 = .ok (.getfield 124, 3) := by decide +kernel
theorem dX8_moves_203 : decode cX8_moves 203 = .ok (.bipush 12, 2) := by decide +kernel
theorem dX8_moves_205 : decode cX8_moves 205 = .ok (.iadd, 1) := by decide +kernel
theorem dX8_moves_206 : decode cX8_moves 206 = .ok (.iaload, 1) := by decide +kernel
theorem dX8_moves_207 : decode cX8_moves 207 = .ok (.goto 4, 3) := by decide +kernel
theorem dX8_moves_210 : decode cX8_moves 210 = .ok (.iconst 0, 1) := by decide +kernel
theorem dX8_moves_211 : decode cX8_moves 211 = .ok (.istore 6, 2) := by decide +kernel
theorem dX8_moves_213 : decode cX8_moves 213 = .ok (.aload_n 0, 1) := by decide +kernel
theorem dX8_moves_214 : decode cX8_moves 214 = .ok (.getfield 127, 3) := by decide +kernel
theorem dX8_moves_217 : decode cX8_moves 217 = .ok (.iconst 3, 1) := by decide +kernel
theorem dX8_moves_218 : decode cX8_moves 218 = .ok (.if_icmp .ge 12, 3) := by decide +kernel
theorem dX8_moves_221 : decode cX8_moves 221 = .ok (.aload_n 0, 1) := by decide +kernel
theorem dX8_moves_222 : decode cX8_moves 222 = .ok (.getfield 127, 3) := by decide +kernel
theorem dX8_moves_225 : decode cX8_moves 225 = .ok (.iconst 1, 1) := by decide +kernel
theorem dX8_moves_226 : decode cX8_moves 226 = .ok (.iadd, 1) := by decide +kernel
theorem dX8_moves_227 : decode cX8_moves 227 = .ok (.goto 4, 3) := by decide +kernel
theorem dX8_moves_230 : decode cX8_moves 230 = .ok (.iconst 3, 1) := by decide +kernel
theorem dX8_moves_231 : decode cX8_moves 231 = .ok (.istore 7, 2) := by decide +kernel
theorem dX8_moves_233 : decode cX8_moves 233 = .ok (.aload_n 0, 1) := by decide +kernel
theorem dX8_moves_234 : decode cX8_moves 234 = .ok (.iload 5, 2) := by decide +kernel
theorem dX8_moves_236 : decode cX8_moves 236 = .ok (.ifCond .ne 8, 3) := by decide +kernel
theorem dX8_moves_239 : decode cX8_moves 239 = .ok (.iload 7, 2) := by decide +kernel
theorem dX8_moves_241 : decode cX8_moves 241 = .ok (.goto 25, 3) := by decide +kernel
theorem dX8_moves_244 : decode cX8_moves 244 = .ok (.iload 6, 2) := by decide +kernel
theorem dX8_moves_246 : decode cX8_moves 246 = .ok (.bipush 6, 2) := by decide +kernel
theorem dX8_moves_248 : decode cX8_moves 248 = .ok (.if_icmp .lt 17, 3) := by decide +kernel
theorem dX8_moves_251 : decode cX8_moves 251 = .ok (.aload_n 0, 1) := by decide +kernel
theorem dX8_moves_252 : decode cX8_moves 252 = .ok (.getfield 7, 3) := by decide +kernel
theorem dX8_moves_255 : decode cX8_moves 255 = .ok (.iload 6, 2) := by decide +kernel
theorem dX8_moves_257 : decode cX8_moves 257 = .ok (.bipush 6, 2) := by decide +kernel
theorem dX8_moves_259 : decode cX8_moves 259 = .ok (.isub, 1) := by decide +kernel
theorem dX8_moves_260 : decode cX8_moves 260 = .ok (.iaload, 1) := by decide +kernel
theorem dX8_moves_261 : decode cX8_moves 261 = .ok (.ineg, 1) := by decide +kernel
theorem dX8_moves_262 : decode cX8_moves 262 = .ok (.goto 4, 3) := by decide +kernel
theorem dX8_moves_265 : decode cX8_moves 265 = .ok (.iconst 0, 1) := by decide +kernel
theorem dX8_moves_266 : decode cX8_moves 266 = .ok (.putfield 127, 3) := by decide +kernel
theorem dX8_moves_269 : decode cX8_moves 269 = .ok (.return_, 1) := by decide +kernel
theorem dX8_code_0 : decode cX8_code 0 = .ok (.bipush 64, 2) := by decide +kernel
theorem dX8_code_2 : decode cX8_code 2 = .ok (.aload_n 0, 1) := by decide +kernel
theorem dX8_code_3 : decode cX8_code 3 = .ok (.getfield 124, 3) := by decide +kernel
theorem dX8_code_6 : decode cX8_code 6 = .ok (.imul, 1) := by decide +kernel
theorem dX8_code_7 : decode cX8_code 7 = .ok (.bipush 8, 2) := by decide +kernel
theorem dX8_code_9 : decode cX8_code 9 = .ok (.aload_n 0, 1) := by decide +kernel
theorem dX8_code_10 : decode cX8_code 10 = .ok (.getfield 127, 3) := by decide +kernel
theorem dX8_code_13 : decode cX8_code 13 = .ok (.iconst 4, 1) := by decide +kernel
theorem dX8_code_14 : decode cX8_code 14 = .ok (.iadd, 1) := by decide +kernel
theorem dX8_code_15 : decode cX8_code 15 = .ok (.imul, 1) := by decide +kernel
theorem dX8_code_16 : decode cX8_code 16 = .ok (.iadd, 1) := by decide +kernel
theorem dX8_code_17 : decode cX8_code 17 = .ok (.aload_n 0, 1) := by decide +kernel
theorem dX8_code_18 : decode cX8_code 18 = .ok (.getfield 118, 3) := by decide +kernel
theorem dX8_code_21 : decode cX8_code 21 = .ok (.iadd, 1) := by decide +kernel
theorem dX8_code_22 : decode cX8_code 22 = .ok (.ireturn, 1) := by decide +kernel
set_option maxRecDepth 20000 in
theorem ggX8_searches_X8_starts : GoodIn wsX8_searches wsX8_starts := goodIn_r _ [12, 6, 7, 13, 14, 15, 11, 16, 3, 5, 17, 18, 36, 37, 38, 39, 40, 41, 42, 43, 44, 45, 46, 47, 48, 49, 50, 51, 52, 53, 54, 55, 56, 57, 58, 59, 60, 61, 62, 63, 64, 65, 66, 67, 68, 69, 70, 71, 72, 73] (by decide +kernel) (by decide +kernel)
set_option maxRecDepth 20000 in
theorem gX8_searches_X8_starts : GoodIn wsX8_searches (wsV RX8 138 RX8 yX8_starts wsX8_starts) := goodIn_app (goodIn_of _ (by decide +kernel)) ggX8_searches_X8_starts
set_option maxRecDepth 20000 in
theorem ggX8_searches_X8_code : GoodIn wsX8_searches wsX8_code := goodIn_r _ [22, 5, 6, 7, 36, 37, 38, 39, 40, 41, 42, 43, 44, 45, 46, 47, 48, 49, 50, 51, 52, 53, 54, 55, 56, 57, 58, 59, 60, 61, 62, 63, 64, 65, 66, 67, 68, 69, 70, 71, 72, 73] (by decide +kernel) (by decide +kernel)
set_option maxRecDepth 20000 in
theorem gX8_searches_X8_code : GoodIn wsX8_searches (wsV RX8 142 RX8 yX8_code wsX8_code) := goodIn_app (goodIn_of _ (by decide +kernel)) ggX8_searches_X8_code
set_option maxRecDepth 20000 in
theorem ggX8_searches_X8_moves : GoodIn wsX8_searches wsX8_moves := goodIn_r _ [26, 5, 6, 3, 18, 27, 28, 29, 30, 11, 31, 7, 32, 33, 34, 35, 13, 14, 15, 16, 17, 36, 37, 38, 39, 40, 41, 42, 43, 44, 45, 46, 47, 48, 49, 50, 51, 52, 53, 54, 55, 56, 57, 58, 59, 60, 61, 62, 63, 64, 65, 66, 67, 68, 69, 70, 71, 72, 73] (by decide +kernel) (by decide +kernel)
set_option maxRecDepth 20000 in
theorem gX8_searches_X8_moves : GoodIn wsX8_searches (wsV RX8 146 RX8 yX8_moves wsX8_moves) := goodIn_app (goodIn_of _ (by decide +kernel)) ggX8_searches_X8_moves
theorem dX8_searches_0 : decode cX8_searches 0 = .ok (.iconst (-1), 1) := by decide +kernel
theorem dX8_searches_1 : decode cX8_searches 1 = .ok (.istore_n 2, 1) := by decide +kernel
theorem dX8_searches_2 : decode cX8_searches 2 = .ok (.iconst 0, 1) := by decide +kernel
theorem dX8_searches_3 : decode cX8_searches 3 = .ok (.istore_n 3, 1) := by decide +kernel
theorem dX8_searches_4 : decode cX8_searches 4 = .ok (.iconst 0, 1) := by decide +kernel
theorem dX8_searches_5 : decode cX8_searches 5 = .ok (.istore 4, 2) := by decide +kernel
theorem dX8_searches_7 : decode cX8_searches 7 = .ok (.iload 4, 2) := by decide +kernel
theorem dX8_searches_9 : decode cX8_searches 9 = .ok (.sipush 6144, 3) := by decide +kernel
theorem dX8_searches_12 : decode cX8_searches 12 = .ok (.if_icmp .ge 17, 3) := by decide +kernel
theorem dX8_searches_15 : decode cX8_searches 15 = .ok (.aload_n 0, 1) := by decide +kernel
theorem dX8_searches_16 : decode cX8_searches 16 = .ok (.getfield 94, 3) := by decide +kernel
theorem dX8_searches_19 : decode cX8_searches 19 = .ok (.iload 4, 2) := by decide +kernel
theorem dX8_searches_21 : decode cX8_searches 21 = .ok (.iconst (-1), 1) := by decide +kernel
theorem dX8_searches_22 : decode cX8_searches 22 = .ok (.iastore, 1) := by decide +kernel
theorem dX8_searches_23 : decode cX8_searches 23 = .ok (.iinc 4 1, 3) := by decide +kernel
theorem dX8_searches_26 : decode cX8_searches 26 = .ok (.goto (-19), 3) := by decide +kernel
theorem dX8_searches_29 : decode cX8_searches 29 = .ok (.iconst 0, 1) := by decide +kernel
theorem dX8_searches_30 : decode cX8_searches 30 = .ok (.istore 4, 2) := by decide +kernel
theorem dX8_searches_32 : decode cX8_searches 32 = .ok (.iload 4, 2) := by decide +kernel
theorem dX8_searches_34 : decode cX8_searches 34 = .ok (.bipush 96, 2) := by decide +kernel
theorem dX8_searches_36 : decode cX8_searches 36 = .ok (.if_icmp .ge 17, 3) := by decide +kernel
theorem dX8_searches_39 : decode cX8_searches 39 = .ok (.aload_n 0, 1) := by decide +kernel
theorem dX8_searches_40 : decode cX8_searches 40 = .ok (.getfield 97, 3) := by decide +kernel
theorem dX8_searches_43 : decode cX8_searches 43 = .ok (.iload 4, 2) := by decide +kernel
theorem dX8_searches_45 : decode cX8_searches 45 = .ok (.iconst 0, 1) := by decide +kernel
theorem dX8_searches_46 : decode cX8_searches 46 = .ok (.bastore, 1) := by decide +kernel
theorem dX8_searches_47 : decode cX8_searches 47 = .ok (.iinc 4 1, 3) := by decide +kernel
theorem dX8_searches_50 : decode cX8_searches 50 = .ok (.goto (-18), 3) := by decide +kernel
theorem dX8_searches_53 : decode cX8_searches 53 = .ok (.aload_n 0, 1) := by decide +kernel
theorem dX8_searches_54 : decode cX8_searches 54 = .ok (.iload_n 1, 1) := by decide +kernel
theorem dX8_searches_55 : decode cX8_searches 55 = .ok (.invokevirtual 138, 3) := by decide +kernel
theorem dX8_searches_58 : decode cX8_searches 58 = .ok (.aload_n 0, 1) := by decide +kernel
theorem dX8_searches_59 : decode cX8_searches 59 = .ok (.getfield 121, 3) := by decide +kernel
theorem dX8_searches_62 : decode cX8_searches 62 = .ok (.iconst 3, 1) := by decide +kernel
theorem dX8_searches_63 : decode cX8_searches 63 = .ok (.if_icmp .eq 24, 3) := by decide +kernel
theorem dX8_searches_66 : decode cX8_searches 66 = .ok (.aload_n 0, 1) := by decide +kernel
theorem dX8_searches_67 : decode cX8_searches 67 = .ok (.getfield 97, 3) := by decide +kernel
theorem dX8_searches_70 : decode cX8_searches 70 = .ok (.iload_n 1, 1) := by decide +kernel
theorem dX8_searches_71 : decode cX8_searches 71 = .ok (.iconst 1, 1) := by decide +kernel
theorem dX8_searches_72 : decode cX8_searches 72 = .ok (.bastore, 1) := by decide +kernel
theorem dX8_searches_73 : decode cX8_searches 73 = .ok (.aload_n 0, 1) := by decide +kernel
theorem dX8_searches_74 : decode cX8_searches 74 = .ok (.getfield 121, 3) := by decide +kernel
theorem dX8_searches_77 : decode cX8_searches 77 = .ok (.iconst 2, 1) := by decide +kernel
theorem dX8_searches_78 : decode cX8_searches 78 = .ok (.if_icmp .ne 7, 3) := by decide +kernel
theorem dX8_searches_81 : decode cX8_searches 81 = .ok (.iconst 0, 1) := by decide +kernel
theorem dX8_searches_82 : decode cX8_searches 82 = .ok (.goto 4, 3) := by decide +kernel
theorem dX8_searches_85 : decode cX8_searches 85 = .ok (.iconst (-1), 1) := by decide +kernel
theorem dX8_searches_86 : decode cX8_searches 86 = .ok (.istore_n 2, 1) := by decide +kernel
theorem dX8_searches_87 : decode cX8_searches 87 = .ok (.aload_n 0, 1) := by decide +kernel
theorem dX8_searches_88 : decode cX8_searches 88 = .ok (.getfield 121, 3) := by decide +kernel
theorem dX8_searches_91 : decode cX8_searches 91 = .ok (.iconst 1, 1) := by decide +kernel
theorem dX8_searches_92 : decode cX8_searches 92 = .ok (.if_icmp .ne 27, 3) := by decide +kernel
theorem dX8_searches_95 : decode cX8_searches 95 = .ok (.aload_n 0, 1) := by decide +kernel
theorem dX8_searches_96 : decode cX8_searches 96 = .ok (.getfield 91, 3) := by decide +kernel
theorem dX8_searches_99 : decode cX8_searches 99 = .ok (.iconst 0, 1) := by decide +kernel
theorem dX8_searches_100 : decode cX8_searches 100 = .ok (.aload_n 0, 1) := by decide +kernel
theorem dX8_searches_101 : decode cX8_searches 101 = .ok (.invokevirtual 142, 3) := by decide +kernel
theorem dX8_searches_104 : decode cX8_searches 104 = .ok (.iastore, 1) := by decide +kernel
theorem dX8_searches_105 : decode cX8_searches 105 = .ok (.aload_n 0, 1) := by decide +kernel
theorem dX8_searches_106 : decode cX8_searches 106 = .ok (.getfield 94, 3) := by decide +kernel
theorem dX8_searches_109 : decode cX8_searches 109 = .ok (.aload_n 0, 1) := by decide +kernel
theorem dX8_searches_110 : decode cX8_searches 110 = .ok (.getfield 91, 3) := by decide +kernel
theorem dX8_searches_113 : decode cX8_searches 113 = .ok (.iconst 0, 1) := by decide +kernel
theorem dX8_searches_114 : decode cX8_searches 114 = .ok (.iaload, 1) := by decide +kernel
theorem dX8_searches_115 : decode cX8_searches 115 = .ok (.iconst 0, 1) := by decide +kernel
theorem dX8_searches_116 : decode cX8_searches 116 = .ok (.iastore, 1) := by decide +kernel
theorem dX8_searches_117 : decode cX8_searches 117 = .ok (.iconst 1, 1) := by decide +kernel
theorem dX8_searches_118 : decode cX8_searches 118 = .ok (.istore_n 3, 1) := by decide +kernel
theorem dX8_searches_119 : decode cX8_searches 119 = .ok (.iconst 0, 1) := by decide +kernel
theorem dX8_searches_120 : decode cX8_searches 120 = .ok (.istore 4, 2) := by decide +kernel
theorem dX8_searches_122 : decode cX8_searches 122 = .ok (.iload 4, 2) := by decide +kernel
theorem dX8_searches_124 : decode cX8_searches 124 = .ok (.iload_n 3, 1) := by decide +kernel
theorem dX8_searches_125 : decode cX8_searches 125 = .ok (.if_icmp .ge 186, 3) := by decide +kernel
theorem dX8_searches_128 : decode cX8_searches 128 = .ok (.iconst 0, 1) := by decide +kernel
theorem dX8_searches_129 : decode cX8_searches 129 = .ok (.istore 5, 2) := by decide +kernel
theorem dX8_searches_131 : decode cX8_searches 131 = .ok (.iload 5, 2) := by decide +kernel
theorem dX8_searches_133 : decode cX8_searches 133 = .ok (.bipush 6, 2) := by decide +kernel
theorem dX8_searches_135 : decode cX8_searches 135 = .ok (.if_icmp .ge 170, 3) := by decide +kernel
theorem dX8_searches_138 : decode cX8_searches 138 = .ok (.aload_n 0, 1) := by decide +kernel
theorem dX8_searches_139 : decode cX8_searches 139 = .ok (.aload_n 0, 1) := by decide +kernel
theorem dX8_searches_140 : decode cX8_searches 140 = .ok (.getfield 91, 3) := by decide +kernel
theorem dX8_searches_143 : decode cX8_searches 143 = .ok (.iload 4, 2) := by decide +kernel
theorem dX8_searches_145 : decode cX8_searches 145 = .ok (.iaload, 1) := by decide +kernel
theorem dX8_searches_146 : decode cX8_searches 146 = .ok (.bipush 64, 2) := by decide +kernel
theorem dX8_searches_148 : decode cX8_searches 148 = .ok (.idiv, 1) := by decide +kernel
theorem dX8_searches_149 : decode cX8_searches 149 = .ok (.putfield 124, 3) := by decide +kernel
theorem dX8_searches_152 : decode cX8_searches 152 = .ok (.aload_n 0, 1) := by decide +kernel
theorem dX8_searches_153 : decode cX8_searches 153 = .ok (.aload_n 0, 1) := by decide +kernel
theorem dX8_searches_154 : decode cX8_searches 154 = .ok (.getfield 91, 3) := by decide +kernel
theorem dX8_searches_157 : decode cX8_searches 157 = .ok (.iload 4, 2) := by decide +kernel
theorem dX8_searches_159 : decode cX8_searches 159 = .ok (.iaload, 1) := by decide +kernel
theorem dX8_searches_160 : decode cX8_searches 160 = .ok (.bipush 8, 2) := by decide +kernel
theorem dX8_searches_162 : decode cX8_searches 162 = .ok (.idiv, 1) := by decide +kernel
theorem dX8_searches_163 : decode cX8_searches 163 = .ok (.bipush 8, 2) := by decide +kernel
theorem dX8_searches_165 : decode cX8_searches 165 = .ok (.irem, 1) := by decide +kernel
theorem dX8_searches_166 : decode cX8_searches 166 = .ok (.iconst 4, 1) := by decide +kernel
theorem dX8_searches_167 : decode cX8_searches 167 = .ok (.isub, 1) := by decide +kernel
theorem dX8_searches_168 : decode cX8_searches 168 = .ok (.putfield 127, 3) := by decide +kernel
theorem dX8_searches_171 : decode cX8_searches 171 = .ok (.aload_n 0, 1) := by decide +kernel
theorem dX8_searches_172 : decode cX8_searches 172 = .ok (.aload_n 0, 1) := by decide +kernel
theorem dX8_searches_173 : decode cX8_searches 173 = .ok (.getfield 91, 3) := by decide +kernel
theorem dX8_searches_176 : decode cX8_searches 176 = .ok (.iload 4, 2) := by decide +kernel
theorem dX8_searches_178 : decode cX8_searches 178 = .ok (.iaload, 1) := by decide +kernel
theorem dX8_searches_179 : decode cX8_searches 179 = .ok (.bipush 8, 2) := by decide +kernel
theorem dX8_searches_181 : decode cX8_searches 181 = .ok (.irem, 1) := by decide +kernel
theorem dX8_searches_182 : decode cX8_searches 182 = .ok (.putfield 118, 3) := by decide +kernel
theorem dX8_searches_185 : decode cX8_searches 185 = .ok (.aload_n 0, 1) := by decide +kernel
theorem dX8_searches_186 : decode cX8_searches 186 = .ok (.iconst 1, 1) := by decide +kernel
theorem dX8_searches_187 : decode cX8_searches 187 = .ok (.putfield 121, 3) := by decide +kernel
theorem dX8_searches_190 : decode cX8_searches 190 = .ok (.aload_n 0, 1) := by decide +kernel
theorem dX8_searches_191 : decode cX8_searches 191 = .ok (.iload 5, 2) := by decide +kernel
theorem dX8_searches_193 : decode cX8_searches 193 = .ok (.invokevirtual 146, 3) := by decide +kernel
theorem dX8_searches_196 : decode cX8_searches 196 = .ok (.aload_n 0, 1) := by decide +kernel
theorem dX8_searches_197 : decode cX8_searches 197 = .ok (.getfield 121, 3) := by decide +kernel
theorem dX8_searches_200 : decode cX8_searches 200 = .ok (.iconst 3, 1) := by decide +kernel
theorem dX8_searches_201 : decode cX8_searches 201 = .ok (.if_icmp .eq 13, 3) := by decide +kernel
theorem dX8_searches_204 : decode cX8_searches 204 = .ok (.aload_n 0, 1) := by decide +kernel
theorem dX8_searches_205 : decode cX8_searches 205 = .ok (.getfield 97, 3) := by decide +kernel
theorem dX8_searches_208 : decode cX8_searches 208 = .ok (.aload_n 0, 1) := by decide +kernel
theorem dX8_searches_209 : decode cX8_searches 209 = .ok (.getfield 124, 3) := by decide +kernel
theorem dX8_searches_212 : decode cX8_searches 212 = .ok (.iconst 1, 1) := by decide +kernel
theorem dX8_searches_213 : decode cX8_searches 213 = .ok (.bastore, 1) := by decide +kernel
theorem dX8_searches_214 : decode cX8_searches 214 = .ok (.aload_n 0, 1) := by decide +kernel
theorem dX8_searches_215 : decode cX8_searches 215 = .ok (.getfield 121, 3) := by decide +kernel
theorem dX8_searches_218 : decode cX8_searches 218 = .ok (.iconst 2, 1) := by decide +kernel
theorem dX8_searches_219 : decode cX8_searches 219 = .ok (.if_icmp .ne 23, 3) := by decide +kernel
theorem dX8_searches_222 : decode cX8_searches 222 = .ok (.iload_n 2, 1) := by decide +kernel
theorem dX8_searches_223 : decode cX8_searches 223 = .ok (.iconst (-1), 1) := by decide +kernel
theorem dX8_searches_224 : decode cX8_searches 224 = .ok (.if_icmp .ne 18, 3) := by decide +kernel
theorem dX8_searches_227 : decode cX8_searches 227 = .ok (.aload_n 0, 1) := by decide +kernel
theorem dX8_searches_228 : decode cX8_searches 228 = .ok (.getfield 94, 3) := by decide +kernel
theorem dX8_searches_231 : decode cX8_searches 231 = .ok (.aload_n 0, 1) := by decide +kernel
theorem dX8_searches_232 : decode cX8_searches 232 = .ok (.getfield 91, 3) := by decide +kernel
theorem dX8_searches_235 : decode cX8_searches 235 = .ok (.iload 4, 2) := by decide +kernel
theorem dX8_searches_237 : decode cX8_searches 237 = .ok (.iaload, 1) := by decide +kernel
theorem dX8_searches_238 : decode cX8_searches 238 = .ok (.iaload, 1) := by decide +kernel
theorem dX8_searches_239 : decode cX8_searches 239 = .ok (.iconst 1, 1) := by decide +kernel
theorem dX8_searches_240 : decode cX8_searches 240 = .ok (.iadd, 1) := by decide +kernel
theorem dX8_searches_241 : decode cX8_searches 241 = .ok (.istore_n 2, 1) := by decide +kernel
theorem dX8_searches_242 : decode cX8_searches 242 = .ok (.aload_n 0, 1) := by decide +kernel
theorem dX8_searches_243 : decode cX8_searches 243 = .ok (.getfield 121, 3) := by decide +kernel
theorem dX8_searches_246 : decode cX8_searches 246 = .ok (.iconst 1, 1) := by decide +kernel
theorem dX8_searches_247 : decode cX8_searches 247 = .ok (.if_icmp .ne 52, 3) := by decide +kernel
theorem dX8_searches_250 : decode cX8_searches 250 = .ok (.aload_n 0, 1) := by decide +kernel
theorem dX8_searches_251 : decode cX8_searches 251 = .ok (.getfield 94, 3) := by decide +kernel
theorem dX8_searches_254 : decode cX8_searches 254 = .ok (.aload_n 0, 1) := by decide +kernel
theorem dX8_searches_255 : decode cX8_searches 255 = .ok (.invokevirtual 142, 3) := by decide +kernel
theorem dX8_searches_258 : decode cX8_searches 258 = .ok (.iaload, 1) := by decide +kernel
theorem dX8_searches_259 : decode cX8_searches 259 = .ok (.iconst (-1), 1) := by decide +kernel
theorem dX8_searches_260 : decode cX8_searches 260 = .ok (.if_icmp .ne 39, 3) := by decide +kernel
theorem dX8_searches_263 : decode cX8_searches 263 = .ok (.aload_n 0, 1) := by decide +kernel
theorem dX8_searches_264 : decode cX8_searches 264 = .ok (.getfield 94, 3) := by decide +kernel
theorem dX8_searches_267 : decode cX8_searches 267 = .ok (.aload_n 0, 1) := by decide +kernel
theorem dX8_searches_268 : decode cX8_searches 268 = .ok (.invokevirtual 142, 3) := by decide +kernel
theorem dX8_searches_271 : decode cX8_searches 271 = .ok (.aload_n 0, 1) := by decide +kernel
theorem dX8_searches_272 : decode cX8_searches 272 = .ok (.getfield 94, 3) := by decide +kernel
theorem dX8_searches_275 : decode cX8_searches 275 = .ok (.aload_n 0, 1) := by decide +kernel
theorem dX8_searches_276 : decode cX8_searches 276 = .ok (.getfield 91, 3) := by decide +kernel
theorem dX8_searches_279 : decode cX8_searches 279 = .ok (.iload 4, 2) := by decide +kernel
theorem dX8_searches_281 : decode cX8_searches 281 = .ok (.iaload, 1) := by decide +kernel
theorem dX8_searches_282 : decode cX8_searches 282 = .ok (.iaload, 1) := by decide +kernel
theorem dX8_searches_283 : decode cX8_searches 283 = .ok (.iconst 1, 1) := by decide +kernel
theorem dX8_searches_284 : decode cX8_searches 284 = .ok (.iadd, 1) := by decide +kernel
theorem dX8_searches_285 : decode cX8_searches 285 = .ok (.iastore, 1) := by decide +kernel
theorem dX8_searches_286 : decode cX8_searches 286 = .ok (.aload_n 0, 1) := by decide +kernel
theorem dX8_searches_287 : decode cX8_searches 287 = .ok (.getfield 91, 3) := by decide +kernel
theorem dX8_searches_290 : decode cX8_searches 290 = .ok (.iload_n 3, 1) := by decide +kernel
theorem dX8_searches_291 : decode cX8_searches 291 = .ok (.aload_n 0, 1) := by decide +kernel
theorem dX8_searches_292 : decode cX8_searches 292 = .ok (.invokevirtual 142, 3) := by decide +kernel
theorem dX8_searches_295 : decode cX8_searches 295 = .ok (.iastore, 1) := by decide +kernel
theorem dX8_searches_296 : decode cX8_searches 296 = .ok (.iinc 3 1, 3) := by decide +kernel
theorem dX8_searches_299 : decode cX8_searches 299 = .ok (.iinc 5 1, 3) := by decide +kernel
theorem dX8_searches_302 : decode cX8_searches 302 = .ok (.goto (-171), 3) := by decide +kernel
theorem dX8_searches_305 : decode cX8_searches 305 = .ok (.iinc 4 1, 3) := by decide +kernel
theorem dX8_searches_308 : decode cX8_searches 308 = .ok (.goto (-186), 3) := by decide +kernel
theorem dX8_searches_311 : decode cX8_searches 311 = .ok (.iload_n 2, 1) := by decide +kernel
theorem dX8_searches_312 : decode cX8_searches 312 = .ok (.ireturn, 1) := by decide +kernel
theorem dX8_opens_0 : decode cX8_opens 0 = .ok (.aload_n 0, 1) := by decide +kernel
theorem dX8_opens_1 : decode cX8_opens 1 = .ok (.getfield 13, 3) := by decide +kernel
theorem dX8_opens_4 : decode cX8_opens 4 = .ok (.aload_n 0, 1) := by decide +kernel
theorem dX8_opens_5 : decode cX8_opens 5 = .ok (.getfield 109, 3) := by decide +kernel
theorem dX8_opens_8 : decode cX8_opens 8 = .ok (.iload_n 1, 1) := by decide +kernel
theorem dX8_opens_9 : decode cX8_opens 9 = .ok (.iastore, 1) := by decide +kernel
theorem dX8_opens_10 : decode cX8_opens 10 = .ok (.aload_n 0, 1) := by decide +kernel
theorem dX8_opens_11 : decode cX8_opens 11 = .ok (.getfield 19, 3) := by decide +kernel
theorem dX8_opens_14 : decode cX8_opens 14 = .ok (.aload_n 0, 1) := by decide +kernel
theorem dX8_opens_15 : decode cX8_opens 15 = .ok (.getfield 109, 3) := by decide +kernel
theorem dX8_opens_18 : decode cX8_opens 18 = .ok (.iload_n 2, 1) := by decide +kernel
theorem dX8_opens_19 : decode cX8_opens 19 = .ok (.iastore, 1) := by decide +kernel
theorem dX8_opens_20 : decode cX8_opens 20 = .ok (.aload_n 0, 1) := by decide +kernel
theorem dX8_opens_21 : decode cX8_opens 21 = .ok (.getfield 22, 3) := by decide +kernel
theorem dX8_opens_24 : decode cX8_opens 24 = .ok (.aload_n 0, 1) := by decide +kernel
theorem dX8_opens_25 : decode cX8_opens 25 = .ok (.getfield 109, 3) := by decide +kernel
theorem dX8_opens_28 : decode cX8_opens 28 = .ok (.bipush (-2), 2) := by decide +kernel
theorem dX8_opens_30 : decode cX8_opens 30 = .ok (.iastore, 1) := by decide +kernel
theorem dX8_opens_31 : decode cX8_opens 31 = .ok (.aload_n 0, 1) := by decide +kernel
theorem dX8_opens_32 : decode cX8_opens 32 = .ok (.getfield 25, 3) := by decide +kernel
theorem dX8_opens_35 : decode cX8_opens 35 = .ok (.aload_n 0, 1) := by decide +kernel
theorem dX8_opens_36 : decode cX8_opens 36 = .ok (.getfield 109, 3) := by decide +kernel
theorem dX8_opens_39 : decode cX8_opens 39 = .ok (.iload_n 3, 1) := by decide +kernel
theorem dX8_opens_40 : decode cX8_opens 40 = .ok (.iastore, 1) := by decide +kernel
theorem dX8_opens_41 : decode cX8_opens 41 = .ok (.aload_n 0, 1) := by decide +kernel
theorem dX8_opens_42 : decode cX8_opens 42 = .ok (.dup, 1) := by decide +kernel
theorem dX8_opens_43 : decode cX8_opens 43 = .ok (.getfield 109, 3) := by decide +kernel
theorem dX8_opens_46 : decode cX8_opens 46 = .ok (.iconst 1, 1) := by decide +kernel
theorem dX8_opens_47 : decode cX8_opens 47 = .ok (.iadd, 1) := by decide +kernel
theorem dX8_opens_48 : decode cX8_opens 48 = .ok (.putfield 109, 3) := by decide +kernel
theorem dX8_opens_51 : decode cX8_opens 51 = .ok (.aload_n 0, 1) := by decide +kernel
theorem dX8_opens_52 : decode cX8_opens 52 = .ok (.getfield 109, 3) := by decide +kernel
theorem dX8_opens_55 : decode cX8_opens 55 = .ok (.iconst 1, 1) := by decide +kernel
theorem dX8_opens_56 : decode cX8_opens 56 = .ok (.isub, 1) := by decide +kernel
theorem dX8_opens_57 : decode cX8_opens 57 = .ok (.ireturn, 1) := by decide +kernel
set_option maxRecDepth 20000 in
theorem ggX8_begin_X8_isPerson : GoodIn wsX8_begin wsX8_isPerson := goodIn_r _ [7, 8, 9, 6, 10] (by decide +kernel) (by decide +kernel)
set_option maxRecDepth 20000 in
theorem gX8_begin_X8_isPerson : GoodIn wsX8_begin (va_wsS RX8 149 yX8_isPerson wsX8_isPerson) := goodIn_app (goodIn_of _ (by decide +kernel)) ggX8_begin_X8_isPerson
set_option maxRecDepth 20000 in
theorem ggX8_begin_X8_fails : GoodIn wsX8_begin wsX8_fails := goodIn_r _ [14, 1, 23, 24, 25, 26, 27, 28, 29, 30, 31, 32, 33, 34, 35, 36, 37, 38, 39, 40, 41, 42, 43, 44, 45, 46, 47, 48, 49, 50, 51, 52, 53, 54, 55, 56, 57, 58, 59, 60] (by decide +kernel) (by decide +kernel)
set_option maxRecDepth 20000 in
theorem gX8_begin_X8_fails : GoodIn wsX8_begin (wsV RX8 153 RX8 yX8_fails wsX8_fails) := goodIn_app (goodIn_of _ (by decide +kernel)) ggX8_begin_X8_fails
set_option maxRecDepth 20000 in
theorem ggX8_begin_X8_opens : GoodIn wsX8_begin wsX8_opens := goodIn_r _ [18, 19, 2, 20, 21, 22, 23, 24, 25, 26, 27, 28, 29, 30, 31, 32, 33, 34, 35, 36, 37, 38, 39, 40, 41, 42, 43, 44, 45, 46, 47, 48, 49, 50, 51, 52, 53, 54, 55, 56, 57, 58, 59, 60] (by decide +kernel) (by decide +kernel)
set_option maxRecDepth 20000 in
theorem gX8_begin_X8_opens : GoodIn wsX8_begin (wsV RX8 157 RX8 yX8_opens wsX8_opens) := goodIn_app (goodIn_of _ (by decide +kernel)) ggX8_begin_X8_opens
theorem dX8_begin_0 : decode cX8_begin 0 = .ok (.aload_n 0, 1) := by decide +kernel
theorem dX8_begin_1 : decode cX8_begin 1 = .ok (.iconst 0, 1) := by decide +kernel
theorem dX8_begin_2 : decode cX8_begin 2 = .ok (.putfield 101, 3) := by decide +kernel
theorem dX8_begin_5 : decode cX8_begin 5 = .ok (.iload_n 1, 1) := by decide +kernel
theorem dX8_begin_6 : decode cX8_begin 6 = .ok (.invokestatic 149, 3) := by decide +kernel
theorem dX8_begin_9 : decode cX8_begin 9 = .ok (.ifCond .ne 9, 3) := by decide +kernel
theorem dX8_begin_12 : decode cX8_begin 12 = .ok (.aload_n 0, 1) := by decide +kernel
theorem dX8_begin_13 : decode cX8_begin 13 = .ok (.iconst 1, 1) := by decide +kernel
theorem dX8_begin_14 : decode cX8_begin 14 = .ok (.invokevirtual 153, 3) := by decide +kernel
theorem dX8_begin_17 : decode cX8_begin 17 = .ok (.ireturn, 1) := by decide +kernel
theorem dX8_begin_18 : decode cX8_begin 18 = .ok (.aload_n 0, 1) := by decide +kernel
theorem dX8_begin_19 : decode cX8_begin 19 = .ok (.getfield 109, 3) := by decide +kernel
theorem dX8_begin_22 : decode cX8_begin 22 = .ok (.bipush 12, 2) := by decide +kernel
theorem dX8_begin_24 : decode cX8_begin 24 = .ok (.if_icmp .ne 9, 3) := by decide +kernel
theorem dX8_begin_27 : decode cX8_begin 27 = .ok (.aload_n 0, 1) := by decide +kernel
theorem dX8_begin_28 : decode cX8_begin 28 = .ok (.iconst 2, 1) := by decide +kernel
theorem dX8_begin_29 : decode cX8_begin 29 = .ok (.invokevirtual 153, 3) := by decide +kernel
theorem dX8_begin_32 : decode cX8_begin 32 = .ok (.ireturn, 1) := by decide +kernel
theorem dX8_begin_33 : decode cX8_begin 33 = .ok (.iconst 0, 1) := by decide +kernel
theorem dX8_begin_34 : decode cX8_begin 34 = .ok (.istore_n 2, 1) := by decide +kernel
theorem dX8_begin_35 : decode cX8_begin 35 = .ok (.iload_n 2, 1) := by decide +kernel
theorem dX8_begin_36 : decode cX8_begin 36 = .ok (.bipush 96, 2) := by decide +kernel
theorem dX8_begin_38 : decode cX8_begin 38 = .ok (.if_icmp .ge 34, 3) := by decide +kernel
theorem dX8_begin_41 : decode cX8_begin 41 = .ok (.aload_n 0, 1) := by decide +kernel
theorem dX8_begin_42 : decode cX8_begin 42 = .ok (.getfield 16, 3) := by decide +kernel
theorem dX8_begin_45 : decode cX8_begin 45 = .ok (.bipush 96, 2) := by decide +kernel
theorem dX8_begin_47 : decode cX8_begin 47 = .ok (.aload_n 0, 1) := by decide +kernel
theorem dX8_begin_48 : decode cX8_begin 48 = .ok (.getfield 109, 3) := by decide +kernel
theorem dX8_begin_51 : decode cX8_begin 51 = .ok (.imul, 1) := by decide +kernel
theorem dX8_begin_52 : decode cX8_begin 52 = .ok (.iload_n 2, 1) := by decide +kernel
theorem dX8_begin_53 : decode cX8_begin 53 = .ok (.iadd, 1) := by decide +kernel
theorem dX8_begin_54 : decode cX8_begin 54 = .ok (.iload_n 2, 1) := by decide +kernel
theorem dX8_begin_55 : decode cX8_begin 55 = .ok (.bipush 84, 2) := by decide +kernel
theorem dX8_begin_57 : decode cX8_begin 57 = .ok (.if_icmp .ge 7, 3) := by decide +kernel
theorem dX8_begin_60 : decode cX8_begin 60 = .ok (.iconst 0, 1) := by decide +kernel
theorem dX8_begin_61 : decode cX8_begin 61 = .ok (.goto 4, 3) := by decide +kernel
theorem dX8_begin_64 : decode cX8_begin 64 = .ok (.iconst 1, 1) := by decide +kernel
theorem dX8_begin_65 : decode cX8_begin 65 = .ok (.iastore, 1) := by decide +kernel
theorem dX8_begin_66 : decode cX8_begin 66 = .ok (.iinc 2 1, 3) := by decide +kernel
theorem dX8_begin_69 : decode cX8_begin 69 = .ok (.goto (-34), 3) := by decide +kernel
theorem dX8_begin_72 : decode cX8_begin 72 = .ok (.aload_n 0, 1) := by decide +kernel
theorem dX8_begin_73 : decode cX8_begin 73 = .ok (.iload_n 1, 1) := by decide +kernel
theorem dX8_begin_74 : decode cX8_begin 74 = .ok (.bipush 72, 2) := by decide +kernel
theorem dX8_begin_76 : decode cX8_begin 76 = .ok (.iconst (-1), 1) := by decide +kernel
theorem dX8_begin_77 : decode cX8_begin 77 = .ok (.invokevirtual 157, 3) := by decide +kernel
theorem dX8_begin_80 : decode cX8_begin 80 = .ok (.ireturn, 1) := by decide +kernel
theorem dX8_keysOf_0 : decode cX8_keysOf 0 = .ok (.iconst 0, 1) := by decide +kernel
theorem dX8_keysOf_1 : decode cX8_keysOf 1 = .ok (.istore_n 2, 1) := by decide +kernel
theorem dX8_keysOf_2 : decode cX8_keysOf 2 = .ok (.iconst 0, 1) := by decide +kernel
theorem dX8_keysOf_3 : decode cX8_keysOf 3 = .ok (.istore_n 3, 1) := by decide +kernel
theorem dX8_keysOf_4 : decode cX8_keysOf 4 = .ok (.iload_n 3, 1) := by decide +kernel
theorem dX8_keysOf_5 : decode cX8_keysOf 5 = .ok (.bipush 96, 2) := by decide +kernel
theorem dX8_keysOf_7 : decode cX8_keysOf 7 = .ok (.if_icmp .ge 32, 3) := by decide +kernel
theorem dX8_keysOf_10 : decode cX8_keysOf 10 = .ok (.iload_n 2, 1) := by decide +kernel
theorem dX8_keysOf_11 : decode cX8_keysOf 11 = .ok (.aload_n 0, 1) := by decide +kernel
theorem dX8_keysOf_12 : decode cX8_keysOf 12 = .ok (.getfield 16, 3) := by decide +kernel
theorem dX8_keysOf_15 : decode cX8_keysOf 15 = .ok (.bipush 96, 2) := by decide +kernel
theorem dX8_keysOf_17 : decode cX8_keysOf 17 = .ok (.iload_n 1, 1) := by decide +kernel
theorem dX8_keysOf_18 : decode cX8_keysOf 18 = .ok (.imul, 1) := by decide +kernel
theorem dX8_keysOf_19 : decode cX8_keysOf 19 = .ok (.iload_n 3, 1) := by decide +kernel
theorem dX8_keysOf_20 : decode cX8_keysOf 20 = .ok (.iadd, 1) := by decide +kernel
theorem dX8_keysOf_21 : decode cX8_keysOf 21 = .ok (.iaload, 1) := by decide +kernel
theorem dX8_keysOf_22 : decode cX8_keysOf 22 = .ok (.iconst 2, 1) := by decide +kernel
theorem dX8_keysOf_23 : decode cX8_keysOf 23 = .ok (.if_icmp .ne 7, 3) := by decide +kernel
theorem dX8_keysOf_26 : decode cX8_keysOf 26 = .ok (.iconst 1, 1) := by decide +kernel
theorem dX8_keysOf_27 : decode cX8_keysOf 27 = .ok (.goto 4, 3) := by decide +kernel
theorem dX8_keysOf_30 : decode cX8_keysOf 30 = .ok (.iconst 0, 1) := by decide +kernel
theorem dX8_keysOf_31 : decode cX8_keysOf 31 = .ok (.iadd, 1) := by decide +kernel
theorem dX8_keysOf_32 : decode cX8_keysOf 32 = .ok (.istore_n 2, 1) := by decide +kernel
theorem dX8_keysOf_33 : decode cX8_keysOf 33 = .ok (.iinc 3 1, 3) := by decide +kernel
theorem dX8_keysOf_36 : decode cX8_keysOf 36 = .ok (.goto (-32), 3) := by decide +kernel
theorem dX8_keysOf_39 : decode cX8_keysOf 39 = .ok (.iload_n 2, 1) := by decide +kernel
theorem dX8_keysOf_40 : decode cX8_keysOf 40 = .ok (.ireturn, 1) := by decide +kernel
theorem dX8_remembers_0 : decode cX8_remembers 0 = .ok (.aload_n 0, 1) := by decide +kernel
theorem dX8_remembers_1 : decode cX8_remembers 1 = .ok (.getfield 28, 3) := by decide +kernel
theorem dX8_remembers_4 : decode cX8_remembers 4 = .ok (.iload_n 1, 1) := by decide +kernel
theorem dX8_remembers_5 : decode cX8_remembers 5 = .ok (.iaload, 1) := by decide +kernel
theorem dX8_remembers_6 : decode cX8_remembers 6 = .ok (.istore 4, 2) := by decide +kernel
theorem dX8_remembers_8 : decode cX8_remembers 8 = .ok (.iload 4, 2) := by decide +kernel
theorem dX8_remembers_10 : decode cX8_remembers 10 = .ok (.bipush 40, 2) := by decide +kernel
theorem dX8_remembers_12 : decode cX8_remembers 12 = .ok (.if_icmp .ne 64, 3) := by decide +kernel
theorem dX8_remembers_15 : decode cX8_remembers 15 = .ok (.bipush 40, 2) := by decide +kernel
theorem dX8_remembers_17 : decode cX8_remembers 17 = .ok (.iload_n 1, 1) := by decide +kernel
theorem dX8_remembers_18 : decode cX8_remembers 18 = .ok (.imul, 1) := by decide +kernel
theorem dX8_remembers_19 : decode cX8_remembers 19 = .ok (.istore 5, 2) := by decide +kernel
theorem dX8_remembers_21 : decode cX8_remembers 21 = .ok (.iload 5, 2) := by decide +kernel
theorem dX8_remembers_23 : decode cX8_remembers 23 = .ok (.bipush 40, 2) := by decide +kernel
theorem dX8_remembers_25 : decode cX8_remembers 25 = .ok (.iload_n 1, 1) := by decide +kernel
theorem dX8_remembers_26 : decode cX8_remembers 26 = .ok (.imul, 1) := by decide +kernel
theorem dX8_remembers_27 : decode cX8_remembers 27 = .ok (.bipush 40, 2) := by decide +kernel
theorem dX8_remembers_29 : decode cX8_remembers 29 = .ok (.iadd, 1) := by decide +kernel
theorem dX8_remembers_30 : decode cX8_remembers 30 = .ok (.iconst 1, 1) := by decide +kernel
theorem dX8_remembers_31 : decode cX8_remembers 31 = .ok (.isub, 1) := by decide +kernel
theorem dX8_remembers_32 : decode cX8_remembers 32 = .ok (.if_icmp .ge 41, 3) := by decide +kernel
theorem dX8_remembers_35 : decode cX8_remembers 35 = .ok (.aload_n 0, 1) := by decide +kernel
theorem dX8_remembers_36 : decode cX8_remembers 36 = .ok (.getfield 31, 3) := by decide +kernel
theorem dX8_remembers_39 : decode cX8_remembers 39 = .ok (.iload 5, 2) := by decide +kernel
theorem dX8_remembers_41 : decode cX8_remembers 41 = .ok (.aload_n 0, 1) := by decide +kernel
theorem dX8_remembers_42 : decode cX8_remembers 42 = .ok (.getfield 31, 3) := by decide +kernel
theorem dX8_remembers_45 : decode cX8_remembers 45 = .ok (.iload 5, 2) := by decide +kernel
theorem dX8_remembers_47 : decode cX8_remembers 47 = .ok (.iconst 1, 1) := by decide +kernel
theorem dX8_remembers_48 : decode cX8_remembers 48 = .ok (.iadd, 1) := by decide +kernel
theorem dX8_remembers_49 : decode cX8_remembers 49 = .ok (.iaload, 1) := by decide +kernel
theorem dX8_remembers_50 : decode cX8_remembers 50 = .ok (.iastore, 1) := by decide +kernel
theorem dX8_remembers_51 : decode cX8_remembers 51 = .ok (.aload_n 0, 1) := by decide +kernel
theorem dX8_remembers_52 : decode cX8_remembers 52 = .ok (.getfield 34, 3) := by decide +kernel
theorem dX8_remembers_55 : decode cX8_remembers 55 = .ok (.iload 5, 2) := by decide +kernel
theorem dX8_remembers_57 : decode cX8_remembers 57 = .ok (.aload_n 0, 1) := by decide +kernel
theorem dX8_remembers_58 : decode cX8_remembers 58 = .ok (.getfield 34, 3) := by decide +kernel
theorem dX8_remembers_61 : decode cX8_remembers 61 = .ok (.iload 5, 2) := by decide +kernel
theorem dX8_remembers_63 : decode cX8_remembers 63 = .ok (.iconst 1, 1) := by decide +kernel
theorem dX8_remembers_64 : decode cX8_remembers 64 = .ok (.iadd, 1) := by decide +kernel
theorem dX8_remembers_65 : decode cX8_remembers 65 = .ok (.iaload, 1) := by decide +kernel
theorem dX8_remembers_66 : decode cX8_remembers 66 = .ok (.iastore, 1) := by decide +kernel
theorem dX8_remembers_67 : decode cX8_remembers 67 = .ok (.iinc 5 1, 3) := by decide +kernel
theorem dX8_remembers_70 : decode cX8_remembers 70 = .ok (.goto (-49), 3) := by decide +kernel
theorem dX8_remembers_73 : decode cX8_remembers 73 = .ok (.iinc 4 (-1), 3) := by decide +kernel
theorem dX8_remembers_76 : decode cX8_remembers 76 = .ok (.aload_n 0, 1) := by decide +kernel
theorem dX8_remembers_77 : decode cX8_remembers 77 = .ok (.getfield 31, 3) := by decide +kernel
theorem dX8_remembers_80 : decode cX8_remembers 80 = .ok (.bipush 40, 2) := by decide +kernel
theorem dX8_remembers_82 : decode cX8_remembers 82 = .ok (.iload_n 1, 1) := by decide +kernel
theorem dX8_remembers_83 : decode cX8_remembers 83 = .ok (.imul, 1) := by decide +kernel
theorem dX8_remembers_84 : decode cX8_remembers 84 = .ok (.iload 4, 2) := by decide +kernel
theorem dX8_remembers_86 : decode cX8_remembers 86 = .ok (.iadd, 1) := by decide +kernel
theorem dX8_remembers_87 : decode cX8_remembers 87 = .ok (.iload_n 2, 1) := by decide +kernel
theorem dX8_remembers_88 : decode cX8_remembers 88 = .ok (.iastore, 1) := by decide +kernel
theorem dX8_remembers_89 : decode cX8_remembers 89 = .ok (.aload_n 0, 1) := by decide +kernel
theorem dX8_remembers_90 : decode cX8_remembers 90 = .ok (.getfield 34, 3) := by decide +kernel
theorem dX8_remembers_93 : decode cX8_remembers 93 = .ok (.bipush 40, 2) := by decide +kernel
theorem dX8_remembers_95 : decode cX8_remembers 95 = .ok (.iload_n 1, 1) := by decide +kernel
theorem dX8_remembers_96 : decode cX8_remembers 96 = .ok (.imul, 1) := by decide +kernel
theorem dX8_remembers_97 : decode cX8_remembers 97 = .ok (.iload 4, 2) := by decide +kernel
theorem dX8_remembers_99 : decode cX8_remembers 99 = .ok (.iadd, 1) := by decide +kernel
theorem dX8_remembers_100 : decode cX8_remembers 100 = .ok (.iload_n 3, 1) := by decide +kernel
theorem dX8_remembers_101 : decode cX8_remembers 101 = .ok (.iastore, 1) := by decide +kernel
theorem dX8_remembers_102 : decode cX8_remembers 102 = .ok (.aload_n 0, 1) := by decide +kernel
theorem dX8_remembers_103 : decode cX8_remembers 103 = .ok (.getfield 28, 3) := by decide +kernel
theorem dX8_remembers_106 : decode cX8_remembers 106 = .ok (.iload_n 1, 1) := by decide +kernel
theorem dX8_remembers_107 : decode cX8_remembers 107 = .ok (.iload 4, 2) := by decide +kernel
theorem dX8_remembers_109 : decode cX8_remembers 109 = .ok (.iconst 1, 1) := by decide +kernel
theorem dX8_remembers_110 : decode cX8_remembers 110 = .ok (.iadd, 1) := by decide +kernel
theorem dX8_remembers_111 : decode cX8_remembers 111 = .ok (.iastore, 1) := by decide +kernel
theorem dX8_remembers_112 : decode cX8_remembers 112 = .ok (.return_, 1) := by decide +kernel
set_option maxRecDepth 20000 in
theorem ggX8_set_X8_isLevel : GoodIn wsX8_set wsX8_isLevel := goodIn_r _ [9, 10, 11, 12, 8, 13, 32, 33, 34, 35, 36, 37, 38, 39, 40, 41, 42, 43, 44, 45, 46, 47, 48, 49, 50, 51, 52, 53, 54, 55, 56, 57, 58, 59, 60, 61, 62, 63, 64, 65, 66, 67, 68, 69] (by decide +kernel) (by decide +kernel)
set_option maxRecDepth 20000 in
theorem gX8_set_X8_isLevel : GoodIn wsX8_set (wsV RX8 161 RX8 yX8_isLevel wsX8_isLevel) := goodIn_app (goodIn_of _ (by decide +kernel)) ggX8_set_X8_isLevel
set_option maxRecDepth 20000 in
theorem ggX8_set_X8_isCell : GoodIn wsX8_set wsX8_isCell := goodIn_r _ [16, 11, 12, 8, 13] (by decide +kernel) (by decide +kernel)
set_option maxRecDepth 20000 in
theorem gX8_set_X8_isCell : GoodIn wsX8_set (va_wsS RX8 164 yX8_isCell wsX8_isCell) := goodIn_app (goodIn_of _ (by decide +kernel)) ggX8_set_X8_isCell
set_option maxRecDepth 20000 in
theorem ggX8_set_X8_fails : GoodIn wsX8_set wsX8_fails := goodIn_r _ [20, 1, 32, 33, 34, 35, 36, 37, 38, 39, 40, 41, 42, 43, 44, 45, 46, 47, 48, 49, 50, 51, 52, 53, 54, 55, 56, 57, 58, 59, 60, 61, 62, 63, 64, 65, 66, 67, 68, 69] (by decide +kernel) (by decide +kernel)
set_option maxRecDepth 20000 in
theorem gX8_set_X8_fails : GoodIn wsX8_set (wsV RX8 153 RX8 yX8_fails wsX8_fails) := goodIn_app (goodIn_of _ (by decide +kernel)) ggX8_set_X8_fails
set_option maxRecDepth 20000 in
theorem ggX8_set_X8_in : GoodIn wsX8_set wsX8_in := goodIn_r _ [13] (by decide +kernel) (by decide +kernel)
set_option maxRecDepth 20000 in
theorem gX8_set_X8_in : GoodIn wsX8_set (va_wsS RX8 105 yX8_in wsX8_in) := goodIn_app (goodIn_of _ (by decide +kernel)) ggX8_set_X8_in
set_option maxRecDepth 20000 in
theorem ggX8_set_X8_keysOf : GoodIn wsX8_set wsX8_keysOf := goodIn_r _ [24, 2, 32, 33, 34, 35, 36, 37, 38, 39, 40, 41, 42, 43, 44, 45, 46, 47, 48, 49, 50, 51, 52, 53, 54, 55, 56, 57, 58, 59, 60, 61, 62, 63, 64, 65, 66, 67, 68, 69] (by decide +kernel) (by decide +kernel)
set_option maxRecDepth 20000 in
theorem gX8_set_X8_keysOf : GoodIn wsX8_set (wsV RX8 167 RX8 yX8_keysOf wsX8_keysOf) := goodIn_app (goodIn_of _ (by decide +kernel)) ggX8_set_X8_keysOf
set_option maxRecDepth 20000 in
theorem ggX8_set_X8_remembers : GoodIn wsX8_set wsX8_remembers := goodIn_r _ [28, 29, 30, 31, 32, 33, 34, 35, 36, 37, 38, 39, 40, 41, 42, 43, 44, 45, 46, 47, 48, 49, 50, 51, 52, 53, 54, 55, 56, 57, 58, 59, 60, 61, 62, 63, 64, 65, 66, 67, 68, 69] (by decide +kernel) (by decide +kernel)
set_option maxRecDepth 20000 in
theorem gX8_set_X8_remembers : GoodIn wsX8_set (wsV RX8 170 RX8 yX8_remembers wsX8_remembers) := goodIn_app (goodIn_of _ (by decide +kernel)) ggX8_set_X8_remembers
theorem dX8_set_0 : decode cX8_set 0 = .ok (.aload_n 0, 1) := by decide +kernel
theorem dX8_set_1 : decode cX8_set 1 = .ok (.iconst 0, 1) := by decide +kernel
theorem dX8_set_2 : decode cX8_set 2 = .ok (.putfield 101, 3) := by decide +kernel
theorem dX8_set_5 : decode cX8_set 5 = .ok (.aload_n 0, 1) := by decide +kernel
theorem dX8_set_6 : decode cX8_set 6 = .ok (.iload_n 1, 1) := by decide +kernel
theorem dX8_set_7 : decode cX8_set 7 = .ok (.invokevirtual 161, 3) := by decide +kernel
theorem dX8_set_10 : decode cX8_set 10 = .ok (.ifCond .eq 10, 3) := by decide +kernel
theorem dX8_set_13 : decode cX8_set 13 = .ok (.iload_n 2, 1) := by decide +kernel
theorem dX8_set_14 : decode cX8_set 14 = .ok (.invokestatic 164, 3) := by decide +kernel
theorem dX8_set_17 : decode cX8_set 17 = .ok (.ifCond .ne 9, 3) := by decide +kernel
theorem dX8_set_20 : decode cX8_set 20 = .ok (.aload_n 0, 1) := by decide +kernel
theorem dX8_set_21 : decode cX8_set 21 = .ok (.iconst 1, 1) := by decide +kernel
theorem dX8_set_22 : decode cX8_set 22 = .ok (.invokevirtual 153, 3) := by decide +kernel
theorem dX8_set_25 : decode cX8_set 25 = .ok (.ireturn, 1) := by decide +kernel
theorem dX8_set_26 : decode cX8_set 26 = .ok (.iload_n 3, 1) := by decide +kernel
theorem dX8_set_27 : decode cX8_set 27 = .ok (.iconst 0, 1) := by decide +kernel
theorem dX8_set_28 : decode cX8_set 28 = .ok (.bipush 8, 2) := by decide +kernel
theorem dX8_set_30 : decode cX8_set 30 = .ok (.invokestatic 105, 3) := by decide +kernel
theorem dX8_set_33 : decode cX8_set 33 = .ok (.ifCond .ne 9, 3) := by decide +kernel
theorem dX8_set_36 : decode cX8_set 36 = .ok (.aload_n 0, 1) := by decide +kernel
theorem dX8_set_37 : decode cX8_set 37 = .ok (.iconst 2, 1) := by decide +kernel
theorem dX8_set_38 : decode cX8_set 38 = .ok (.invokevirtual 153, 3) := by decide +kernel
theorem dX8_set_41 : decode cX8_set 41 = .ok (.ireturn, 1) := by decide +kernel
theorem dX8_set_42 : decode cX8_set 42 = .ok (.aload_n 0, 1) := by decide +kernel
theorem dX8_set_43 : decode cX8_set 43 = .ok (.getfield 16, 3) := by decide +kernel
theorem dX8_set_46 : decode cX8_set 46 = .ok (.bipush 96, 2) := by decide +kernel
theorem dX8_set_48 : decode cX8_set 48 = .ok (.iload_n 1, 1) := by decide +kernel
theorem dX8_set_49 : decode cX8_set 49 = .ok (.imul, 1) := by decide +kernel
theorem dX8_set_50 : decode cX8_set 50 = .ok (.iload_n 2, 1) := by decide +kernel
theorem dX8_set_51 : decode cX8_set 51 = .ok (.iadd, 1) := by decide +kernel
theorem dX8_set_52 : decode cX8_set 52 = .ok (.iaload, 1) := by decide +kernel
theorem dX8_set_53 : decode cX8_set 53 = .ok (.istore 4, 2) := by decide +kernel
theorem dX8_set_55 : decode cX8_set 55 = .ok (.iload_n 3, 1) := by decide +kernel
theorem dX8_set_56 : decode cX8_set 56 = .ok (.iconst 2, 1) := by decide +kernel
theorem dX8_set_57 : decode cX8_set 57 = .ok (.if_icmp .ne 24, 3) := by decide +kernel
theorem dX8_set_60 : decode cX8_set 60 = .ok (.iload 4, 2) := by decide +kernel
theorem dX8_set_62 : decode cX8_set 62 = .ok (.iconst 2, 1) := by decide +kernel
theorem dX8_set_63 : decode cX8_set 63 = .ok (.if_icmp .eq 18, 3) := by decide +kernel
theorem dX8_set_66 : decode cX8_set 66 = .ok (.aload_n 0, 1) := by decide +kernel
theorem dX8_set_67 : decode cX8_set 67 = .ok (.iload_n 1, 1) := by decide +kernel
theorem dX8_set_68 : decode cX8_set 68 = .ok (.invokevirtual 167, 3) := by decide +kernel
theorem dX8_set_71 : decode cX8_set 71 = .ok (.iconst 3, 1) := by decide +kernel
theorem dX8_set_72 : decode cX8_set 72 = .ok (.if_icmp .ne 9, 3) := by decide +kernel
theorem dX8_set_75 : decode cX8_set 75 = .ok (.aload_n 0, 1) := by decide +kernel
theorem dX8_set_76 : decode cX8_set 76 = .ok (.iconst 3, 1) := by decide +kernel
theorem dX8_set_77 : decode cX8_set 77 = .ok (.invokevirtual 153, 3) := by decide +kernel
theorem dX8_set_80 : decode cX8_set 80 = .ok (.ireturn, 1) := by decide +kernel
theorem dX8_set_81 : decode cX8_set 81 = .ok (.aload_n 0, 1) := by decide +kernel
theorem dX8_set_82 : decode cX8_set 82 = .ok (.getfield 16, 3) := by decide +kernel
theorem dX8_set_85 : decode cX8_set 85 = .ok (.bipush 96, 2) := by decide +kernel
theorem dX8_set_87 : decode cX8_set 87 = .ok (.iload_n 1, 1) := by decide +kernel
theorem dX8_set_88 : decode cX8_set 88 = .ok (.imul, 1) := by decide +kernel
theorem dX8_set_89 : decode cX8_set 89 = .ok (.iload_n 2, 1) := by decide +kernel
theorem dX8_set_90 : decode cX8_set 90 = .ok (.iadd, 1) := by decide +kernel
theorem dX8_set_91 : decode cX8_set 91 = .ok (.iload_n 3, 1) := by decide +kernel
theorem dX8_set_92 : decode cX8_set 92 = .ok (.iastore, 1) := by decide +kernel
theorem dX8_set_93 : decode cX8_set 93 = .ok (.aload_n 0, 1) := by decide +kernel
theorem dX8_set_94 : decode cX8_set 94 = .ok (.iload_n 1, 1) := by decide +kernel
theorem dX8_set_95 : decode cX8_set 95 = .ok (.iload_n 2, 1) := by decide +kernel
theorem dX8_set_96 : decode cX8_set 96 = .ok (.bipush 10, 2) := by decide +kernel
theorem dX8_set_98 : decode cX8_set 98 = .ok (.iload 4, 2) := by decide +kernel
theorem dX8_set_100 : decode cX8_set 100 = .ok (.imul, 1) := by decide +kernel
theorem dX8_set_101 : decode cX8_set 101 = .ok (.iload_n 3, 1) := by decide +kernel
theorem dX8_set_102 : decode cX8_set 102 = .ok (.iadd, 1) := by decide +kernel
theorem dX8_set_103 : decode cX8_set 103 = .ok (.invokevirtual 170, 3) := by decide +kernel
theorem dX8_set_106 : decode cX8_set 106 = .ok (.aload_n 0, 1) := by decide +kernel
theorem dX8_set_107 : decode cX8_set 107 = .ok (.getfield 37, 3) := by decide +kernel
theorem dX8_set_110 : decode cX8_set 110 = .ok (.iload_n 1, 1) := by decide +kernel
theorem dX8_set_111 : decode cX8_set 111 = .ok (.iconst 0, 1) := by decide +kernel
theorem dX8_set_112 : decode cX8_set 112 = .ok (.iastore, 1) := by decide +kernel
theorem dX8_set_113 : decode cX8_set 113 = .ok (.aload_n 0, 1) := by decide +kernel
theorem dX8_set_114 : decode cX8_set 114 = .ok (.getfield 22, 3) := by decide +kernel
theorem dX8_set_117 : decode cX8_set 117 = .ok (.iload_n 1, 1) := by decide +kernel
theorem dX8_set_118 : decode cX8_set 118 = .ok (.bipush (-2), 2) := by decide +kernel
theorem dX8_set_120 : decode cX8_set 120 = .ok (.iastore, 1) := by decide +kernel
theorem dX8_set_121 : decode cX8_set 121 = .ok (.iload 4, 2) := by decide +kernel
theorem dX8_set_123 : decode cX8_set 123 = .ok (.ireturn, 1) := by decide +kernel
set_option maxRecDepth 20000 in
theorem ggX8_setStart_X8_isLevel : GoodIn wsX8_setStart wsX8_isLevel := goodIn_r _ [8, 9, 10, 11, 7, 12, 20, 21, 22, 23, 24, 25, 26, 27, 28, 29, 30, 31, 32, 33, 34, 35, 36, 37, 38, 39, 40, 41, 42, 43, 44, 45, 46, 47, 48, 49, 50, 51, 52, 53, 54, 55, 56, 57] (by decide +kernel) (by decide +kernel)
set_option maxRecDepth 20000 in
theorem gX8_setStart_X8_isLevel : GoodIn wsX8_setStart (wsV RX8 161 RX8 yX8_isLevel wsX8_isLevel) := goodIn_app (goodIn_of _ (by decide +kernel)) ggX8_setStart_X8_isLevel
set_option maxRecDepth 20000 in
theorem ggX8_setStart_X8_isCell : GoodIn wsX8_setStart wsX8_isCell := goodIn_r _ [15, 10, 11, 7, 12] (by decide +kernel) (by decide +kernel)
set_option maxRecDepth 20000 in
theorem gX8_setStart_X8_isCell : GoodIn wsX8_setStart (va_wsS RX8 164 yX8_isCell wsX8_isCell) := goodIn_app (goodIn_of _ (by decide +kernel)) ggX8_setStart_X8_isCell
set_option maxRecDepth 20000 in
theorem ggX8_setStart_X8_fails : GoodIn wsX8_setStart wsX8_fails := goodIn_r _ [19, 1, 20, 21, 22, 23, 24, 25, 26, 27, 28, 29, 30, 31, 32, 33, 34, 35, 36, 37, 38, 39, 40, 41, 42, 43, 44, 45, 46, 47, 48, 49, 50, 51, 52, 53, 54, 55, 56, 57] (by decide +kernel) (by decide +kernel)
set_option maxRecDepth 20000 in
theorem gX8_setStart_X8_fails : GoodIn wsX8_setStart (wsV RX8 153 RX8 yX8_fails wsX8_fails) := goodIn_app (goodIn_of _ (by decide +kernel)) ggX8_setStart_X8_fails
theorem dX8_setStart_0 : decode cX8_setStart 0 = .ok (.aload_n 0, 1) := by decide +kernel
theorem dX8_setStart_1 : decode cX8_setStart 1 = .ok (.iconst 0, 1) := by decide +kernel
theorem dX8_setStart_2 : decode cX8_setStart 2 = .ok (.putfield 101, 3) := by decide +kernel
theorem dX8_setStart_5 : decode cX8_setStart 5 = .ok (.aload_n 0, 1) := by decide +kernel
theorem dX8_setStart_6 : decode cX8_setStart 6 = .ok (.iload_n 1, 1) := by decide +kernel
theorem dX8_setStart_7 : decode cX8_setStart 7 = .ok (.invokevirtual 161, 3) := by decide +kernel
theorem dX8_setStart_10 : decode cX8_setStart 10 = .ok (.ifCond .eq 10, 3) := by decide +kernel
theorem dX8_setStart_13 : decode cX8_setStart 13 = .ok (.iload_n 2, 1) := by decide +kernel
theorem dX8_setStart_14 : decode cX8_setStart 14 = .ok (.invokestatic 164, 3) := by decide +kernel
theorem dX8_setStart_17 : decode cX8_setStart 17 = .ok (.ifCond .ne 9, 3) := by decide +kernel
theorem dX8_setStart_20 : decode cX8_setStart 20 = .ok (.aload_n 0, 1) := by decide +kernel
theorem dX8_setStart_21 : decode cX8_setStart 21 = .ok (.iconst 1, 1) := by decide +kernel
theorem dX8_setStart_22 : decode cX8_setStart 22 = .ok (.invokevirtual 153, 3) := by decide +kernel
theorem dX8_setStart_25 : decode cX8_setStart 25 = .ok (.ireturn, 1) := by decide +kernel
theorem dX8_setStart_26 : decode cX8_setStart 26 = .ok (.aload_n 0, 1) := by decide +kernel
theorem dX8_setStart_27 : decode cX8_setStart 27 = .ok (.getfield 19, 3) := by decide +kernel
theorem dX8_setStart_30 : decode cX8_setStart 30 = .ok (.iload_n 1, 1) := by decide +kernel
theorem dX8_setStart_31 : decode cX8_setStart 31 = .ok (.iaload, 1) := by decide +kernel
theorem dX8_setStart_32 : decode cX8_setStart 32 = .ok (.istore_n 3, 1) := by decide +kernel
theorem dX8_setStart_33 : decode cX8_setStart 33 = .ok (.aload_n 0, 1) := by decide +kernel
theorem dX8_setStart_34 : decode cX8_setStart 34 = .ok (.getfield 19, 3) := by decide +kernel
theorem dX8_setStart_37 : decode cX8_setStart 37 = .ok (.iload_n 1, 1) := by decide +kernel
theorem dX8_setStart_38 : decode cX8_setStart 38 = .ok (.iload_n 2, 1) := by decide +kernel
theorem dX8_setStart_39 : decode cX8_setStart 39 = .ok (.iastore, 1) := by decide +kernel
theorem dX8_setStart_40 : decode cX8_setStart 40 = .ok (.aload_n 0, 1) := by decide +kernel
theorem dX8_setStart_41 : decode cX8_setStart 41 = .ok (.getfield 22, 3) := by decide +kernel
theorem dX8_setStart_44 : decode cX8_setStart 44 = .ok (.iload_n 1, 1) := by decide +kernel
theorem dX8_setStart_45 : decode cX8_setStart 45 = .ok (.bipush (-2), 2) := by decide +kernel
theorem dX8_setStart_47 : decode cX8_setStart 47 = .ok (.iastore, 1) := by decide +kernel
theorem dX8_setStart_48 : decode cX8_setStart 48 = .ok (.iload_n 3, 1) := by decide +kernel
theorem dX8_setStart_49 : decode cX8_setStart 49 = .ok (.ireturn, 1) := by decide +kernel
set_option maxRecDepth 20000 in
theorem ggX8_undo_X8_isLevel : GoodIn wsX8_undo wsX8_isLevel := goodIn_r _ [14, 15, 16, 17, 13, 18, 23, 24, 25, 26, 27, 28, 29, 30, 31, 32, 33, 34, 35, 36, 37, 38, 39, 40, 41, 42, 43, 44, 45, 46, 47, 48, 49, 50, 51, 52, 53, 54, 55, 56, 57, 58, 59, 60] (by decide +kernel) (by decide +kernel)
set_option maxRecDepth 20000 in
theorem gX8_undo_X8_isLevel : GoodIn wsX8_undo (wsV RX8 161 RX8 yX8_isLevel wsX8_isLevel) := goodIn_app (goodIn_of _ (by decide +kernel)) ggX8_undo_X8_isLevel
set_option maxRecDepth 20000 in
theorem ggX8_undo_X8_fails : GoodIn wsX8_undo wsX8_fails := goodIn_r _ [22, 1, 23, 24, 25, 26, 27, 28, 29, 30, 31, 32, 33, 34, 35, 36, 37, 38, 39, 40, 41, 42, 43, 44, 45, 46, 47, 48, 49, 50, 51, 52, 53, 54, 55, 56, 57, 58, 59, 60] (by decide +kernel) (by decide +kernel)
set_option maxRecDepth 20000 in
theorem gX8_undo_X8_fails : GoodIn wsX8_undo (wsV RX8 153 RX8 yX8_fails wsX8_fails) := goodIn_app (goodIn_of _ (by decide +kernel)) ggX8_undo_X8_fails
theorem dX8_undo_0 : decode cX8_undo 0 = .ok (.aload_n 0, 1) := by decide +kernel
theorem dX8_undo_1 : decode cX8_undo 1 = .ok (.iconst 0, 1) := by decide +kernel
theorem dX8_undo_2 : decode cX8_undo 2 = .ok (.putfield 101, 3) := by decide +kernel
theorem dX8_undo_5 : decode cX8_undo 5 = .ok (.aload_n 0, 1) := by decide +kernel
theorem dX8_undo_6 : decode cX8_undo 6 = .ok (.iload_n 1, 1) := by decide +kernel
theorem dX8_undo_7 : decode cX8_undo 7 = .ok (.invokevirtual 161, 3) := by decide +kernel
theorem dX8_undo_10 : decode cX8_undo 10 = .ok (.ifCond .ne 9, 3) := by decide +kernel
theorem dX8_undo_13 : decode cX8_undo 13 = .ok (.aload_n 0, 1) := by decide +kernel
theorem dX8_undo_14 : decode cX8_undo 14 = .ok (.iconst 1, 1) := by decide +kernel
theorem dX8_undo_15 : decode cX8_undo 15 = .ok (.invokevirtual 153, 3) := by decide +kernel
theorem dX8_undo_18 : decode cX8_undo 18 = .ok (.ireturn, 1) := by decide +kernel
theorem dX8_undo_19 : decode cX8_undo 19 = .ok (.aload_n 0, 1) := by decide +kernel
theorem dX8_undo_20 : decode cX8_undo 20 = .ok (.getfield 28, 3) := by decide +kernel
theorem dX8_undo_23 : decode cX8_undo 23 = .ok (.iload_n 1, 1) := by decide +kernel
theorem dX8_undo_24 : decode cX8_undo 24 = .ok (.iaload, 1) := by decide +kernel
theorem dX8_undo_25 : decode cX8_undo 25 = .ok (.ifCond .ne 9, 3) := by decide +kernel
theorem dX8_undo_28 : decode cX8_undo 28 = .ok (.aload_n 0, 1) := by decide +kernel
theorem dX8_undo_29 : decode cX8_undo 29 = .ok (.iconst 2, 1) := by decide +kernel
theorem dX8_undo_30 : decode cX8_undo 30 = .ok (.invokevirtual 153, 3) := by decide +kernel
theorem dX8_undo_33 : decode cX8_undo 33 = .ok (.ireturn, 1) := by decide +kernel
theorem dX8_undo_34 : decode cX8_undo 34 = .ok (.aload_n 0, 1) := by decide +kernel
theorem dX8_undo_35 : decode cX8_undo 35 = .ok (.getfield 28, 3) := by decide +kernel
theorem dX8_undo_38 : decode cX8_undo 38 = .ok (.iload_n 1, 1) := by decide +kernel
theorem dX8_undo_39 : decode cX8_undo 39 = .ok (.dup2, 1) := by decide +kernel
theorem dX8_undo_40 : decode cX8_undo 40 = .ok (.iaload, 1) := by decide +kernel
theorem dX8_undo_41 : decode cX8_undo 41 = .ok (.iconst 1, 1) := by decide +kernel
theorem dX8_undo_42 : decode cX8_undo 42 = .ok (.isub, 1) := by decide +kernel
theorem dX8_undo_43 : decode cX8_undo 43 = .ok (.iastore, 1) := by decide +kernel
theorem dX8_undo_44 : decode cX8_undo 44 = .ok (.bipush 40, 2) := by decide +kernel
theorem dX8_undo_46 : decode cX8_undo 46 = .ok (.iload_n 1, 1) := by decide +kernel
theorem dX8_undo_47 : decode cX8_undo 47 = .ok (.imul, 1) := by decide +kernel
theorem dX8_undo_48 : decode cX8_undo 48 = .ok (.aload_n 0, 1) := by decide +kernel
theorem dX8_undo_49 : decode cX8_undo 49 = .ok (.getfield 28, 3) := by decide +kernel
theorem dX8_undo_52 : decode cX8_undo 52 = .ok (.iload_n 1, 1) := by decide +kernel
theorem dX8_undo_53 : decode cX8_undo 53 = .ok (.iaload, 1) := by decide +kernel
theorem dX8_undo_54 : decode cX8_undo 54 = .ok (.iadd, 1) := by decide +kernel
theorem dX8_undo_55 : decode cX8_undo 55 = .ok (.istore_n 2, 1) := by decide +kernel
theorem dX8_undo_56 : decode cX8_undo 56 = .ok (.aload_n 0, 1) := by decide +kernel
theorem dX8_undo_57 : decode cX8_undo 57 = .ok (.getfield 40, 3) := by decide +kernel
theorem dX8_undo_60 : decode cX8_undo 60 = .ok (.bipush 40, 2) := by decide +kernel
theorem dX8_undo_62 : decode cX8_undo 62 = .ok (.iload_n 1, 1) := by decide +kernel
theorem dX8_undo_63 : decode cX8_undo 63 = .ok (.imul, 1) := by decide +kernel
theorem dX8_undo_64 : decode cX8_undo 64 = .ok (.aload_n 0, 1) := by decide +kernel
theorem dX8_undo_65 : decode cX8_undo 65 = .ok (.getfield 37, 3) := by decide +kernel
theorem dX8_undo_68 : decode cX8_undo 68 = .ok (.iload_n 1, 1) := by decide +kernel
theorem dX8_undo_69 : decode cX8_undo 69 = .ok (.iaload, 1) := by decide +kernel
theorem dX8_undo_70 : decode cX8_undo 70 = .ok (.iadd, 1) := by decide +kernel
theorem dX8_undo_71 : decode cX8_undo 71 = .ok (.aload_n 0, 1) := by decide +kernel
theorem dX8_undo_72 : decode cX8_undo 72 = .ok (.getfield 31, 3) := by decide +kernel
theorem dX8_undo_75 : decode cX8_undo 75 = .ok (.iload_n 2, 1) := by decide +kernel
theorem dX8_undo_76 : decode cX8_undo 76 = .ok (.iaload, 1) := by decide +kernel
theorem dX8_undo_77 : decode cX8_undo 77 = .ok (.iastore, 1) := by decide +kernel
theorem dX8_undo_78 : decode cX8_undo 78 = .ok (.aload_n 0, 1) := by decide +kernel
theorem dX8_undo_79 : decode cX8_undo 79 = .ok (.getfield 43, 3) := by decide +kernel
theorem dX8_undo_82 : decode cX8_undo 82 = .ok (.bipush 40, 2) := by decide +kernel
theorem dX8_undo_84 : decode cX8_undo 84 = .ok (.iload_n 1, 1) := by decide +kernel
theorem dX8_undo_85 : decode cX8_undo 85 = .ok (.imul, 1) := by decide +kernel
theorem dX8_undo_86 : decode cX8_undo 86 = .ok (.aload_n 0, 1) := by decide +kernel
theorem dX8_undo_87 : decode cX8_undo 87 = .ok (.getfield 37, 3) := by decide +kernel
theorem dX8_undo_90 : decode cX8_undo 90 = .ok (.iload_n 1, 1) := by decide +kernel
theorem dX8_undo_91 : decode cX8_undo 91 = .ok (.iaload, 1) := by decide +kernel
theorem dX8_undo_92 : decode cX8_undo 92 = .ok (.iadd, 1) := by decide +kernel
theorem dX8_undo_93 : decode cX8_undo 93 = .ok (.aload_n 0, 1) := by decide +kernel
theorem dX8_undo_94 : decode cX8_undo 94 = .ok (.getfield 34, 3) := by decide +kernel
theorem dX8_undo_97 : decode cX8_undo 97 = .ok (.iload_n 2, 1) := by decide +kernel
theorem dX8_undo_98 : decode cX8_undo 98 = .ok (.iaload, 1) := by decide +kernel
theorem dX8_undo_99 : decode cX8_undo 99 = .ok (.iastore, 1) := by decide +kernel
theorem dX8_undo_100 : decode cX8_undo 100 = .ok (.aload_n 0, 1) := by decide +kernel
theorem dX8_undo_101 : decode cX8_undo 101 = .ok (.getfield 37, 3) := by decide +kernel
theorem dX8_undo_104 : decode cX8_undo 104 = .ok (.iload_n 1, 1) := by decide +kernel
theorem dX8_undo_105 : decode cX8_undo 105 = .ok (.dup2, 1) := by decide +kernel
theorem dX8_undo_106 : decode cX8_undo 106 = .ok (.iaload, 1) := by decide +kernel
theorem dX8_undo_107 : decode cX8_undo 107 = .ok (.iconst 1, 1) := by decide +kernel
theorem dX8_undo_108 : decode cX8_undo 108 = .ok (.iadd, 1) := by decide +kernel
theorem dX8_undo_109 : decode cX8_undo 109 = .ok (.iastore, 1) := by decide +kernel
theorem dX8_undo_110 : decode cX8_undo 110 = .ok (.aload_n 0, 1) := by decide +kernel
theorem dX8_undo_111 : decode cX8_undo 111 = .ok (.getfield 16, 3) := by decide +kernel
theorem dX8_undo_114 : decode cX8_undo 114 = .ok (.bipush 96, 2) := by decide +kernel
theorem dX8_undo_116 : decode cX8_undo 116 = .ok (.iload_n 1, 1) := by decide +kernel
theorem dX8_undo_117 : decode cX8_undo 117 = .ok (.imul, 1) := by decide +kernel
theorem dX8_undo_118 : decode cX8_undo 118 = .ok (.aload_n 0, 1) := by decide +kernel
theorem dX8_undo_119 : decode cX8_undo 119 = .ok (.getfield 31, 3) := by decide +kernel
theorem dX8_undo_122 : decode cX8_undo 122 = .ok (.iload_n 2, 1) := by decide +kernel
theorem dX8_undo_123 : decode cX8_undo 123 = .ok (.iaload, 1) := by decide +kernel
theorem dX8_undo_124 : decode cX8_undo 124 = .ok (.iadd, 1) := by decide +kernel
theorem dX8_undo_125 : decode cX8_undo 125 = .ok (.aload_n 0, 1) := by decide +kernel
theorem dX8_undo_126 : decode cX8_undo 126 = .ok (.getfield 34, 3) := by decide +kernel
theorem dX8_undo_129 : decode cX8_undo 129 = .ok (.iload_n 2, 1) := by decide +kernel
theorem dX8_undo_130 : decode cX8_undo 130 = .ok (.iaload, 1) := by decide +kernel
theorem dX8_undo_131 : decode cX8_undo 131 = .ok (.bipush 10, 2) := by decide +kernel
theorem dX8_undo_133 : decode cX8_undo 133 = .ok (.idiv, 1) := by decide +kernel
theorem dX8_undo_134 : decode cX8_undo 134 = .ok (.iastore, 1) := by decide +kernel
theorem dX8_undo_135 : decode cX8_undo 135 = .ok (.aload_n 0, 1) := by decide +kernel
theorem dX8_undo_136 : decode cX8_undo 136 = .ok (.getfield 22, 3) := by decide +kernel
theorem dX8_undo_139 : decode cX8_undo 139 = .ok (.iload_n 1, 1) := by decide +kernel
theorem dX8_undo_140 : decode cX8_undo 140 = .ok (.bipush (-2), 2) := by decide +kernel
theorem dX8_undo_142 : decode cX8_undo 142 = .ok (.iastore, 1) := by decide +kernel
theorem dX8_undo_143 : decode cX8_undo 143 = .ok (.aload_n 0, 1) := by decide +kernel
theorem dX8_undo_144 : decode cX8_undo 144 = .ok (.getfield 31, 3) := by decide +kernel
theorem dX8_undo_147 : decode cX8_undo 147 = .ok (.iload_n 2, 1) := by decide +kernel
theorem dX8_undo_148 : decode cX8_undo 148 = .ok (.iaload, 1) := by decide +kernel
theorem dX8_undo_149 : decode cX8_undo 149 = .ok (.ireturn, 1) := by decide +kernel
set_option maxRecDepth 20000 in
theorem ggX8_redo_X8_isLevel : GoodIn wsX8_redo wsX8_isLevel := goodIn_r _ [11, 12, 13, 14, 10, 15, 27, 28, 29, 30, 31, 32, 33, 34, 35, 36, 37, 38, 39, 40, 41, 42, 43, 44, 45, 46, 47, 48, 49, 50, 51, 52, 53, 54, 55, 56, 57, 58, 59, 60, 61, 62, 63, 64] (by decide +kernel) (by decide +kernel)
set_option maxRecDepth 20000 in
theorem gX8_redo_X8_isLevel : GoodIn wsX8_redo (wsV RX8 161 RX8 yX8_isLevel wsX8_isLevel) := goodIn_app (goodIn_of _ (by decide +kernel)) ggX8_redo_X8_isLevel
set_option maxRecDepth 20000 in
theorem ggX8_redo_X8_fails : GoodIn wsX8_redo wsX8_fails := goodIn_r _ [19, 1, 27, 28, 29, 30, 31, 32, 33, 34, 35, 36, 37, 38, 39, 40, 41, 42, 43, 44, 45, 46, 47, 48, 49, 50, 51, 52, 53, 54, 55, 56, 57, 58, 59, 60, 61, 62, 63, 64] (by decide +kernel) (by decide +kernel)
set_option maxRecDepth 20000 in
theorem gX8_redo_X8_fails : GoodIn wsX8_redo (wsV RX8 153 RX8 yX8_fails wsX8_fails) := goodIn_app (goodIn_of _ (by decide +kernel)) ggX8_redo_X8_fails
set_option maxRecDepth 20000 in
theorem ggX8_redo_X8_remembers : GoodIn wsX8_redo wsX8_remembers := goodIn_r _ [23, 24, 25, 26, 27, 28, 29, 30, 31, 32, 33, 34, 35, 36, 37, 38, 39, 40, 41, 42, 43, 44, 45, 46, 47, 48, 49, 50, 51, 52, 53, 54, 55, 56, 57, 58, 59, 60, 61, 62, 63, 64] (by decide +kernel) (by decide +kernel)
set_option maxRecDepth 20000 in
theorem gX8_redo_X8_remembers : GoodIn wsX8_redo (wsV RX8 170 RX8 yX8_remembers wsX8_remembers) := goodIn_app (goodIn_of _ (by decide +kernel)) ggX8_redo_X8_remembers
theorem dX8_redo_0 : decode cX8_redo 0 = .ok (.aload_n 0, 1) := by decide +kernel
theorem dX8_redo_1 : decode cX8_redo 1 = .ok (.iconst 0, 1) := by decide +kernel
theorem dX8_redo_2 : decode cX8_redo 2 = .ok (.putfield 101, 3) := by decide +kernel
theorem dX8_redo_5 : decode cX8_redo 5 = .ok (.aload_n 0, 1) := by decide +kernel
theorem dX8_redo_6 : decode cX8_redo 6 = .ok (.iload_n 1, 1) := by decide +kernel
theorem dX8_redo_7 : decode cX8_redo 7 = .ok (.invokevirtual 161, 3) := by decide +kernel
theorem dX8_redo_10 : decode cX8_redo 10 = .ok (.ifCond .ne 9, 3) := by decide +kernel
theorem dX8_redo_13 : decode cX8_redo 13 = .ok (.aload_n 0, 1) := by decide +kernel
theorem dX8_redo_14 : decode cX8_redo 14 = .ok (.iconst 1, 1) := by decide +kernel
theorem dX8_redo_15 : decode cX8_redo 15 = .ok (.invokevirtual 153, 3) := by decide +kernel
theorem dX8_redo_18 : decode cX8_redo 18 = .ok (.ireturn, 1) := by decide +kernel
theorem dX8_redo_19 : decode cX8_redo 19 = .ok (.aload_n 0, 1) := by decide +kernel
theorem dX8_redo_20 : decode cX8_redo 20 = .ok (.getfield 37, 3) := by decide +kernel
theorem dX8_redo_23 : decode cX8_redo 23 = .ok (.iload_n 1, 1) := by decide +kernel
theorem dX8_redo_24 : decode cX8_redo 24 = .ok (.iaload, 1) := by decide +kernel
theorem dX8_redo_25 : decode cX8_redo 25 = .ok (.ifCond .ne 9, 3) := by decide +kernel
theorem dX8_redo_28 : decode cX8_redo 28 = .ok (.aload_n 0, 1) := by decide +kernel
theorem dX8_redo_29 : decode cX8_redo 29 = .ok (.iconst 2, 1) := by decide +kernel
theorem dX8_redo_30 : decode cX8_redo 30 = .ok (.invokevirtual 153, 3) := by decide +kernel
theorem dX8_redo_33 : decode cX8_redo 33 = .ok (.ireturn, 1) := by decide +kernel
theorem dX8_redo_34 : decode cX8_redo 34 = .ok (.aload_n 0, 1) := by decide +kernel
theorem dX8_redo_35 : decode cX8_redo 35 = .ok (.getfield 37, 3) := by decide +kernel
theorem dX8_redo_38 : decode cX8_redo 38 = .ok (.iload_n 1, 1) := by decide +kernel
theorem dX8_redo_39 : decode cX8_redo 39 = .ok (.dup2, 1) := by decide +kernel
theorem dX8_redo_40 : decode cX8_redo 40 = .ok (.iaload, 1) := by decide +kernel
theorem dX8_redo_41 : decode cX8_redo 41 = .ok (.iconst 1, 1) := by decide +kernel
theorem dX8_redo_42 : decode cX8_redo 42 = .ok (.isub, 1) := by decide +kernel
theorem dX8_redo_43 : decode cX8_redo 43 = .ok (.iastore, 1) := by decide +kernel
theorem dX8_redo_44 : decode cX8_redo 44 = .ok (.bipush 40, 2) := by decide +kernel
theorem dX8_redo_46 : decode cX8_redo 46 = .ok (.iload_n 1, 1) := by decide +kernel
theorem dX8_redo_47 : decode cX8_redo 47 = .ok (.imul, 1) := by decide +kernel
theorem dX8_redo_48 : decode cX8_redo 48 = .ok (.aload_n 0, 1) := by decide +kernel
theorem dX8_redo_49 : decode cX8_redo 49 = .ok (.getfield 37, 3) := by decide +kernel
theorem dX8_redo_52 : decode cX8_redo 52 = .ok (.iload_n 1, 1) := by decide +kernel
theorem dX8_redo_53 : decode cX8_redo 53 = .ok (.iaload, 1) := by decide +kernel
theorem dX8_redo_54 : decode cX8_redo 54 = .ok (.iadd, 1) := by decide +kernel
theorem dX8_redo_55 : decode cX8_redo 55 = .ok (.istore_n 2, 1) := by decide +kernel
theorem dX8_redo_56 : decode cX8_redo 56 = .ok (.aload_n 0, 1) := by decide +kernel
theorem dX8_redo_57 : decode cX8_redo 57 = .ok (.iload_n 1, 1) := by decide +kernel
theorem dX8_redo_58 : decode cX8_redo 58 = .ok (.aload_n 0, 1) := by decide +kernel
theorem dX8_redo_59 : decode cX8_redo 59 = .ok (.getfield 40, 3) := by decide +kernel
theorem dX8_redo_62 : decode cX8_redo 62 = .ok (.iload_n 2, 1) := by decide +kernel
theorem dX8_redo_63 : decode cX8_redo 63 = .ok (.iaload, 1) := by decide +kernel
theorem dX8_redo_64 : decode cX8_redo 64 = .ok (.aload_n 0, 1) := by decide +kernel
theorem dX8_redo_65 : decode cX8_redo 65 = .ok (.getfield 43, 3) := by decide +kernel
theorem dX8_redo_68 : decode cX8_redo 68 = .ok (.iload_n 2, 1) := by decide +kernel
theorem dX8_redo_69 : decode cX8_redo 69 = .ok (.iaload, 1) := by decide +kernel
theorem dX8_redo_70 : decode cX8_redo 70 = .ok (.invokevirtual 170, 3) := by decide +kernel
theorem dX8_redo_73 : decode cX8_redo 73 = .ok (.aload_n 0, 1) := by decide +kernel
theorem dX8_redo_74 : decode cX8_redo 74 = .ok (.getfield 16, 3) := by decide +kernel
theorem dX8_redo_77 : decode cX8_redo 77 = .ok (.bipush 96, 2) := by decide +kernel
theorem dX8_redo_79 : decode cX8_redo 79 = .ok (.iload_n 1, 1) := by decide +kernel
theorem dX8_redo_80 : decode cX8_redo 80 = .ok (.imul, 1) := by decide +kernel
theorem dX8_redo_81 : decode cX8_redo 81 = .ok (.aload_n 0, 1) := by decide +kernel
theorem dX8_redo_82 : decode cX8_redo 82 = .ok (.getfield 40, 3) := by decide +kernel
theorem dX8_redo_85 : decode cX8_redo 85 = .ok (.iload_n 2, 1) := by decide +kernel
theorem dX8_redo_86 : decode cX8_redo 86 = .ok (.iaload, 1) := by decide +kernel
theorem dX8_redo_87 : decode cX8_redo 87 = .ok (.iadd, 1) := by decide +kernel
theorem dX8_redo_88 : decode cX8_redo 88 = .ok (.aload_n 0, 1) := by decide +kernel
theorem dX8_redo_89 : decode cX8_redo 89 = .ok (.getfield 43, 3) := by decide +kernel
theorem dX8_redo_92 : decode cX8_redo 92 = .ok (.iload_n 2, 1) := by decide +kernel
theorem dX8_redo_93 : decode cX8_redo 93 = .ok (.iaload, 1) := by decide +kernel
theorem dX8_redo_94 : decode cX8_redo 94 = .ok (.bipush 10, 2) := by decide +kernel
theorem dX8_redo_96 : decode cX8_redo 96 = .ok (.irem, 1) := by decide +kernel
theorem dX8_redo_97 : decode cX8_redo 97 = .ok (.iastore, 1) := by decide +kernel
theorem dX8_redo_98 : decode cX8_redo 98 = .ok (.aload_n 0, 1) := by decide +kernel
theorem dX8_redo_99 : decode cX8_redo 99 = .ok (.getfield 22, 3) := by decide +kernel
theorem dX8_redo_102 : decode cX8_redo 102 = .ok (.iload_n 1, 1) := by decide +kernel
theorem dX8_redo_103 : decode cX8_redo 103 = .ok (.bipush (-2), 2) := by decide +kernel
theorem dX8_redo_105 : decode cX8_redo 105 = .ok (.iastore, 1) := by decide +kernel
theorem dX8_redo_106 : decode cX8_redo 106 = .ok (.aload_n 0, 1) := by decide +kernel
theorem dX8_redo_107 : decode cX8_redo 107 = .ok (.getfield 40, 3) := by decide +kernel
theorem dX8_redo_110 : decode cX8_redo 110 = .ok (.iload_n 2, 1) := by decide +kernel
theorem dX8_redo_111 : decode cX8_redo 111 = .ok (.iaload, 1) := by decide +kernel
theorem dX8_redo_112 : decode cX8_redo 112 = .ok (.ireturn, 1) := by decide +kernel
theorem dX8_isInLevel_0 : decode cX8_isInLevel 0 = .ok (.iconst 0, 1) := by decide +kernel
theorem dX8_isInLevel_1 : decode cX8_isInLevel 1 = .ok (.istore_n 3, 1) := by decide +kernel
theorem dX8_isInLevel_2 : decode cX8_isInLevel 2 = .ok (.iconst 0, 1) := by decide +kernel
theorem dX8_isInLevel_3 : decode cX8_isInLevel 3 = .ok (.istore 4, 2) := by decide +kernel
theorem dX8_isInLevel_5 : decode cX8_isInLevel 5 = .ok (.iload 4, 2) := by decide +kernel
theorem dX8_isInLevel_7 : decode cX8_isInLevel 7 = .ok (.bipush 96, 2) := by decide +kernel
theorem dX8_isInLevel_9 : decode cX8_isInLevel 9 = .ok (.if_icmp .ge 35, 3) := by decide +kernel
theorem dX8_isInLevel_12 : decode cX8_isInLevel 12 = .ok (.iload_n 3, 1) := by decide +kernel
theorem dX8_isInLevel_13 : decode cX8_isInLevel 13 = .ok (.ifCond .ne 19, 3) := by decide +kernel
theorem dX8_isInLevel_16 : decode cX8_isInLevel 16 = .ok (.aload_n 0, 1) := by decide +kernel
theorem dX8_isInLevel_17 : decode cX8_isInLevel 17 = .ok (.getfield 16, 3) := by decide +kernel
theorem dX8_isInLevel_20 : decode cX8_isInLevel 20 = .ok (.bipush 96, 2) := by decide +kernel
theorem dX8_isInLevel_22 : decode cX8_isInLevel 22 = .ok (.iload_n 1, 1) := by decide +kernel
theorem dX8_isInLevel_23 : decode cX8_isInLevel 23 = .ok (.imul, 1) := by decide +kernel
theorem dX8_isInLevel_24 : decode cX8_isInLevel 24 = .ok (.iload 4, 2) := by decide +kernel
theorem dX8_isInLevel_26 : decode cX8_isInLevel 26 = .ok (.iadd, 1) := by decide +kernel
theorem dX8_isInLevel_27 : decode cX8_isInLevel 27 = .ok (.iaload, 1) := by decide +kernel
theorem dX8_isInLevel_28 : decode cX8_isInLevel 28 = .ok (.iload_n 2, 1) := by decide +kernel
theorem dX8_isInLevel_29 : decode cX8_isInLevel 29 = .ok (.if_icmp .ne 7, 3) := by decide +kernel
theorem dX8_isInLevel_32 : decode cX8_isInLevel 32 = .ok (.iconst 1, 1) := by decide +kernel
theorem dX8_isInLevel_33 : decode cX8_isInLevel 33 = .ok (.goto 4, 3) := by decide +kernel
theorem dX8_isInLevel_36 : decode cX8_isInLevel 36 = .ok (.iconst 0, 1) := by decide +kernel
theorem dX8_isInLevel_37 : decode cX8_isInLevel 37 = .ok (.istore_n 3, 1) := by decide +kernel
theorem dX8_isInLevel_38 : decode cX8_isInLevel 38 = .ok (.iinc 4 1, 3) := by decide +kernel
theorem dX8_isInLevel_41 : decode cX8_isInLevel 41 = .ok (.goto (-36), 3) := by decide +kernel
theorem dX8_isInLevel_44 : decode cX8_isInLevel 44 = .ok (.iload_n 3, 1) := by decide +kernel
theorem dX8_isInLevel_45 : decode cX8_isInLevel 45 = .ok (.ireturn, 1) := by decide +kernel
theorem dX8_isInWork_0 : decode cX8_isInWork 0 = .ok (.iconst 0, 1) := by decide +kernel
theorem dX8_isInWork_1 : decode cX8_isInWork 1 = .ok (.istore_n 3, 1) := by decide +kernel
theorem dX8_isInWork_2 : decode cX8_isInWork 2 = .ok (.iconst 0, 1) := by decide +kernel
theorem dX8_isInWork_3 : decode cX8_isInWork 3 = .ok (.istore 4, 2) := by decide +kernel
theorem dX8_isInWork_5 : decode cX8_isInWork 5 = .ok (.iload 4, 2) := by decide +kernel
theorem dX8_isInWork_7 : decode cX8_isInWork 7 = .ok (.bipush 96, 2) := by decide +kernel
theorem dX8_isInWork_9 : decode cX8_isInWork 9 = .ok (.if_icmp .ge 35, 3) := by decide +kernel
theorem dX8_isInWork_12 : decode cX8_isInWork 12 = .ok (.iload_n 3, 1) := by decide +kernel
theorem dX8_isInWork_13 : decode cX8_isInWork 13 = .ok (.ifCond .ne 19, 3) := by decide +kernel
theorem dX8_isInWork_16 : decode cX8_isInWork 16 = .ok (.aload_n 0, 1) := by decide +kernel
theorem dX8_isInWork_17 : decode cX8_isInWork 17 = .ok (.getfield 49, 3) := by decide +kernel
theorem dX8_isInWork_20 : decode cX8_isInWork 20 = .ok (.bipush 96, 2) := by decide +kernel
theorem dX8_isInWork_22 : decode cX8_isInWork 22 = .ok (.iload_n 1, 1) := by decide +kernel
theorem dX8_isInWork_23 : decode cX8_isInWork 23 = .ok (.imul, 1) := by decide +kernel
theorem dX8_isInWork_24 : decode cX8_isInWork 24 = .ok (.iload 4, 2) := by decide +kernel
theorem dX8_isInWork_26 : decode cX8_isInWork 26 = .ok (.iadd, 1) := by decide +kernel
theorem dX8_isInWork_27 : decode cX8_isInWork 27 = .ok (.iaload, 1) := by decide +kernel
theorem dX8_isInWork_28 : decode cX8_isInWork 28 = .ok (.iload_n 2, 1) := by decide +kernel
theorem dX8_isInWork_29 : decode cX8_isInWork 29 = .ok (.if_icmp .ne 7, 3) := by decide +kernel
theorem dX8_isInWork_32 : decode cX8_isInWork 32 = .ok (.iconst 1, 1) := by decide +kernel
theorem dX8_isInWork_33 : decode cX8_isInWork 33 = .ok (.goto 4, 3) := by decide +kernel
theorem dX8_isInWork_36 : decode cX8_isInWork 36 = .ok (.iconst 0, 1) := by decide +kernel
theorem dX8_isInWork_37 : decode cX8_isInWork 37 = .ok (.istore_n 3, 1) := by decide +kernel
theorem dX8_isInWork_38 : decode cX8_isInWork 38 = .ok (.iinc 4 1, 3) := by decide +kernel
theorem dX8_isInWork_41 : decode cX8_isInWork 41 = .ok (.goto (-36), 3) := by decide +kernel
theorem dX8_isInWork_44 : decode cX8_isInWork 44 = .ok (.iload_n 3, 1) := by decide +kernel
theorem dX8_isInWork_45 : decode cX8_isInWork 45 = .ok (.ireturn, 1) := by decide +kernel
set_option maxRecDepth 20000 in
theorem ggX8_tries_X8_lays : GoodIn wsX8_tries wsX8_lays := goodIn_r _ [9, 10, 11, 12, 13, 14, 50, 51, 52, 53, 54, 55, 56, 57, 58, 59, 60, 61, 62, 63, 64, 65, 66, 67, 68, 69, 70, 71, 72, 73, 74, 75, 76, 77, 78, 79, 80, 81, 82, 83, 84, 85, 86, 87] (by decide +kernel) (by decide +kernel)
set_option maxRecDepth 20000 in
theorem gX8_tries_X8_lays : GoodIn wsX8_tries (wsV RX8 174 RX8 yX8_lays wsX8_lays) := goodIn_app (goodIn_of _ (by decide +kernel)) ggX8_tries_X8_lays
set_option maxRecDepth 20000 in
theorem ggX8_tries_X8_searches : GoodIn wsX8_tries wsX8_searches := goodIn_r _ [18, 19, 20, 21, 22, 23, 24, 25, 26, 27, 28, 8, 29, 30, 31, 32, 33, 14, 11, 34, 35, 36, 37, 38, 39, 40, 41, 42, 43, 44, 45, 46, 10, 47, 48, 49, 50, 51, 52, 53, 54, 55, 56, 57, 58, 59, 60, 61, 62, 63, 64, 65, 66, 67, 68, 69, 70, 71, 72, 73, 74, 75, 76, 77, 78, 79, 80, 81, 82, 83, 84, 85, 86, 87] (by decide +kernel) (by decide +kernel)
set_option maxRecDepth 20000 in
theorem gX8_tries_X8_searches : GoodIn wsX8_tries (wsV RX8 178 RX8 yX8_searches wsX8_searches) := goodIn_app (goodIn_of _ (by decide +kernel)) ggX8_tries_X8_searches
theorem dX8_tries_0 : decode cX8_tries 0 = .ok (.aload_n 0, 1) := by decide +kernel
theorem dX8_tries_1 : decode cX8_tries 1 = .ok (.iconst 1, 1) := by decide +kernel
theorem dX8_tries_2 : decode cX8_tries 2 = .ok (.iload_n 1, 1) := by decide +kernel
theorem dX8_tries_3 : decode cX8_tries 3 = .ok (.invokevirtual 174, 3) := by decide +kernel
theorem dX8_tries_6 : decode cX8_tries 6 = .ok (.aload_n 0, 1) := by decide +kernel
theorem dX8_tries_7 : decode cX8_tries 7 = .ok (.getfield 55, 3) := by decide +kernel
theorem dX8_tries_10 : decode cX8_tries 10 = .ok (.iload_n 1, 1) := by decide +kernel
theorem dX8_tries_11 : decode cX8_tries 11 = .ok (.aload_n 0, 1) := by decide +kernel
theorem dX8_tries_12 : decode cX8_tries 12 = .ok (.aload_n 0, 1) := by decide +kernel
theorem dX8_tries_13 : decode cX8_tries 13 = .ok (.getfield 52, 3) := by decide +kernel
theorem dX8_tries_16 : decode cX8_tries 16 = .ok (.iload_n 1, 1) := by decide +kernel
theorem dX8_tries_17 : decode cX8_tries 17 = .ok (.iaload, 1) := by decide +kernel
theorem dX8_tries_18 : decode cX8_tries 18 = .ok (.invokevirtual 178, 3) := by decide +kernel
theorem dX8_tries_21 : decode cX8_tries 21 = .ok (.iastore, 1) := by decide +kernel
theorem dX8_tries_22 : decode cX8_tries 22 = .ok (.iconst 0, 1) := by decide +kernel
theorem dX8_tries_23 : decode cX8_tries 23 = .ok (.istore_n 2, 1) := by decide +kernel
theorem dX8_tries_24 : decode cX8_tries 24 = .ok (.iload_n 2, 1) := by decide +kernel
theorem dX8_tries_25 : decode cX8_tries 25 = .ok (.bipush 6, 2) := by decide +kernel
theorem dX8_tries_27 : decode cX8_tries 27 = .ok (.if_icmp .ge 65, 3) := by decide +kernel
theorem dX8_tries_30 : decode cX8_tries 30 = .ok (.aload_n 0, 1) := by decide +kernel
theorem dX8_tries_31 : decode cX8_tries 31 = .ok (.getfield 55, 3) := by decide +kernel
theorem dX8_tries_34 : decode cX8_tries 34 = .ok (.iload_n 1, 1) := by decide +kernel
theorem dX8_tries_35 : decode cX8_tries 35 = .ok (.iaload, 1) := by decide +kernel
theorem dX8_tries_36 : decode cX8_tries 36 = .ok (.iconst (-1), 1) := by decide +kernel
theorem dX8_tries_37 : decode cX8_tries 37 = .ok (.if_icmp .ne 27, 3) := by decide +kernel
theorem dX8_tries_40 : decode cX8_tries 40 = .ok (.aload_n 0, 1) := by decide +kernel
theorem dX8_tries_41 : decode cX8_tries 41 = .ok (.getfield 67, 3) := by decide +kernel
theorem dX8_tries_44 : decode cX8_tries 44 = .ok (.iload_n 2, 1) := by decide +kernel
theorem dX8_tries_45 : decode cX8_tries 45 = .ok (.iaload, 1) := by decide +kernel
theorem dX8_tries_46 : decode cX8_tries 46 = .ok (.iconst 1, 1) := by decide +kernel
theorem dX8_tries_47 : decode cX8_tries 47 = .ok (.if_icmp .ne 17, 3) := by decide +kernel
theorem dX8_tries_50 : decode cX8_tries 50 = .ok (.aload_n 0, 1) := by decide +kernel
theorem dX8_tries_51 : decode cX8_tries 51 = .ok (.getfield 70, 3) := by decide +kernel
theorem dX8_tries_54 : decode cX8_tries 54 = .ok (.iload_n 2, 1) := by decide +kernel
theorem dX8_tries_55 : decode cX8_tries 55 = .ok (.iaload, 1) := by decide +kernel
theorem dX8_tries_56 : decode cX8_tries 56 = .ok (.iload_n 1, 1) := by decide +kernel
theorem dX8_tries_57 : decode cX8_tries 57 = .ok (.if_icmp .ne 7, 3) := by decide +kernel
theorem dX8_tries_60 : decode cX8_tries 60 = .ok (.iconst 1, 1) := by decide +kernel
theorem dX8_tries_61 : decode cX8_tries 61 = .ok (.goto 4, 3) := by decide +kernel
theorem dX8_tries_64 : decode cX8_tries 64 = .ok (.iconst 0, 1) := by decide +kernel
theorem dX8_tries_65 : decode cX8_tries 65 = .ok (.istore_n 3, 1) := by decide +kernel
theorem dX8_tries_66 : decode cX8_tries 66 = .ok (.aload_n 0, 1) := by decide +kernel
theorem dX8_tries_67 : decode cX8_tries 67 = .ok (.getfield 67, 3) := by decide +kernel
theorem dX8_tries_70 : decode cX8_tries 70 = .ok (.iload_n 2, 1) := by decide +kernel
theorem dX8_tries_71 : decode cX8_tries 71 = .ok (.iload_n 3, 1) := by decide +kernel
theorem dX8_tries_72 : decode cX8_tries 72 = .ok (.ifCond .eq 7, 3) := by decide +kernel
theorem dX8_tries_75 : decode cX8_tries 75 = .ok (.iconst 4, 1) := by decide +kernel
theorem dX8_tries_76 : decode cX8_tries 76 = .ok (.goto 9, 3) := by decide +kernel
theorem dX8_tries_79 : decode cX8_tries 79 = .ok (.aload_n 0, 1) := by decide +kernel
theorem dX8_tries_80 : decode cX8_tries 80 = .ok (.getfield 67, 3) := by decide +kernel
theorem dX8_tries_83 : decode cX8_tries 83 = .ok (.iload_n 2, 1) := by decide +kernel
theorem dX8_tries_84 : decode cX8_tries 84 = .ok (.iaload, 1) := by decide +kernel
theorem dX8_tries_85 : decode cX8_tries 85 = .ok (.iastore, 1) := by decide +kernel
theorem dX8_tries_86 : decode cX8_tries 86 = .ok (.iinc 2 1, 3) := by decide +kernel
theorem dX8_tries_89 : decode cX8_tries 89 = .ok (.goto (-65), 3) := by decide +kernel
theorem dX8_tries_92 : decode cX8_tries 92 = .ok (.return_, 1) := by decide +kernel
set_option maxRecDepth 20000 in
theorem ggX8_setSpring_X8_in : GoodIn wsX8_setSpring wsX8_in := goodIn_r _ [9] (by decide +kernel) (by decide +kernel)
set_option maxRecDepth 20000 in
theorem gX8_setSpring_X8_in : GoodIn wsX8_setSpring (va_wsS RX8 105 yX8_in wsX8_in) := goodIn_app (goodIn_of _ (by decide +kernel)) ggX8_setSpring_X8_in
set_option maxRecDepth 20000 in
theorem ggX8_setSpring_X8_fails : GoodIn wsX8_setSpring wsX8_fails := goodIn_r _ [13, 1, 70, 71, 72, 73, 74, 75, 76, 77, 78, 79, 80, 81, 82, 83, 84, 85, 86, 87, 88, 89, 90, 91, 92, 93, 94, 95, 96, 97, 98, 99, 100, 101, 102, 103, 104, 105, 106, 107] (by decide +kernel) (by decide +kernel)
set_option maxRecDepth 20000 in
theorem gX8_setSpring_X8_fails : GoodIn wsX8_setSpring (wsV RX8 153 RX8 yX8_fails wsX8_fails) := goodIn_app (goodIn_of _ (by decide +kernel)) ggX8_setSpring_X8_fails
set_option maxRecDepth 20000 in
theorem ggX8_setSpring_X8_isInLevel : GoodIn wsX8_setSpring wsX8_isInLevel := goodIn_r _ [17, 18, 70, 71, 72, 73, 74, 75, 76, 77, 78, 79, 80, 81, 82, 83, 84, 85, 86, 87, 88, 89, 90, 91, 92, 93, 94, 95, 96, 97, 98, 99, 100, 101, 102, 103, 104, 105, 106, 107] (by decide +kernel) (by decide +kernel)
set_option maxRecDepth 20000 in
theorem gX8_setSpring_X8_isInLevel : GoodIn wsX8_setSpring (wsV RX8 181 RX8 yX8_isInLevel wsX8_isInLevel) := goodIn_app (goodIn_of _ (by decide +kernel)) ggX8_setSpring_X8_isInLevel
set_option maxRecDepth 20000 in
theorem ggX8_setSpring_X8_isInWork : GoodIn wsX8_setSpring wsX8_isInWork := goodIn_r _ [22, 23, 70, 71, 72, 73, 74, 75, 76, 77, 78, 79, 80, 81, 82, 83, 84, 85, 86, 87, 88, 89, 90, 91, 92, 93, 94, 95, 96, 97, 98, 99, 100, 101, 102, 103, 104, 105, 106, 107] (by decide +kernel) (by decide +kernel)
set_option maxRecDepth 20000 in
theorem gX8_setSpring_X8_isInWork : GoodIn wsX8_setSpring (wsV RX8 184 RX8 yX8_isInWork wsX8_isInWork) := goodIn_app (goodIn_of _ (by decide +kernel)) ggX8_setSpring_X8_isInWork
set_option maxRecDepth 20000 in
theorem ggX8_setSpring_X8_tries : GoodIn wsX8_setSpring wsX8_tries := goodIn_r _ [27, 28, 29, 30, 31, 32, 33, 34, 8, 35, 36, 37, 23, 18, 38, 39, 40, 41, 42, 43, 44, 45, 46, 47, 48, 49, 50, 51, 52, 53, 54, 55, 56, 57, 58, 59, 60, 61, 62, 63, 64, 65, 2, 66, 67, 68, 69, 6, 7, 9, 70, 71, 72, 73, 74, 75, 76, 77, 78, 79, 80, 81, 82, 83, 84, 85, 86, 87, 88, 89, 90, 91, 92, 93, 94, 95, 96, 97, 98, 99, 100, 101, 102, 103, 104, 105, 106, 107] (by decide +kernel) (by decide +kernel)
set_option maxRecDepth 20000 in
theorem gX8_setSpring_X8_tries : GoodIn wsX8_setSpring (wsV RX8 187 RX8 yX8_tries wsX8_tries) := goodIn_app (goodIn_of _ (by decide +kernel)) ggX8_setSpring_X8_tries
theorem dX8_setSpring_0 : decode cX8_setSpring 0 = .ok (.aload_n 0, 1) := by decide +kernel
theorem dX8_setSpring_1 : decode cX8_setSpring 1 = .ok (.iconst 0, 1) := by decide +kernel
theorem dX8_setSpring_2 : decode cX8_setSpring 2 = .ok (.putfield 101, 3) := by decide +kernel
theorem dX8_setSpring_5 : decode cX8_setSpring 5 = .ok (.iload_n 1, 1) := by decide +kernel
theorem dX8_setSpring_6 : decode cX8_setSpring 6 = .ok (.iconst 0, 1) := by decide +kernel
theorem dX8_setSpring_7 : decode cX8_setSpring 7 = .ok (.iconst 2, 1) := by decide +kernel
theorem dX8_setSpring_8 : decode cX8_setSpring 8 = .ok (.invokestatic 105, 3) := by decide +kernel
theorem dX8_setSpring_11 : decode cX8_setSpring 11 = .ok (.ifCond .ne 9, 3) := by decide +kernel
theorem dX8_setSpring_14 : decode cX8_setSpring 14 = .ok (.aload_n 0, 1) := by decide +kernel
theorem dX8_setSpring_15 : decode cX8_setSpring 15 = .ok (.iconst 1, 1) := by decide +kernel
theorem dX8_setSpring_16 : decode cX8_setSpring 16 = .ok (.invokevirtual 153, 3) := by decide +kernel
theorem dX8_setSpring_19 : decode cX8_setSpring 19 = .ok (.ireturn, 1) := by decide +kernel
theorem dX8_setSpring_20 : decode cX8_setSpring 20 = .ok (.iload_n 2, 1) := by decide +kernel
theorem dX8_setSpring_21 : decode cX8_setSpring 21 = .ok (.iconst 1, 1) := by decide +kernel
theorem dX8_setSpring_22 : decode cX8_setSpring 22 = .ok (.iconst 4, 1) := by decide +kernel
theorem dX8_setSpring_23 : decode cX8_setSpring 23 = .ok (.invokestatic 105, 3) := by decide +kernel
theorem dX8_setSpring_26 : decode cX8_setSpring 26 = .ok (.ifCond .ne 9, 3) := by decide +kernel
theorem dX8_setSpring_29 : decode cX8_setSpring 29 = .ok (.aload_n 0, 1) := by decide +kernel
theorem dX8_setSpring_30 : decode cX8_setSpring 30 = .ok (.iconst 2, 1) := by decide +kernel
theorem dX8_setSpring_31 : decode cX8_setSpring 31 = .ok (.invokevirtual 153, 3) := by decide +kernel
theorem dX8_setSpring_34 : decode cX8_setSpring 34 = .ok (.ireturn, 1) := by decide +kernel
theorem dX8_setSpring_35 : decode cX8_setSpring 35 = .ok (.iconst 0, 1) := by decide +kernel
theorem dX8_setSpring_36 : decode cX8_setSpring 36 = .ok (.istore_n 3, 1) := by decide +kernel
theorem dX8_setSpring_37 : decode cX8_setSpring 37 = .ok (.aload_n 0, 1) := by decide +kernel
theorem dX8_setSpring_38 : decode cX8_setSpring 38 = .ok (.getfield 7, 3) := by decide +kernel
theorem dX8_setSpring_41 : decode cX8_setSpring 41 = .ok (.iload_n 1, 1) := by decide +kernel
theorem dX8_setSpring_42 : decode cX8_setSpring 42 = .ok (.iaload, 1) := by decide +kernel
theorem dX8_setSpring_43 : decode cX8_setSpring 43 = .ok (.iload_n 2, 1) := by decide +kernel
theorem dX8_setSpring_44 : decode cX8_setSpring 44 = .ok (.if_icmp .eq 134, 3) := by decide +kernel
theorem dX8_setSpring_47 : decode cX8_setSpring 47 = .ok (.aload_n 0, 1) := by decide +kernel
theorem dX8_setSpring_48 : decode cX8_setSpring 48 = .ok (.getfield 7, 3) := by decide +kernel
theorem dX8_setSpring_51 : decode cX8_setSpring 51 = .ok (.iload_n 1, 1) := by decide +kernel
theorem dX8_setSpring_52 : decode cX8_setSpring 52 = .ok (.iload_n 2, 1) := by decide +kernel
theorem dX8_setSpring_53 : decode cX8_setSpring 53 = .ok (.iastore, 1) := by decide +kernel
theorem dX8_setSpring_54 : decode cX8_setSpring 54 = .ok (.iconst 0, 1) := by decide +kernel
theorem dX8_setSpring_55 : decode cX8_setSpring 55 = .ok (.istore 4, 2) := by decide +kernel
theorem dX8_setSpring_57 : decode cX8_setSpring 57 = .ok (.iload 4, 2) := by decide +kernel
theorem dX8_setSpring_59 : decode cX8_setSpring 59 = .ok (.aload_n 0, 1) := by decide +kernel
theorem dX8_setSpring_60 : decode cX8_setSpring 60 = .ok (.getfield 109, 3) := by decide +kernel
theorem dX8_setSpring_63 : decode cX8_setSpring 63 = .ok (.if_icmp .ge 78, 3) := by decide +kernel
theorem dX8_setSpring_66 : decode cX8_setSpring 66 = .ok (.aload_n 0, 1) := by decide +kernel
theorem dX8_setSpring_67 : decode cX8_setSpring 67 = .ok (.getfield 22, 3) := by decide +kernel
theorem dX8_setSpring_70 : decode cX8_setSpring 70 = .ok (.iload 4, 2) := by decide +kernel
theorem dX8_setSpring_72 : decode cX8_setSpring 72 = .ok (.iaload, 1) := by decide +kernel
theorem dX8_setSpring_73 : decode cX8_setSpring 73 = .ok (.bipush (-2), 2) := by decide +kernel
theorem dX8_setSpring_75 : decode cX8_setSpring 75 = .ok (.if_icmp .eq 20, 3) := by decide +kernel
theorem dX8_setSpring_78 : decode cX8_setSpring 78 = .ok (.aload_n 0, 1) := by decide +kernel
theorem dX8_setSpring_79 : decode cX8_setSpring 79 = .ok (.iload 4, 2) := by decide +kernel
theorem dX8_setSpring_81 : decode cX8_setSpring 81 = .ok (.bipush 6, 2) := by decide +kernel
theorem dX8_setSpring_83 : decode cX8_setSpring 83 = .ok (.iload_n 1, 1) := by decide +kernel
theorem dX8_setSpring_84 : decode cX8_setSpring 84 = .ok (.iadd, 1) := by decide +kernel
theorem dX8_setSpring_85 : decode cX8_setSpring 85 = .ok (.invokevirtual 181, 3) := by decide +kernel
theorem dX8_setSpring_88 : decode cX8_setSpring 88 = .ok (.ifCond .eq 7, 3) := by decide +kernel
theorem dX8_setSpring_91 : decode cX8_setSpring 91 = .ok (.iconst 1, 1) := by decide +kernel
theorem dX8_setSpring_92 : decode cX8_setSpring 92 = .ok (.goto 4, 3) := by decide +kernel
theorem dX8_setSpring_95 : decode cX8_setSpring 95 = .ok (.iconst 0, 1) := by decide +kernel
theorem dX8_setSpring_96 : decode cX8_setSpring 96 = .ok (.istore 5, 2) := by decide +kernel
theorem dX8_setSpring_98 : decode cX8_setSpring 98 = .ok (.aload_n 0, 1) := by decide +kernel
theorem dX8_setSpring_99 : decode cX8_setSpring 99 = .ok (.getfield 22, 3) := by decide +kernel
theorem dX8_setSpring_102 : decode cX8_setSpring 102 = .ok (.iload 4, 2) := by decide +kernel
theorem dX8_setSpring_104 : decode cX8_setSpring 104 = .ok (.iload 5, 2) := by decide +kernel
theorem dX8_setSpring_106 : decode cX8_setSpring 106 = .ok (.ifCond .eq 8, 3) := by decide +kernel
theorem dX8_setSpring_109 : decode cX8_setSpring 109 = .ok (.bipush (-2), 2) := by decide +kernel
theorem dX8_setSpring_111 : decode cX8_setSpring 111 = .ok (.goto 10, 3) := by decide +kernel
theorem dX8_setSpring_114 : decode cX8_setSpring 114 = .ok (.aload_n 0, 1) := by decide +kernel
theorem dX8_setSpring_115 : decode cX8_setSpring 115 = .ok (.getfield 22, 3) := by decide +kernel
theorem dX8_setSpring_118 : decode cX8_setSpring 118 = .ok (.iload 4, 2) := by decide +kernel
theorem dX8_setSpring_120 : decode cX8_setSpring 120 = .ok (.iaload, 1) := by decide +kernel
theorem dX8_setSpring_121 : decode cX8_setSpring 121 = .ok (.iastore, 1) := by decide +kernel
theorem dX8_setSpring_122 : decode cX8_setSpring 122 = .ok (.iload_n 3, 1) := by decide +kernel
theorem dX8_setSpring_123 : decode cX8_setSpring 123 = .ok (.iload 5, 2) := by decide +kernel
theorem dX8_setSpring_125 : decode cX8_setSpring 125 = .ok (.ifCond .eq 7, 3) := by decide +kernel
theorem dX8_setSpring_128 : decode cX8_setSpring 128 = .ok (.iconst 1, 1) := by decide +kernel
theorem dX8_setSpring_129 : decode cX8_setSpring 129 = .ok (.goto 4, 3) := by decide +kernel
theorem dX8_setSpring_132 : decode cX8_setSpring 132 = .ok (.iconst 0, 1) := by decide +kernel
theorem dX8_setSpring_133 : decode cX8_setSpring 133 = .ok (.iadd, 1) := by decide +kernel
theorem dX8_setSpring_134 : decode cX8_setSpring 134 = .ok (.istore_n 3, 1) := by decide +kernel
theorem dX8_setSpring_135 : decode cX8_setSpring 135 = .ok (.iinc 4 1, 3) := by decide +kernel
theorem dX8_setSpring_138 : decode cX8_setSpring 138 = .ok (.goto (-81), 3) := by decide +kernel
theorem dX8_setSpring_141 : decode cX8_setSpring 141 = .ok (.iconst 0, 1) := by decide +kernel
theorem dX8_setSpring_142 : decode cX8_setSpring 142 = .ok (.istore 4, 2) := by decide +kernel
theorem dX8_setSpring_144 : decode cX8_setSpring 144 = .ok (.iload 4, 2) := by decide +kernel
theorem dX8_setSpring_146 : decode cX8_setSpring 146 = .ok (.aload_n 0, 1) := by decide +kernel
theorem dX8_setSpring_147 : decode cX8_setSpring 147 = .ok (.getfield 112, 3) := by decide +kernel
theorem dX8_setSpring_150 : decode cX8_setSpring 150 = .ok (.if_icmp .ge 28, 3) := by decide +kernel
theorem dX8_setSpring_153 : decode cX8_setSpring 153 = .ok (.aload_n 0, 1) := by decide +kernel
theorem dX8_setSpring_154 : decode cX8_setSpring 154 = .ok (.iload 4, 2) := by decide +kernel
theorem dX8_setSpring_156 : decode cX8_setSpring 156 = .ok (.bipush 6, 2) := by decide +kernel
theorem dX8_setSpring_158 : decode cX8_setSpring 158 = .ok (.iload_n 1, 1) := by decide +kernel
theorem dX8_setSpring_159 : decode cX8_setSpring 159 = .ok (.iadd, 1) := by decide +kernel
theorem dX8_setSpring_160 : decode cX8_setSpring 160 = .ok (.invokevirtual 184, 3) := by decide +kernel
theorem dX8_setSpring_163 : decode cX8_setSpring 163 = .ok (.ifCond .eq 9, 3) := by decide +kernel
theorem dX8_setSpring_166 : decode cX8_setSpring 166 = .ok (.aload_n 0, 1) := by decide +kernel
theorem dX8_setSpring_167 : decode cX8_setSpring 167 = .ok (.iload 4, 2) := by decide +kernel
theorem dX8_setSpring_169 : decode cX8_setSpring 169 = .ok (.invokevirtual 187, 3) := by decide +kernel
theorem dX8_setSpring_172 : decode cX8_setSpring 172 = .ok (.iinc 4 1, 3) := by decide +kernel
theorem dX8_setSpring_175 : decode cX8_setSpring 175 = .ok (.goto (-31), 3) := by decide +kernel
theorem dX8_setSpring_178 : decode cX8_setSpring 178 = .ok (.iload_n 3, 1) := by decide +kernel
theorem dX8_setSpring_179 : decode cX8_setSpring 179 = .ok (.ireturn, 1) := by decide +kernel
set_option maxRecDepth 20000 in
theorem ggX8_prove_X8_isLevel : GoodIn wsX8_prove wsX8_isLevel := goodIn_r _ [8, 9, 10, 11, 7, 12, 58, 59, 60, 61, 62, 63, 64, 65, 66, 67, 68, 69, 70, 71, 72, 73, 74, 75, 76, 77, 78, 79, 80, 81, 82, 83, 84, 85, 86, 87, 88, 89, 90, 91, 92, 93, 94, 95] (by decide +kernel) (by decide +kernel)
set_option maxRecDepth 20000 in
theorem gX8_prove_X8_isLevel : GoodIn wsX8_prove (wsV RX8 161 RX8 yX8_isLevel wsX8_isLevel) := goodIn_app (goodIn_of _ (by decide +kernel)) ggX8_prove_X8_isLevel
set_option maxRecDepth 20000 in
theorem ggX8_prove_X8_fails : GoodIn wsX8_prove wsX8_fails := goodIn_r _ [16, 1, 58, 59, 60, 61, 62, 63, 64, 65, 66, 67, 68, 69, 70, 71, 72, 73, 74, 75, 76, 77, 78, 79, 80, 81, 82, 83, 84, 85, 86, 87, 88, 89, 90, 91, 92, 93, 94, 95] (by decide +kernel) (by decide +kernel)
set_option maxRecDepth 20000 in
theorem gX8_prove_X8_fails : GoodIn wsX8_prove (wsV RX8 153 RX8 yX8_fails wsX8_fails) := goodIn_app (goodIn_of _ (by decide +kernel)) ggX8_prove_X8_fails
set_option maxRecDepth 20000 in
theorem ggX8_prove_X8_lays : GoodIn wsX8_prove wsX8_lays := goodIn_r _ [20, 21, 22, 23, 24, 25, 58, 59, 60, 61, 62, 63, 64, 65, 66, 67, 68, 69, 70, 71, 72, 73, 74, 75, 76, 77, 78, 79, 80, 81, 82, 83, 84, 85, 86, 87, 88, 89, 90, 91, 92, 93, 94, 95] (by decide +kernel) (by decide +kernel)
set_option maxRecDepth 20000 in
theorem gX8_prove_X8_lays : GoodIn wsX8_prove (wsV RX8 174 RX8 yX8_lays wsX8_lays) := goodIn_app (goodIn_of _ (by decide +kernel)) ggX8_prove_X8_lays
set_option maxRecDepth 20000 in
theorem ggX8_prove_X8_searches : GoodIn wsX8_prove wsX8_searches := goodIn_r _ [29, 30, 31, 32, 33, 34, 35, 36, 37, 38, 39, 7, 40, 41, 42, 43, 44, 25, 22, 45, 46, 47, 48, 49, 50, 51, 52, 53, 54, 55, 56, 57, 21, 10, 11, 12, 58, 59, 60, 61, 62, 63, 64, 65, 66, 67, 68, 69, 70, 71, 72, 73, 74, 75, 76, 77, 78, 79, 80, 81, 82, 83, 84, 85, 86, 87, 88, 89, 90, 91, 92, 93, 94, 95] (by decide +kernel) (by decide +kernel)
set_option maxRecDepth 20000 in
theorem gX8_prove_X8_searches : GoodIn wsX8_prove (wsV RX8 178 RX8 yX8_searches wsX8_searches) := goodIn_app (goodIn_of _ (by decide +kernel)) ggX8_prove_X8_searches
theorem dX8_prove_0 : decode cX8_prove 0 = .ok (.aload_n 0, 1) := by decide +kernel
theorem dX8_prove_1 : decode cX8_prove 1 = .ok (.iconst 0, 1) := by decide +kernel
theorem dX8_prove_2 : decode cX8_prove 2 = .ok (.putfield 101, 3) := by decide +kernel
theorem dX8_prove_5 : decode cX8_prove 5 = .ok (.aload_n 0, 1) := by decide +kernel
theorem dX8_prove_6 : decode cX8_prove 6 = .ok (.iload_n 1, 1) := by decide +kernel
theorem dX8_prove_7 : decode cX8_prove 7 = .ok (.invokevirtual 161, 3) := by decide +kernel
theorem dX8_prove_10 : decode cX8_prove 10 = .ok (.ifCond .ne 9, 3) := by decide +kernel
theorem dX8_prove_13 : decode cX8_prove 13 = .ok (.aload_n 0, 1) := by decide +kernel
theorem dX8_prove_14 : decode cX8_prove 14 = .ok (.iconst 1, 1) := by decide +kernel
theorem dX8_prove_15 : decode cX8_prove 15 = .ok (.invokevirtual 153, 3) := by decide +kernel
theorem dX8_prove_18 : decode cX8_prove 18 = .ok (.ireturn, 1) := by decide +kernel
theorem dX8_prove_19 : decode cX8_prove 19 = .ok (.aload_n 0, 1) := by decide +kernel
theorem dX8_prove_20 : decode cX8_prove 20 = .ok (.iconst 0, 1) := by decide +kernel
theorem dX8_prove_21 : decode cX8_prove 21 = .ok (.iload_n 1, 1) := by decide +kernel
theorem dX8_prove_22 : decode cX8_prove 22 = .ok (.invokevirtual 174, 3) := by decide +kernel
theorem dX8_prove_25 : decode cX8_prove 25 = .ok (.aload_n 0, 1) := by decide +kernel
theorem dX8_prove_26 : decode cX8_prove 26 = .ok (.getfield 22, 3) := by decide +kernel
theorem dX8_prove_29 : decode cX8_prove 29 = .ok (.iload_n 1, 1) := by decide +kernel
theorem dX8_prove_30 : decode cX8_prove 30 = .ok (.aload_n 0, 1) := by decide +kernel
theorem dX8_prove_31 : decode cX8_prove 31 = .ok (.aload_n 0, 1) := by decide +kernel
theorem dX8_prove_32 : decode cX8_prove 32 = .ok (.getfield 19, 3) := by decide +kernel
theorem dX8_prove_35 : decode cX8_prove 35 = .ok (.iload_n 1, 1) := by decide +kernel
theorem dX8_prove_36 : decode cX8_prove 36 = .ok (.iaload, 1) := by decide +kernel
theorem dX8_prove_37 : decode cX8_prove 37 = .ok (.invokevirtual 178, 3) := by decide +kernel
theorem dX8_prove_40 : decode cX8_prove 40 = .ok (.iastore, 1) := by decide +kernel
theorem dX8_prove_41 : decode cX8_prove 41 = .ok (.aload_n 0, 1) := by decide +kernel
theorem dX8_prove_42 : decode cX8_prove 42 = .ok (.getfield 22, 3) := by decide +kernel
theorem dX8_prove_45 : decode cX8_prove 45 = .ok (.iload_n 1, 1) := by decide +kernel
theorem dX8_prove_46 : decode cX8_prove 46 = .ok (.iaload, 1) := by decide +kernel
theorem dX8_prove_47 : decode cX8_prove 47 = .ok (.ireturn, 1) := by decide +kernel
set_option maxRecDepth 20000 in
theorem ggX8_offer_X8_isLevel : GoodIn wsX8_offer wsX8_isLevel := goodIn_r _ [18, 19, 20, 21, 17, 22, 27, 28, 29, 30, 31, 32, 33, 34, 35, 36, 37, 38, 39, 40, 41, 42, 43, 44, 45, 46, 47, 48, 49, 50, 51, 52, 53, 54, 55, 56, 57, 58, 59, 60, 61, 62, 63, 64] (by decide +kernel) (by decide +kernel)
set_option maxRecDepth 20000 in
theorem gX8_offer_X8_isLevel : GoodIn wsX8_offer (wsV RX8 161 RX8 yX8_isLevel wsX8_isLevel) := goodIn_app (goodIn_of _ (by decide +kernel)) ggX8_offer_X8_isLevel
set_option maxRecDepth 20000 in
theorem ggX8_offer_X8_fails : GoodIn wsX8_offer wsX8_fails := goodIn_r _ [26, 1, 27, 28, 29, 30, 31, 32, 33, 34, 35, 36, 37, 38, 39, 40, 41, 42, 43, 44, 45, 46, 47, 48, 49, 50, 51, 52, 53, 54, 55, 56, 57, 58, 59, 60, 61, 62, 63, 64] (by decide +kernel) (by decide +kernel)
set_option maxRecDepth 20000 in
theorem gX8_offer_X8_fails : GoodIn wsX8_offer (wsV RX8 153 RX8 yX8_fails wsX8_fails) := goodIn_app (goodIn_of _ (by decide +kernel)) ggX8_offer_X8_fails
theorem dX8_offer_0 : decode cX8_offer 0 = .ok (.aload_n 0, 1) := by decide +kernel
theorem dX8_offer_1 : decode cX8_offer 1 = .ok (.iconst 0, 1) := by decide +kernel
theorem dX8_offer_2 : decode cX8_offer 2 = .ok (.putfield 101, 3) := by decide +kernel
theorem dX8_offer_5 : decode cX8_offer 5 = .ok (.aload_n 0, 1) := by decide +kernel
theorem dX8_offer_6 : decode cX8_offer 6 = .ok (.iload_n 1, 1) := by decide +kernel
theorem dX8_offer_7 : decode cX8_offer 7 = .ok (.invokevirtual 161, 3) := by decide +kernel
theorem dX8_offer_10 : decode cX8_offer 10 = .ok (.ifCond .ne 9, 3) := by decide +kernel
theorem dX8_offer_13 : decode cX8_offer 13 = .ok (.aload_n 0, 1) := by decide +kernel
theorem dX8_offer_14 : decode cX8_offer 14 = .ok (.iconst 1, 1) := by decide +kernel
theorem dX8_offer_15 : decode cX8_offer 15 = .ok (.invokevirtual 153, 3) := by decide +kernel
theorem dX8_offer_18 : decode cX8_offer 18 = .ok (.ireturn, 1) := by decide +kernel
theorem dX8_offer_19 : decode cX8_offer 19 = .ok (.aload_n 0, 1) := by decide +kernel
theorem dX8_offer_20 : decode cX8_offer 20 = .ok (.getfield 22, 3) := by decide +kernel
theorem dX8_offer_23 : decode cX8_offer 23 = .ok (.iload_n 1, 1) := by decide +kernel
theorem dX8_offer_24 : decode cX8_offer 24 = .ok (.iaload, 1) := by decide +kernel
theorem dX8_offer_25 : decode cX8_offer 25 = .ok (.ifCond .lt 12, 3) := by decide +kernel
theorem dX8_offer_28 : decode cX8_offer 28 = .ok (.aload_n 0, 1) := by decide +kernel
theorem dX8_offer_29 : decode cX8_offer 29 = .ok (.getfield 112, 3) := by decide +kernel
theorem dX8_offer_32 : decode cX8_offer 32 = .ok (.bipush 20, 2) := by decide +kernel
theorem dX8_offer_34 : decode cX8_offer 34 = .ok (.if_icmp .ne 9, 3) := by decide +kernel
theorem dX8_offer_37 : decode cX8_offer 37 = .ok (.aload_n 0, 1) := by decide +kernel
theorem dX8_offer_38 : decode cX8_offer 38 = .ok (.iconst 2, 1) := by decide +kernel
theorem dX8_offer_39 : decode cX8_offer 39 = .ok (.invokevirtual 153, 3) := by decide +kernel
theorem dX8_offer_42 : decode cX8_offer 42 = .ok (.ireturn, 1) := by decide +kernel
theorem dX8_offer_43 : decode cX8_offer 43 = .ok (.iconst 0, 1) := by decide +kernel
theorem dX8_offer_44 : decode cX8_offer 44 = .ok (.istore_n 2, 1) := by decide +kernel
theorem dX8_offer_45 : decode cX8_offer 45 = .ok (.iload_n 2, 1) := by decide +kernel
theorem dX8_offer_46 : decode cX8_offer 46 = .ok (.bipush 96, 2) := by decide +kernel
theorem dX8_offer_48 : decode cX8_offer 48 = .ok (.if_icmp .ge 34, 3) := by decide +kernel
theorem dX8_offer_51 : decode cX8_offer 51 = .ok (.aload_n 0, 1) := by decide +kernel
theorem dX8_offer_52 : decode cX8_offer 52 = .ok (.getfield 49, 3) := by decide +kernel
theorem dX8_offer_55 : decode cX8_offer 55 = .ok (.bipush 96, 2) := by decide +kernel
theorem dX8_offer_57 : decode cX8_offer 57 = .ok (.aload_n 0, 1) := by decide +kernel
theorem dX8_offer_58 : decode cX8_offer 58 = .ok (.getfield 112, 3) := by decide +kernel
theorem dX8_offer_61 : decode cX8_offer 61 = .ok (.imul, 1) := by decide +kernel
theorem dX8_offer_62 : decode cX8_offer 62 = .ok (.iload_n 2, 1) := by decide +kernel
theorem dX8_offer_63 : decode cX8_offer 63 = .ok (.iadd, 1) := by decide +kernel
theorem dX8_offer_64 : decode cX8_offer 64 = .ok (.aload_n 0, 1) := by decide +kernel
theorem dX8_offer_65 : decode cX8_offer 65 = .ok (.getfield 16, 3) := by decide +kernel
theorem dX8_offer_68 : decode cX8_offer 68 = .ok (.bipush 96, 2) := by decide +kernel
theorem dX8_offer_70 : decode cX8_offer 70 = .ok (.iload_n 1, 1) := by decide +kernel
theorem dX8_offer_71 : decode cX8_offer 71 = .ok (.imul, 1) := by decide +kernel
theorem dX8_offer_72 : decode cX8_offer 72 = .ok (.iload_n 2, 1) := by decide +kernel
theorem dX8_offer_73 : decode cX8_offer 73 = .ok (.iadd, 1) := by decide +kernel
theorem dX8_offer_74 : decode cX8_offer 74 = .ok (.iaload, 1) := by decide +kernel
theorem dX8_offer_75 : decode cX8_offer 75 = .ok (.iastore, 1) := by decide +kernel
theorem dX8_offer_76 : decode cX8_offer 76 = .ok (.iinc 2 1, 3) := by decide +kernel
theorem dX8_offer_79 : decode cX8_offer 79 = .ok (.goto (-34), 3) := by decide +kernel
theorem dX8_offer_82 : decode cX8_offer 82 = .ok (.aload_n 0, 1) := by decide +kernel
theorem dX8_offer_83 : decode cX8_offer 83 = .ok (.getfield 46, 3) := by decide +kernel
theorem dX8_offer_86 : decode cX8_offer 86 = .ok (.aload_n 0, 1) := by decide +kernel
theorem dX8_offer_87 : decode cX8_offer 87 = .ok (.getfield 112, 3) := by decide +kernel
theorem dX8_offer_90 : decode cX8_offer 90 = .ok (.aload_n 0, 1) := by decide +kernel
theorem dX8_offer_91 : decode cX8_offer 91 = .ok (.getfield 13, 3) := by decide +kernel
theorem dX8_offer_94 : decode cX8_offer 94 = .ok (.iload_n 1, 1) := by decide +kernel
theorem dX8_offer_95 : decode cX8_offer 95 = .ok (.iaload, 1) := by decide +kernel
theorem dX8_offer_96 : decode cX8_offer 96 = .ok (.iastore, 1) := by decide +kernel
theorem dX8_offer_97 : decode cX8_offer 97 = .ok (.aload_n 0, 1) := by decide +kernel
theorem dX8_offer_98 : decode cX8_offer 98 = .ok (.getfield 52, 3) := by decide +kernel
theorem dX8_offer_101 : decode cX8_offer 101 = .ok (.aload_n 0, 1) := by decide +kernel
theorem dX8_offer_102 : decode cX8_offer 102 = .ok (.getfield 112, 3) := by decide +kernel
theorem dX8_offer_105 : decode cX8_offer 105 = .ok (.aload_n 0, 1) := by decide +kernel
theorem dX8_offer_106 : decode cX8_offer 106 = .ok (.getfield 19, 3) := by decide +kernel
theorem dX8_offer_109 : decode cX8_offer 109 = .ok (.iload_n 1, 1) := by decide +kernel
theorem dX8_offer_110 : decode cX8_offer 110 = .ok (.iaload, 1) := by decide +kernel
theorem dX8_offer_111 : decode cX8_offer 111 = .ok (.iastore, 1) := by decide +kernel
theorem dX8_offer_112 : decode cX8_offer 112 = .ok (.aload_n 0, 1) := by decide +kernel
theorem dX8_offer_113 : decode cX8_offer 113 = .ok (.getfield 55, 3) := by decide +kernel
theorem dX8_offer_116 : decode cX8_offer 116 = .ok (.aload_n 0, 1) := by decide +kernel
theorem dX8_offer_117 : decode cX8_offer 117 = .ok (.getfield 112, 3) := by decide +kernel
theorem dX8_offer_120 : decode cX8_offer 120 = .ok (.aload_n 0, 1) := by decide +kernel
theorem dX8_offer_121 : decode cX8_offer 121 = .ok (.getfield 22, 3) := by decide +kernel
theorem dX8_offer_124 : decode cX8_offer 124 = .ok (.iload_n 1, 1) := by decide +kernel
theorem dX8_offer_125 : decode cX8_offer 125 = .ok (.iaload, 1) := by decide +kernel
theorem dX8_offer_126 : decode cX8_offer 126 = .ok (.iastore, 1) := by decide +kernel
theorem dX8_offer_127 : decode cX8_offer 127 = .ok (.aload_n 0, 1) := by decide +kernel
theorem dX8_offer_128 : decode cX8_offer 128 = .ok (.getfield 58, 3) := by decide +kernel
theorem dX8_offer_131 : decode cX8_offer 131 = .ok (.aload_n 0, 1) := by decide +kernel
theorem dX8_offer_132 : decode cX8_offer 132 = .ok (.getfield 112, 3) := by decide +kernel
theorem dX8_offer_135 : decode cX8_offer 135 = .ok (.aload_n 0, 1) := by decide +kernel
theorem dX8_offer_136 : decode cX8_offer 136 = .ok (.getfield 25, 3) := by decide +kernel
theorem dX8_offer_139 : decode cX8_offer 139 = .ok (.iload_n 1, 1) := by decide +kernel
theorem dX8_offer_140 : decode cX8_offer 140 = .ok (.iaload, 1) := by decide +kernel
theorem dX8_offer_141 : decode cX8_offer 141 = .ok (.iastore, 1) := by decide +kernel
theorem dX8_offer_142 : decode cX8_offer 142 = .ok (.aload_n 0, 1) := by decide +kernel
theorem dX8_offer_143 : decode cX8_offer 143 = .ok (.getfield 61, 3) := by decide +kernel
theorem dX8_offer_146 : decode cX8_offer 146 = .ok (.aload_n 0, 1) := by decide +kernel
theorem dX8_offer_147 : decode cX8_offer 147 = .ok (.getfield 112, 3) := by decide +kernel
theorem dX8_offer_150 : decode cX8_offer 150 = .ok (.iconst (-1), 1) := by decide +kernel
theorem dX8_offer_151 : decode cX8_offer 151 = .ok (.iastore, 1) := by decide +kernel
theorem dX8_offer_152 : decode cX8_offer 152 = .ok (.aload_n 0, 1) := by decide +kernel
theorem dX8_offer_153 : decode cX8_offer 153 = .ok (.dup, 1) := by decide +kernel
theorem dX8_offer_154 : decode cX8_offer 154 = .ok (.getfield 112, 3) := by decide +kernel
theorem dX8_offer_157 : decode cX8_offer 157 = .ok (.iconst 1, 1) := by decide +kernel
theorem dX8_offer_158 : decode cX8_offer 158 = .ok (.iadd, 1) := by decide +kernel
theorem dX8_offer_159 : decode cX8_offer 159 = .ok (.putfield 112, 3) := by decide +kernel
theorem dX8_offer_162 : decode cX8_offer 162 = .ok (.aload_n 0, 1) := by decide +kernel
theorem dX8_offer_163 : decode cX8_offer 163 = .ok (.getfield 112, 3) := by decide +kernel
theorem dX8_offer_166 : decode cX8_offer 166 = .ok (.iconst 1, 1) := by decide +kernel
theorem dX8_offer_167 : decode cX8_offer 167 = .ok (.isub, 1) := by decide +kernel
theorem dX8_offer_168 : decode cX8_offer 168 = .ok (.ireturn, 1) := by decide +kernel
set_option maxRecDepth 20000 in
theorem ggX8_copy_X8_isWork : GoodIn wsX8_copy wsX8_isWork := goodIn_r _ [11, 12, 13, 14, 10, 15, 31, 32, 33, 34, 35, 36, 37, 38, 39, 40, 41, 42, 43, 44, 45, 46, 47, 48, 49, 50, 51, 52, 53, 54, 55, 56, 57, 58, 59, 60, 61, 62, 63, 64, 65, 66, 67, 68] (by decide +kernel) (by decide +kernel)
set_option maxRecDepth 20000 in
theorem gX8_copy_X8_isWork : GoodIn wsX8_copy (wsV RX8 190 RX8 yX8_isWork wsX8_isWork) := goodIn_app (goodIn_of _ (by decide +kernel)) ggX8_copy_X8_isWork
set_option maxRecDepth 20000 in
theorem ggX8_copy_X8_isPerson : GoodIn wsX8_copy wsX8_isPerson := goodIn_r _ [18, 13, 14, 10, 15] (by decide +kernel) (by decide +kernel)
set_option maxRecDepth 20000 in
theorem gX8_copy_X8_isPerson : GoodIn wsX8_copy (va_wsS RX8 149 yX8_isPerson wsX8_isPerson) := goodIn_app (goodIn_of _ (by decide +kernel)) ggX8_copy_X8_isPerson
set_option maxRecDepth 20000 in
theorem ggX8_copy_X8_fails : GoodIn wsX8_copy wsX8_fails := goodIn_r _ [22, 1, 31, 32, 33, 34, 35, 36, 37, 38, 39, 40, 41, 42, 43, 44, 45, 46, 47, 48, 49, 50, 51, 52, 53, 54, 55, 56, 57, 58, 59, 60, 61, 62, 63, 64, 65, 66, 67, 68] (by decide +kernel) (by decide +kernel)
set_option maxRecDepth 20000 in
theorem gX8_copy_X8_fails : GoodIn wsX8_copy (wsV RX8 153 RX8 yX8_fails wsX8_fails) := goodIn_app (goodIn_of _ (by decide +kernel)) ggX8_copy_X8_fails
set_option maxRecDepth 20000 in
theorem ggX8_copy_X8_opens : GoodIn wsX8_copy wsX8_opens := goodIn_r _ [26, 27, 3, 28, 29, 30, 31, 32, 33, 34, 35, 36, 37, 38, 39, 40, 41, 42, 43, 44, 45, 46, 47, 48, 49, 50, 51, 52, 53, 54, 55, 56, 57, 58, 59, 60, 61, 62, 63, 64, 65, 66, 67, 68] (by decide +kernel) (by decide +kernel)
set_option maxRecDepth 20000 in
theorem gX8_copy_X8_opens : GoodIn wsX8_copy (wsV RX8 157 RX8 yX8_opens wsX8_opens) := goodIn_app (goodIn_of _ (by decide +kernel)) ggX8_copy_X8_opens
theorem dX8_copy_0 : decode cX8_copy 0 = .ok (.aload_n 0, 1) := by decide +kernel
theorem dX8_copy_1 : decode cX8_copy 1 = .ok (.iconst 0, 1) := by decide +kernel
theorem dX8_copy_2 : decode cX8_copy 2 = .ok (.putfield 101, 3) := by decide +kernel
theorem dX8_copy_5 : decode cX8_copy 5 = .ok (.aload_n 0, 1) := by decide +kernel
theorem dX8_copy_6 : decode cX8_copy 6 = .ok (.iload_n 1, 1) := by decide +kernel
theorem dX8_copy_7 : decode cX8_copy 7 = .ok (.invokevirtual 190, 3) := by decide +kernel
theorem dX8_copy_10 : decode cX8_copy 10 = .ok (.ifCond .eq 10, 3) := by decide +kernel
theorem dX8_copy_13 : decode cX8_copy 13 = .ok (.iload_n 2, 1) := by decide +kernel
theorem dX8_copy_14 : decode cX8_copy 14 = .ok (.invokestatic 149, 3) := by decide +kernel
theorem dX8_copy_17 : decode cX8_copy 17 = .ok (.ifCond .ne 9, 3) := by decide +kernel
theorem dX8_copy_20 : decode cX8_copy 20 = .ok (.aload_n 0, 1) := by decide +kernel
theorem dX8_copy_21 : decode cX8_copy 21 = .ok (.iconst 1, 1) := by decide +kernel
theorem dX8_copy_22 : decode cX8_copy 22 = .ok (.invokevirtual 153, 3) := by decide +kernel
theorem dX8_copy_25 : decode cX8_copy 25 = .ok (.ireturn, 1) := by decide +kernel
theorem dX8_copy_26 : decode cX8_copy 26 = .ok (.aload_n 0, 1) := by decide +kernel
theorem dX8_copy_27 : decode cX8_copy 27 = .ok (.getfield 55, 3) := by decide +kernel
theorem dX8_copy_30 : decode cX8_copy 30 = .ok (.iload_n 1, 1) := by decide +kernel
theorem dX8_copy_31 : decode cX8_copy 31 = .ok (.iaload, 1) := by decide +kernel
theorem dX8_copy_32 : decode cX8_copy 32 = .ok (.iconst (-1), 1) := by decide +kernel
theorem dX8_copy_33 : decode cX8_copy 33 = .ok (.if_icmp .eq 12, 3) := by decide +kernel
theorem dX8_copy_36 : decode cX8_copy 36 = .ok (.aload_n 0, 1) := by decide +kernel
theorem dX8_copy_37 : decode cX8_copy 37 = .ok (.getfield 109, 3) := by decide +kernel
theorem dX8_copy_40 : decode cX8_copy 40 = .ok (.bipush 12, 2) := by decide +kernel
theorem dX8_copy_42 : decode cX8_copy 42 = .ok (.if_icmp .ne 9, 3) := by decide +kernel
theorem dX8_copy_45 : decode cX8_copy 45 = .ok (.aload_n 0, 1) := by decide +kernel
theorem dX8_copy_46 : decode cX8_copy 46 = .ok (.iconst 2, 1) := by decide +kernel
theorem dX8_copy_47 : decode cX8_copy 47 = .ok (.invokevirtual 153, 3) := by decide +kernel
theorem dX8_copy_50 : decode cX8_copy 50 = .ok (.ireturn, 1) := by decide +kernel
theorem dX8_copy_51 : decode cX8_copy 51 = .ok (.iconst 0, 1) := by decide +kernel
theorem dX8_copy_52 : decode cX8_copy 52 = .ok (.istore_n 3, 1) := by decide +kernel
theorem dX8_copy_53 : decode cX8_copy 53 = .ok (.iload_n 3, 1) := by decide +kernel
theorem dX8_copy_54 : decode cX8_copy 54 = .ok (.bipush 96, 2) := by decide +kernel
theorem dX8_copy_56 : decode cX8_copy 56 = .ok (.if_icmp .ge 34, 3) := by decide +kernel
theorem dX8_copy_59 : decode cX8_copy 59 = .ok (.aload_n 0, 1) := by decide +kernel
theorem dX8_copy_60 : decode cX8_copy 60 = .ok (.getfield 16, 3) := by decide +kernel
theorem dX8_copy_63 : decode cX8_copy 63 = .ok (.bipush 96, 2) := by decide +kernel
theorem dX8_copy_65 : decode cX8_copy 65 = .ok (.aload_n 0, 1) := by decide +kernel
theorem dX8_copy_66 : decode cX8_copy 66 = .ok (.getfield 109, 3) := by decide +kernel
theorem dX8_copy_69 : decode cX8_copy 69 = .ok (.imul, 1) := by decide +kernel
theorem dX8_copy_70 : decode cX8_copy 70 = .ok (.iload_n 3, 1) := by decide +kernel
theorem dX8_copy_71 : decode cX8_copy 71 = .ok (.iadd, 1) := by decide +kernel
theorem dX8_copy_72 : decode cX8_copy 72 = .ok (.aload_n 0, 1) := by decide +kernel
theorem dX8_copy_73 : decode cX8_copy 73 = .ok (.getfield 49, 3) := by decide +kernel
theorem dX8_copy_76 : decode cX8_copy 76 = .ok (.bipush 96, 2) := by decide +kernel
theorem dX8_copy_78 : decode cX8_copy 78 = .ok (.iload_n 1, 1) := by decide +kernel
theorem dX8_copy_79 : decode cX8_copy 79 = .ok (.imul, 1) := by decide +kernel
theorem dX8_copy_80 : decode cX8_copy 80 = .ok (.iload_n 3, 1) := by decide +kernel
theorem dX8_copy_81 : decode cX8_copy 81 = .ok (.iadd, 1) := by decide +kernel
theorem dX8_copy_82 : decode cX8_copy 82 = .ok (.iaload, 1) := by decide +kernel
theorem dX8_copy_83 : decode cX8_copy 83 = .ok (.iastore, 1) := by decide +kernel
theorem dX8_copy_84 : decode cX8_copy 84 = .ok (.iinc 3 1, 3) := by decide +kernel
theorem dX8_copy_87 : decode cX8_copy 87 = .ok (.goto (-34), 3) := by decide +kernel
theorem dX8_copy_90 : decode cX8_copy 90 = .ok (.aload_n 0, 1) := by decide +kernel
theorem dX8_copy_91 : decode cX8_copy 91 = .ok (.iload_n 2, 1) := by decide +kernel
theorem dX8_copy_92 : decode cX8_copy 92 = .ok (.aload_n 0, 1) := by decide +kernel
theorem dX8_copy_93 : decode cX8_copy 93 = .ok (.getfield 52, 3) := by decide +kernel
theorem dX8_copy_96 : decode cX8_copy 96 = .ok (.iload_n 1, 1) := by decide +kernel
theorem dX8_copy_97 : decode cX8_copy 97 = .ok (.iaload, 1) := by decide +kernel
theorem dX8_copy_98 : decode cX8_copy 98 = .ok (.iload_n 1, 1) := by decide +kernel
theorem dX8_copy_99 : decode cX8_copy 99 = .ok (.invokevirtual 157, 3) := by decide +kernel
theorem dX8_copy_102 : decode cX8_copy 102 = .ok (.ireturn, 1) := by decide +kernel
set_option maxRecDepth 20000 in
theorem ggX8_star_X8_isWork : GoodIn wsX8_star wsX8_isWork := goodIn_r _ [9, 10, 11, 12, 8, 13, 21, 22, 23, 24, 25, 26, 27, 28, 29, 30, 31, 32, 33, 34, 35, 36, 37, 38, 39, 40, 41, 42, 43, 44, 45, 46, 47, 48, 49, 50, 51, 52, 53, 54, 55, 56, 57, 58] (by decide +kernel) (by decide +kernel)
set_option maxRecDepth 20000 in
theorem gX8_star_X8_isWork : GoodIn wsX8_star (wsV RX8 190 RX8 yX8_isWork wsX8_isWork) := goodIn_app (goodIn_of _ (by decide +kernel)) ggX8_star_X8_isWork
set_option maxRecDepth 20000 in
theorem ggX8_star_X8_isPerson : GoodIn wsX8_star wsX8_isPerson := goodIn_r _ [16, 11, 12, 8, 13] (by decide +kernel) (by decide +kernel)
set_option maxRecDepth 20000 in
theorem gX8_star_X8_isPerson : GoodIn wsX8_star (va_wsS RX8 149 yX8_isPerson wsX8_isPerson) := goodIn_app (goodIn_of _ (by decide +kernel)) ggX8_star_X8_isPerson
set_option maxRecDepth 20000 in
theorem ggX8_star_X8_fails : GoodIn wsX8_star wsX8_fails := goodIn_r _ [20, 1, 21, 22, 23, 24, 25, 26, 27, 28, 29, 30, 31, 32, 33, 34, 35, 36, 37, 38, 39, 40, 41, 42, 43, 44, 45, 46, 47, 48, 49, 50, 51, 52, 53, 54, 55, 56, 57, 58] (by decide +kernel) (by decide +kernel)
set_option maxRecDepth 20000 in
theorem gX8_star_X8_fails : GoodIn wsX8_star (wsV RX8 153 RX8 yX8_fails wsX8_fails) := goodIn_app (goodIn_of _ (by decide +kernel)) ggX8_star_X8_fails
set_option maxRecDepth 20000 in
theorem ggX8_star_X8_in : GoodIn wsX8_star wsX8_in := goodIn_r _ [13] (by decide +kernel) (by decide +kernel)
set_option maxRecDepth 20000 in
theorem gX8_star_X8_in : GoodIn wsX8_star (va_wsS RX8 105 yX8_in wsX8_in) := goodIn_app (goodIn_of _ (by decide +kernel)) ggX8_star_X8_in
theorem dX8_star_0 : decode cX8_star 0 = .ok (.aload_n 0, 1) := by decide +kernel
theorem dX8_star_1 : decode cX8_star 1 = .ok (.iconst 0, 1) := by decide +kernel
theorem dX8_star_2 : decode cX8_star 2 = .ok (.putfield 101, 3) := by decide +kernel
theorem dX8_star_5 : decode cX8_star 5 = .ok (.aload_n 0, 1) := by decide +kernel
theorem dX8_star_6 : decode cX8_star 6 = .ok (.iload_n 1, 1) := by decide +kernel
theorem dX8_star_7 : decode cX8_star 7 = .ok (.invokevirtual 190, 3) := by decide +kernel
theorem dX8_star_10 : decode cX8_star 10 = .ok (.ifCond .eq 10, 3) := by decide +kernel
theorem dX8_star_13 : decode cX8_star 13 = .ok (.iload_n 2, 1) := by decide +kernel
theorem dX8_star_14 : decode cX8_star 14 = .ok (.invokestatic 149, 3) := by decide +kernel
theorem dX8_star_17 : decode cX8_star 17 = .ok (.ifCond .ne 9, 3) := by decide +kernel
theorem dX8_star_20 : decode cX8_star 20 = .ok (.aload_n 0, 1) := by decide +kernel
theorem dX8_star_21 : decode cX8_star 21 = .ok (.iconst 1, 1) := by decide +kernel
theorem dX8_star_22 : decode cX8_star 22 = .ok (.invokevirtual 153, 3) := by decide +kernel
theorem dX8_star_25 : decode cX8_star 25 = .ok (.ireturn, 1) := by decide +kernel
theorem dX8_star_26 : decode cX8_star 26 = .ok (.iload_n 3, 1) := by decide +kernel
theorem dX8_star_27 : decode cX8_star 27 = .ok (.iconst 1, 1) := by decide +kernel
theorem dX8_star_28 : decode cX8_star 28 = .ok (.iconst 5, 1) := by decide +kernel
theorem dX8_star_29 : decode cX8_star 29 = .ok (.invokestatic 105, 3) := by decide +kernel
theorem dX8_star_32 : decode cX8_star 32 = .ok (.ifCond .ne 9, 3) := by decide +kernel
theorem dX8_star_35 : decode cX8_star 35 = .ok (.aload_n 0, 1) := by decide +kernel
theorem dX8_star_36 : decode cX8_star 36 = .ok (.iconst 2, 1) := by decide +kernel
theorem dX8_star_37 : decode cX8_star 37 = .ok (.invokevirtual 153, 3) := by decide +kernel
theorem dX8_star_40 : decode cX8_star 40 = .ok (.ireturn, 1) := by decide +kernel
theorem dX8_star_41 : decode cX8_star 41 = .ok (.aload_n 0, 1) := by decide +kernel
theorem dX8_star_42 : decode cX8_star 42 = .ok (.getfield 55, 3) := by decide +kernel
theorem dX8_star_45 : decode cX8_star 45 = .ok (.iload_n 1, 1) := by decide +kernel
theorem dX8_star_46 : decode cX8_star 46 = .ok (.iaload, 1) := by decide +kernel
theorem dX8_star_47 : decode cX8_star 47 = .ok (.iconst (-1), 1) := by decide +kernel
theorem dX8_star_48 : decode cX8_star 48 = .ok (.if_icmp .eq 13, 3) := by decide +kernel
theorem dX8_star_51 : decode cX8_star 51 = .ok (.aload_n 0, 1) := by decide +kernel
theorem dX8_star_52 : decode cX8_star 52 = .ok (.getfield 46, 3) := by decide +kernel
theorem dX8_star_55 : decode cX8_star 55 = .ok (.iload_n 1, 1) := by decide +kernel
theorem dX8_star_56 : decode cX8_star 56 = .ok (.iaload, 1) := by decide +kernel
theorem dX8_star_57 : decode cX8_star 57 = .ok (.iload_n 2, 1) := by decide +kernel
theorem dX8_star_58 : decode cX8_star 58 = .ok (.if_icmp .ne 9, 3) := by decide +kernel
theorem dX8_star_61 : decode cX8_star 61 = .ok (.aload_n 0, 1) := by decide +kernel
theorem dX8_star_62 : decode cX8_star 62 = .ok (.iconst 3, 1) := by decide +kernel
theorem dX8_star_63 : decode cX8_star 63 = .ok (.invokevirtual 153, 3) := by decide +kernel
theorem dX8_star_66 : decode cX8_star 66 = .ok (.ireturn, 1) := by decide +kernel
theorem dX8_star_67 : decode cX8_star 67 = .ok (.aload_n 0, 1) := by decide +kernel
theorem dX8_star_68 : decode cX8_star 68 = .ok (.getfield 64, 3) := by decide +kernel
theorem dX8_star_71 : decode cX8_star 71 = .ok (.bipush 6, 2) := by decide +kernel
theorem dX8_star_73 : decode cX8_star 73 = .ok (.iload_n 1, 1) := by decide +kernel
theorem dX8_star_74 : decode cX8_star 74 = .ok (.imul, 1) := by decide +kernel
theorem dX8_star_75 : decode cX8_star 75 = .ok (.iload_n 2, 1) := by decide +kernel
theorem dX8_star_76 : decode cX8_star 76 = .ok (.iadd, 1) := by decide +kernel
theorem dX8_star_77 : decode cX8_star 77 = .ok (.iaload, 1) := by decide +kernel
theorem dX8_star_78 : decode cX8_star 78 = .ok (.istore 4, 2) := by decide +kernel
theorem dX8_star_80 : decode cX8_star 80 = .ok (.aload_n 0, 1) := by decide +kernel
theorem dX8_star_81 : decode cX8_star 81 = .ok (.getfield 64, 3) := by decide +kernel
theorem dX8_star_84 : decode cX8_star 84 = .ok (.bipush 6, 2) := by decide +kernel
theorem dX8_star_86 : decode cX8_star 86 = .ok (.iload_n 1, 1) := by decide +kernel
theorem dX8_star_87 : decode cX8_star 87 = .ok (.imul, 1) := by decide +kernel
theorem dX8_star_88 : decode cX8_star 88 = .ok (.iload_n 2, 1) := by decide +kernel
theorem dX8_star_89 : decode cX8_star 89 = .ok (.iadd, 1) := by decide +kernel
theorem dX8_star_90 : decode cX8_star 90 = .ok (.iload_n 3, 1) := by decide +kernel
theorem dX8_star_91 : decode cX8_star 91 = .ok (.iastore, 1) := by decide +kernel
theorem dX8_star_92 : decode cX8_star 92 = .ok (.iload 4, 2) := by decide +kernel
theorem dX8_star_94 : decode cX8_star 94 = .ok (.ireturn, 1) := by decide +kernel
theorem dX8_keeps_0 : decode cX8_keeps 0 = .ok (.aload_n 0, 1) := by decide +kernel
theorem dX8_keeps_1 : decode cX8_keeps 1 = .ok (.getfield 73, 3) := by decide +kernel
theorem dX8_keeps_4 : decode cX8_keeps 4 = .ok (.iload_n 1, 1) := by decide +kernel
theorem dX8_keeps_5 : decode cX8_keeps 5 = .ok (.aload_n 0, 1) := by decide +kernel
theorem dX8_keeps_6 : decode cX8_keeps 6 = .ok (.getfield 124, 3) := by decide +kernel
theorem dX8_keeps_9 : decode cX8_keeps 9 = .ok (.iastore, 1) := by decide +kernel
theorem dX8_keeps_10 : decode cX8_keeps 10 = .ok (.aload_n 0, 1) := by decide +kernel
theorem dX8_keeps_11 : decode cX8_keeps 11 = .ok (.getfield 76, 3) := by decide +kernel
theorem dX8_keeps_14 : decode cX8_keeps 14 = .ok (.iload_n 1, 1) := by decide +kernel
theorem dX8_keeps_15 : decode cX8_keeps 15 = .ok (.aload_n 0, 1) := by decide +kernel
theorem dX8_keeps_16 : decode cX8_keeps 16 = .ok (.getfield 127, 3) := by decide +kernel
theorem dX8_keeps_19 : decode cX8_keeps 19 = .ok (.iastore, 1) := by decide +kernel
theorem dX8_keeps_20 : decode cX8_keeps 20 = .ok (.aload_n 0, 1) := by decide +kernel
theorem dX8_keeps_21 : decode cX8_keeps 21 = .ok (.getfield 79, 3) := by decide +kernel
theorem dX8_keeps_24 : decode cX8_keeps 24 = .ok (.iload_n 1, 1) := by decide +kernel
theorem dX8_keeps_25 : decode cX8_keeps 25 = .ok (.aload_n 0, 1) := by decide +kernel
theorem dX8_keeps_26 : decode cX8_keeps 26 = .ok (.getfield 118, 3) := by decide +kernel
theorem dX8_keeps_29 : decode cX8_keeps 29 = .ok (.iastore, 1) := by decide +kernel
theorem dX8_keeps_30 : decode cX8_keeps 30 = .ok (.aload_n 0, 1) := by decide +kernel
theorem dX8_keeps_31 : decode cX8_keeps 31 = .ok (.getfield 67, 3) := by decide +kernel
theorem dX8_keeps_34 : decode cX8_keeps 34 = .ok (.iload_n 1, 1) := by decide +kernel
theorem dX8_keeps_35 : decode cX8_keeps 35 = .ok (.aload_n 0, 1) := by decide +kernel
theorem dX8_keeps_36 : decode cX8_keeps 36 = .ok (.getfield 121, 3) := by decide +kernel
theorem dX8_keeps_39 : decode cX8_keeps 39 = .ok (.iastore, 1) := by decide +kernel
theorem dX8_keeps_40 : decode cX8_keeps 40 = .ok (.aload_n 0, 1) := by decide +kernel
theorem dX8_keeps_41 : decode cX8_keeps 41 = .ok (.getfield 70, 3) := by decide +kernel
theorem dX8_keeps_44 : decode cX8_keeps 44 = .ok (.iload_n 1, 1) := by decide +kernel
theorem dX8_keeps_45 : decode cX8_keeps 45 = .ok (.iaload, 1) := by decide +kernel
theorem dX8_keeps_46 : decode cX8_keeps 46 = .ok (.istore_n 2, 1) := by decide +kernel
theorem dX8_keeps_47 : decode cX8_keeps 47 = .ok (.aload_n 0, 1) := by decide +kernel
theorem dX8_keeps_48 : decode cX8_keeps 48 = .ok (.getfield 121, 3) := by decide +kernel
theorem dX8_keeps_51 : decode cX8_keeps 51 = .ok (.iconst 2, 1) := by decide +kernel
theorem dX8_keeps_52 : decode cX8_keeps 52 = .ok (.if_icmp .ne 40, 3) := by decide +kernel
theorem dX8_keeps_55 : decode cX8_keeps 55 = .ok (.aload_n 0, 1) := by decide +kernel
theorem dX8_keeps_56 : decode cX8_keeps 56 = .ok (.getfield 61, 3) := by decide +kernel
theorem dX8_keeps_59 : decode cX8_keeps 59 = .ok (.iload_n 2, 1) := by decide +kernel
theorem dX8_keeps_60 : decode cX8_keeps 60 = .ok (.iaload, 1) := by decide +kernel
theorem dX8_keeps_61 : decode cX8_keeps 61 = .ok (.iconst (-1), 1) := by decide +kernel
theorem dX8_keeps_62 : decode cX8_keeps 62 = .ok (.if_icmp .eq 18, 3) := by decide +kernel
theorem dX8_keeps_65 : decode cX8_keeps 65 = .ok (.aload_n 0, 1) := by decide +kernel
theorem dX8_keeps_66 : decode cX8_keeps 66 = .ok (.getfield 82, 3) := by decide +kernel
theorem dX8_keeps_69 : decode cX8_keeps 69 = .ok (.iload_n 1, 1) := by decide +kernel
theorem dX8_keeps_70 : decode cX8_keeps 70 = .ok (.iaload, 1) := by decide +kernel
theorem dX8_keeps_71 : decode cX8_keeps 71 = .ok (.aload_n 0, 1) := by decide +kernel
theorem dX8_keeps_72 : decode cX8_keeps 72 = .ok (.getfield 61, 3) := by decide +kernel
theorem dX8_keeps_75 : decode cX8_keeps 75 = .ok (.iload_n 2, 1) := by decide +kernel
theorem dX8_keeps_76 : decode cX8_keeps 76 = .ok (.iaload, 1) := by decide +kernel
theorem dX8_keeps_77 : decode cX8_keeps 77 = .ok (.if_icmp .ge 15, 3) := by decide +kernel
theorem dX8_keeps_80 : decode cX8_keeps 80 = .ok (.aload_n 0, 1) := by decide +kernel
theorem dX8_keeps_81 : decode cX8_keeps 81 = .ok (.getfield 61, 3) := by decide +kernel
theorem dX8_keeps_84 : decode cX8_keeps 84 = .ok (.iload_n 2, 1) := by decide +kernel
theorem dX8_keeps_85 : decode cX8_keeps 85 = .ok (.aload_n 0, 1) := by decide +kernel
theorem dX8_keeps_86 : decode cX8_keeps 86 = .ok (.getfield 82, 3) := by decide +kernel
theorem dX8_keeps_89 : decode cX8_keeps 89 = .ok (.iload_n 1, 1) := by decide +kernel
theorem dX8_keeps_90 : decode cX8_keeps 90 = .ok (.iaload, 1) := by decide +kernel
theorem dX8_keeps_91 : decode cX8_keeps 91 = .ok (.iastore, 1) := by decide +kernel
theorem dX8_keeps_92 : decode cX8_keeps 92 = .ok (.aload_n 0, 1) := by decide +kernel
theorem dX8_keeps_93 : decode cX8_keeps 93 = .ok (.getfield 121, 3) := by decide +kernel
theorem dX8_keeps_96 : decode cX8_keeps 96 = .ok (.iconst 3, 1) := by decide +kernel
theorem dX8_keeps_97 : decode cX8_keeps 97 = .ok (.if_icmp .ne 7, 3) := by decide +kernel
theorem dX8_keeps_100 : decode cX8_keeps 100 = .ok (.iconst (-1), 1) := by decide +kernel
theorem dX8_keeps_101 : decode cX8_keeps 101 = .ok (.goto 20, 3) := by decide +kernel
theorem dX8_keeps_104 : decode cX8_keeps 104 = .ok (.aload_n 0, 1) := by decide +kernel
theorem dX8_keeps_105 : decode cX8_keeps 105 = .ok (.getfield 121, 3) := by decide +kernel
theorem dX8_keeps_108 : decode cX8_keeps 108 = .ok (.iconst 2, 1) := by decide +kernel
theorem dX8_keeps_109 : decode cX8_keeps 109 = .ok (.if_icmp .ne 8, 3) := by decide +kernel
theorem dX8_keeps_112 : decode cX8_keeps 112 = .ok (.bipush (-2), 2) := by decide +kernel
theorem dX8_keeps_114 : decode cX8_keeps 114 = .ok (.goto 7, 3) := by decide +kernel
theorem dX8_keeps_117 : decode cX8_keeps 117 = .ok (.aload_n 0, 1) := by decide +kernel
theorem dX8_keeps_118 : decode cX8_keeps 118 = .ok (.getfield 124, 3) := by decide +kernel
theorem dX8_keeps_121 : decode cX8_keeps 121 = .ok (.ireturn, 1) := by decide +kernel
set_option maxRecDepth 20000 in
theorem ggX8_run_X8_isPerson : GoodIn wsX8_run wsX8_isPerson := goodIn_r _ [9, 10, 11, 8, 12] (by decide +kernel) (by decide +kernel)
set_option maxRecDepth 20000 in
theorem gX8_run_X8_isPerson : GoodIn wsX8_run (va_wsS RX8 149 yX8_isPerson wsX8_isPerson) := goodIn_app (goodIn_of _ (by decide +kernel)) ggX8_run_X8_isPerson
set_option maxRecDepth 20000 in
theorem ggX8_run_X8_isWork : GoodIn wsX8_run wsX8_isWork := goodIn_r _ [16, 17, 10, 11, 8, 12, 52, 53, 54, 55, 56, 57, 58, 59, 60, 61, 62, 63, 64, 65, 66, 67, 68, 69, 70, 71, 72, 73, 74, 75, 76, 77, 78, 79, 80, 81, 82, 83, 84, 85, 86, 87, 88, 89] (by decide +kernel) (by decide +kernel)
set_option maxRecDepth 20000 in
theorem gX8_run_X8_isWork : GoodIn wsX8_run (wsV RX8 190 RX8 yX8_isWork wsX8_isWork) := goodIn_app (goodIn_of _ (by decide +kernel)) ggX8_run_X8_isWork
set_option maxRecDepth 20000 in
theorem ggX8_run_X8_fails : GoodIn wsX8_run wsX8_fails := goodIn_r _ [21, 1, 52, 53, 54, 55, 56, 57, 58, 59, 60, 61, 62, 63, 64, 65, 66, 67, 68, 69, 70, 71, 72, 73, 74, 75, 76, 77, 78, 79, 80, 81, 82, 83, 84, 85, 86, 87, 88, 89] (by decide +kernel) (by decide +kernel)
set_option maxRecDepth 20000 in
theorem gX8_run_X8_fails : GoodIn wsX8_run (wsV RX8 153 RX8 yX8_fails wsX8_fails) := goodIn_app (goodIn_of _ (by decide +kernel)) ggX8_run_X8_fails
set_option maxRecDepth 20000 in
theorem ggX8_run_X8_lays : GoodIn wsX8_run wsX8_lays := goodIn_r _ [25, 26, 27, 28, 29, 30, 52, 53, 54, 55, 56, 57, 58, 59, 60, 61, 62, 63, 64, 65, 66, 67, 68, 69, 70, 71, 72, 73, 74, 75, 76, 77, 78, 79, 80, 81, 82, 83, 84, 85, 86, 87, 88, 89] (by decide +kernel) (by decide +kernel)
set_option maxRecDepth 20000 in
theorem gX8_run_X8_lays : GoodIn wsX8_run (wsV RX8 174 RX8 yX8_lays wsX8_lays) := goodIn_app (goodIn_of _ (by decide +kernel)) ggX8_run_X8_lays
set_option maxRecDepth 20000 in
theorem ggX8_run_X8_starts : GoodIn wsX8_run wsX8_starts := goodIn_r _ [34, 35, 36, 37, 38, 39, 8, 40, 41, 42, 30, 27, 52, 53, 54, 55, 56, 57, 58, 59, 60, 61, 62, 63, 64, 65, 66, 67, 68, 69, 70, 71, 72, 73, 74, 75, 76, 77, 78, 79, 80, 81, 82, 83, 84, 85, 86, 87, 88, 89] (by decide +kernel) (by decide +kernel)
set_option maxRecDepth 20000 in
theorem gX8_run_X8_starts : GoodIn wsX8_run (wsV RX8 138 RX8 yX8_starts wsX8_starts) := goodIn_app (goodIn_of _ (by decide +kernel)) ggX8_run_X8_starts
set_option maxRecDepth 20000 in
theorem ggX8_run_X8_keeps : GoodIn wsX8_run wsX8_keeps := goodIn_r _ [46, 47, 42, 48, 35, 49, 36, 50, 41, 3, 51, 4, 52, 53, 54, 55, 56, 57, 58, 59, 60, 61, 62, 63, 64, 65, 66, 67, 68, 69, 70, 71, 72, 73, 74, 75, 76, 77, 78, 79, 80, 81, 82, 83, 84, 85, 86, 87, 88, 89] (by decide +kernel) (by decide +kernel)
set_option maxRecDepth 20000 in
theorem gX8_run_X8_keeps : GoodIn wsX8_run (wsV RX8 193 RX8 yX8_keeps wsX8_keeps) := goodIn_app (goodIn_of _ (by decide +kernel)) ggX8_run_X8_keeps
theorem dX8_run_0 : decode cX8_run 0 = .ok (.aload_n 0, 1) := by decide +kernel
theorem dX8_run_1 : decode cX8_run 1 = .ok (.iconst 0, 1) := by decide +kernel
theorem dX8_run_2 : decode cX8_run 2 = .ok (.putfield 101, 3) := by decide +kernel
theorem dX8_run_5 : decode cX8_run 5 = .ok (.iload_n 1, 1) := by decide +kernel
theorem dX8_run_6 : decode cX8_run 6 = .ok (.invokestatic 149, 3) := by decide +kernel
theorem dX8_run_9 : decode cX8_run 9 = .ok (.ifCond .eq 11, 3) := by decide +kernel
theorem dX8_run_12 : decode cX8_run 12 = .ok (.aload_n 0, 1) := by decide +kernel
theorem dX8_run_13 : decode cX8_run 13 = .ok (.iload_n 2, 1) := by decide +kernel
theorem dX8_run_14 : decode cX8_run 14 = .ok (.invokevirtual 190, 3) := by decide +kernel
theorem dX8_run_17 : decode cX8_run 17 = .ok (.ifCond .ne 9, 3) := by decide +kernel
theorem dX8_run_20 : decode cX8_run 20 = .ok (.aload_n 0, 1) := by decide +kernel
theorem dX8_run_21 : decode cX8_run 21 = .ok (.iconst 1, 1) := by decide +kernel
theorem dX8_run_22 : decode cX8_run 22 = .ok (.invokevirtual 153, 3) := by decide +kernel
theorem dX8_run_25 : decode cX8_run 25 = .ok (.ireturn, 1) := by decide +kernel
theorem dX8_run_26 : decode cX8_run 26 = .ok (.aload_n 0, 1) := by decide +kernel
theorem dX8_run_27 : decode cX8_run 27 = .ok (.getfield 55, 3) := by decide +kernel
theorem dX8_run_30 : decode cX8_run 30 = .ok (.iload_n 2, 1) := by decide +kernel
theorem dX8_run_31 : decode cX8_run 31 = .ok (.iaload, 1) := by decide +kernel
theorem dX8_run_32 : decode cX8_run 32 = .ok (.iconst (-1), 1) := by decide +kernel
theorem dX8_run_33 : decode cX8_run 33 = .ok (.if_icmp .ne 9, 3) := by decide +kernel
theorem dX8_run_36 : decode cX8_run 36 = .ok (.aload_n 0, 1) := by decide +kernel
theorem dX8_run_37 : decode cX8_run 37 = .ok (.iconst 2, 1) := by decide +kernel
theorem dX8_run_38 : decode cX8_run 38 = .ok (.invokevirtual 153, 3) := by decide +kernel
theorem dX8_run_41 : decode cX8_run 41 = .ok (.ireturn, 1) := by decide +kernel
theorem dX8_run_42 : decode cX8_run 42 = .ok (.aload_n 0, 1) := by decide +kernel
theorem dX8_run_43 : decode cX8_run 43 = .ok (.getfield 70, 3) := by decide +kernel
theorem dX8_run_46 : decode cX8_run 46 = .ok (.iload_n 1, 1) := by decide +kernel
theorem dX8_run_47 : decode cX8_run 47 = .ok (.iload_n 2, 1) := by decide +kernel
theorem dX8_run_48 : decode cX8_run 48 = .ok (.iastore, 1) := by decide +kernel
theorem dX8_run_49 : decode cX8_run 49 = .ok (.aload_n 0, 1) := by decide +kernel
theorem dX8_run_50 : decode cX8_run 50 = .ok (.getfield 82, 3) := by decide +kernel
theorem dX8_run_53 : decode cX8_run 53 = .ok (.iload_n 1, 1) := by decide +kernel
theorem dX8_run_54 : decode cX8_run 54 = .ok (.iconst 0, 1) := by decide +kernel
theorem dX8_run_55 : decode cX8_run 55 = .ok (.iastore, 1) := by decide +kernel
theorem dX8_run_56 : decode cX8_run 56 = .ok (.aload_n 0, 1) := by decide +kernel
theorem dX8_run_57 : decode cX8_run 57 = .ok (.iconst 1, 1) := by decide +kernel
theorem dX8_run_58 : decode cX8_run 58 = .ok (.iload_n 2, 1) := by decide +kernel
theorem dX8_run_59 : decode cX8_run 59 = .ok (.invokevirtual 174, 3) := by decide +kernel
theorem dX8_run_62 : decode cX8_run 62 = .ok (.aload_n 0, 1) := by decide +kernel
theorem dX8_run_63 : decode cX8_run 63 = .ok (.aload_n 0, 1) := by decide +kernel
theorem dX8_run_64 : decode cX8_run 64 = .ok (.getfield 52, 3) := by decide +kernel
theorem dX8_run_67 : decode cX8_run 67 = .ok (.iload_n 2, 1) := by decide +kernel
theorem dX8_run_68 : decode cX8_run 68 = .ok (.iaload, 1) := by decide +kernel
theorem dX8_run_69 : decode cX8_run 69 = .ok (.invokevirtual 138, 3) := by decide +kernel
theorem dX8_run_72 : decode cX8_run 72 = .ok (.aload_n 0, 1) := by decide +kernel
theorem dX8_run_73 : decode cX8_run 73 = .ok (.iload_n 1, 1) := by decide +kernel
theorem dX8_run_74 : decode cX8_run 74 = .ok (.invokevirtual 193, 3) := by decide +kernel
theorem dX8_run_77 : decode cX8_run 77 = .ok (.ireturn, 1) := by decide +kernel
set_option maxRecDepth 20000 in
theorem ggX8_step_X8_isPerson : GoodIn wsX8_step wsX8_isPerson := goodIn_r _ [15, 16, 17, 14, 18] (by decide +kernel) (by decide +kernel)
set_option maxRecDepth 20000 in
theorem gX8_step_X8_isPerson : GoodIn wsX8_step (va_wsS RX8 149 yX8_isPerson wsX8_isPerson) := goodIn_app (goodIn_of _ (by decide +kernel)) ggX8_step_X8_isPerson
set_option maxRecDepth 20000 in
theorem ggX8_step_X8_fails : GoodIn wsX8_step wsX8_fails := goodIn_r _ [22, 1, 50, 51, 52, 53, 54, 55, 56, 57, 58, 59, 60, 61, 62, 63, 64, 65, 66, 67, 68, 69, 70, 71, 72, 73, 74, 75, 76, 77, 78, 79, 80, 81, 82, 83, 84, 85, 86, 87] (by decide +kernel) (by decide +kernel)
set_option maxRecDepth 20000 in
theorem gX8_step_X8_fails : GoodIn wsX8_step (wsV RX8 153 RX8 yX8_fails wsX8_fails) := goodIn_app (goodIn_of _ (by decide +kernel)) ggX8_step_X8_fails
set_option maxRecDepth 20000 in
theorem ggX8_step_X8_in : GoodIn wsX8_step wsX8_in := goodIn_r _ [18] (by decide +kernel) (by decide +kernel)
set_option maxRecDepth 20000 in
theorem gX8_step_X8_in : GoodIn wsX8_step (va_wsS RX8 105 yX8_in wsX8_in) := goodIn_app (goodIn_of _ (by decide +kernel)) ggX8_step_X8_in
set_option maxRecDepth 20000 in
theorem ggX8_step_X8_lays : GoodIn wsX8_step wsX8_lays := goodIn_r _ [26, 27, 28, 29, 30, 31, 50, 51, 52, 53, 54, 55, 56, 57, 58, 59, 60, 61, 62, 63, 64, 65, 66, 67, 68, 69, 70, 71, 72, 73, 74, 75, 76, 77, 78, 79, 80, 81, 82, 83, 84, 85, 86, 87] (by decide +kernel) (by decide +kernel)
set_option maxRecDepth 20000 in
theorem gX8_step_X8_lays : GoodIn wsX8_step (wsV RX8 174 RX8 yX8_lays wsX8_lays) := goodIn_app (goodIn_of _ (by decide +kernel)) ggX8_step_X8_lays
set_option maxRecDepth 20000 in
theorem ggX8_step_X8_moves : GoodIn wsX8_step wsX8_moves := goodIn_r _ [35, 6, 8, 11, 28, 36, 37, 38, 39, 14, 40, 10, 27, 16, 17, 18, 41, 42, 43, 44, 31, 50, 51, 52, 53, 54, 55, 56, 57, 58, 59, 60, 61, 62, 63, 64, 65, 66, 67, 68, 69, 70, 71, 72, 73, 74, 75, 76, 77, 78, 79, 80, 81, 82, 83, 84, 85, 86, 87] (by decide +kernel) (by decide +kernel)
set_option maxRecDepth 20000 in
theorem gX8_step_X8_moves : GoodIn wsX8_step (wsV RX8 146 RX8 yX8_moves wsX8_moves) := goodIn_app (goodIn_of _ (by decide +kernel)) ggX8_step_X8_moves
set_option maxRecDepth 20000 in
theorem ggX8_step_X8_keeps : GoodIn wsX8_step wsX8_keeps := goodIn_r _ [48, 5, 6, 7, 8, 9, 10, 2, 11, 4, 49, 3, 50, 51, 52, 53, 54, 55, 56, 57, 58, 59, 60, 61, 62, 63, 64, 65, 66, 67, 68, 69, 70, 71, 72, 73, 74, 75, 76, 77, 78, 79, 80, 81, 82, 83, 84, 85, 86, 87] (by decide +kernel) (by decide +kernel)
set_option maxRecDepth 20000 in
theorem gX8_step_X8_keeps : GoodIn wsX8_step (wsV RX8 193 RX8 yX8_keeps wsX8_keeps) := goodIn_app (goodIn_of _ (by decide +kernel)) ggX8_step_X8_keeps
theorem dX8_step_0 : decode cX8_step 0 = .ok (.aload_n 0, 1) := by decide +kernel
theorem dX8_step_1 : decode cX8_step 1 = .ok (.iconst 0, 1) := by decide +kernel
theorem dX8_step_2 : decode cX8_step 2 = .ok (.putfield 101, 3) := by decide +kernel
theorem dX8_step_5 : decode cX8_step 5 = .ok (.iload_n 1, 1) := by decide +kernel
theorem dX8_step_6 : decode cX8_step 6 = .ok (.invokestatic 149, 3) := by decide +kernel
theorem dX8_step_9 : decode cX8_step 9 = .ok (.ifCond .ne 9, 3) := by decide +kernel
theorem dX8_step_12 : decode cX8_step 12 = .ok (.aload_n 0, 1) := by decide +kernel
theorem dX8_step_13 : decode cX8_step 13 = .ok (.iconst 1, 1) := by decide +kernel
theorem dX8_step_14 : decode cX8_step 14 = .ok (.invokevirtual 153, 3) := by decide +kernel
theorem dX8_step_17 : decode cX8_step 17 = .ok (.ireturn, 1) := by decide +kernel
theorem dX8_step_18 : decode cX8_step 18 = .ok (.iload_n 2, 1) := by decide +kernel
theorem dX8_step_19 : decode cX8_step 19 = .ok (.iconst 0, 1) := by decide +kernel
theorem dX8_step_20 : decode cX8_step 20 = .ok (.iconst 5, 1) := by decide +kernel
theorem dX8_step_21 : decode cX8_step 21 = .ok (.invokestatic 105, 3) := by decide +kernel
theorem dX8_step_24 : decode cX8_step 24 = .ok (.ifCond .ne 9, 3) := by decide +kernel
theorem dX8_step_27 : decode cX8_step 27 = .ok (.aload_n 0, 1) := by decide +kernel
theorem dX8_step_28 : decode cX8_step 28 = .ok (.iconst 2, 1) := by decide +kernel
theorem dX8_step_29 : decode cX8_step 29 = .ok (.invokevirtual 153, 3) := by decide +kernel
theorem dX8_step_32 : decode cX8_step 32 = .ok (.ireturn, 1) := by decide +kernel
theorem dX8_step_33 : decode cX8_step 33 = .ok (.aload_n 0, 1) := by decide +kernel
theorem dX8_step_34 : decode cX8_step 34 = .ok (.getfield 67, 3) := by decide +kernel
theorem dX8_step_37 : decode cX8_step 37 = .ok (.iload_n 1, 1) := by decide +kernel
theorem dX8_step_38 : decode cX8_step 38 = .ok (.iaload, 1) := by decide +kernel
theorem dX8_step_39 : decode cX8_step 39 = .ok (.iconst 1, 1) := by decide +kernel
theorem dX8_step_40 : decode cX8_step 40 = .ok (.if_icmp .ne 15, 3) := by decide +kernel
theorem dX8_step_43 : decode cX8_step 43 = .ok (.aload_n 0, 1) := by decide +kernel
theorem dX8_step_44 : decode cX8_step 44 = .ok (.getfield 82, 3) := by decide +kernel
theorem dX8_step_47 : decode cX8_step 47 = .ok (.iload_n 1, 1) := by decide +kernel
theorem dX8_step_48 : decode cX8_step 48 = .ok (.iaload, 1) := by decide +kernel
theorem dX8_step_49 : decode cX8_step 49 = .ok (.sipush 200, 3) := by decide +kernel
theorem dX8_step_52 : decode cX8_step 52 = .ok (.if_icmp .ne 9, 3) := by decide +kernel
theorem dX8_step_55 : decode cX8_step 55 = .ok (.aload_n 0, 1) := by decide +kernel
theorem dX8_step_56 : decode cX8_step 56 = .ok (.iconst 3, 1) := by decide +kernel
theorem dX8_step_57 : decode cX8_step 57 = .ok (.invokevirtual 153, 3) := by decide +kernel
theorem dX8_step_60 : decode cX8_step 60 = .ok (.ireturn, 1) := by decide +kernel
theorem dX8_step_61 : decode cX8_step 61 = .ok (.aload_n 0, 1) := by decide +kernel
theorem dX8_step_62 : decode cX8_step 62 = .ok (.iconst 1, 1) := by decide +kernel
theorem dX8_step_63 : decode cX8_step 63 = .ok (.aload_n 0, 1) := by decide +kernel
theorem dX8_step_64 : decode cX8_step 64 = .ok (.getfield 70, 3) := by decide +kernel
theorem dX8_step_67 : decode cX8_step 67 = .ok (.iload_n 1, 1) := by decide +kernel
theorem dX8_step_68 : decode cX8_step 68 = .ok (.iaload, 1) := by decide +kernel
theorem dX8_step_69 : decode cX8_step 69 = .ok (.invokevirtual 174, 3) := by decide +kernel
theorem dX8_step_72 : decode cX8_step 72 = .ok (.aload_n 0, 1) := by decide +kernel
theorem dX8_step_73 : decode cX8_step 73 = .ok (.aload_n 0, 1) := by decide +kernel
theorem dX8_step_74 : decode cX8_step 74 = .ok (.getfield 73, 3) := by decide +kernel
theorem dX8_step_77 : decode cX8_step 77 = .ok (.iload_n 1, 1) := by decide +kernel
theorem dX8_step_78 : decode cX8_step 78 = .ok (.iaload, 1) := by decide +kernel
theorem dX8_step_79 : decode cX8_step 79 = .ok (.putfield 124, 3) := by decide +kernel
theorem dX8_step_82 : decode cX8_step 82 = .ok (.aload_n 0, 1) := by decide +kernel
theorem dX8_step_83 : decode cX8_step 83 = .ok (.aload_n 0, 1) := by decide +kernel
theorem dX8_step_84 : decode cX8_step 84 = .ok (.getfield 76, 3) := by decide +kernel
theorem dX8_step_87 : decode cX8_step 87 = .ok (.iload_n 1, 1) := by decide +kernel
theorem dX8_step_88 : decode cX8_step 88 = .ok (.iaload, 1) := by decide +kernel
theorem dX8_step_89 : decode cX8_step 89 = .ok (.putfield 127, 3) := by decide +kernel
theorem dX8_step_92 : decode cX8_step 92 = .ok (.aload_n 0, 1) := by decide +kernel
theorem dX8_step_93 : decode cX8_step 93 = .ok (.aload_n 0, 1) := by decide +kernel
theorem dX8_step_94 : decode cX8_step 94 = .ok (.getfield 79, 3) := by decide +kernel
theorem dX8_step_97 : decode cX8_step 97 = .ok (.iload_n 1, 1) := by decide +kernel
theorem dX8_step_98 : decode cX8_step 98 = .ok (.iaload, 1) := by decide +kernel
theorem dX8_step_99 : decode cX8_step 99 = .ok (.putfield 118, 3) := by decide +kernel
theorem dX8_step_102 : decode cX8_step 102 = .ok (.aload_n 0, 1) := by decide +kernel
theorem dX8_step_103 : decode cX8_step 103 = .ok (.iconst 1, 1) := by decide +kernel
theorem dX8_step_104 : decode cX8_step 104 = .ok (.putfield 121, 3) := by decide +kernel
theorem dX8_step_107 : decode cX8_step 107 = .ok (.aload_n 0, 1) := by decide +kernel
theorem dX8_step_108 : decode cX8_step 108 = .ok (.iload_n 2, 1) := by decide +kernel
theorem dX8_step_109 : decode cX8_step 109 = .ok (.invokevirtual 146, 3) := by decide +kernel
theorem dX8_step_112 : decode cX8_step 112 = .ok (.aload_n 0, 1) := by decide +kernel
theorem dX8_step_113 : decode cX8_step 113 = .ok (.getfield 82, 3) := by decide +kernel
theorem dX8_step_116 : decode cX8_step 116 = .ok (.iload_n 1, 1) := by decide +kernel
theorem dX8_step_117 : decode cX8_step 117 = .ok (.dup2, 1) := by decide +kernel
theorem dX8_step_118 : decode cX8_step 118 = .ok (.iaload, 1) := by decide +kernel
theorem dX8_step_119 : decode cX8_step 119 = .ok (.iconst 1, 1) := by decide +kernel
theorem dX8_step_120 : decode cX8_step 120 = .ok (.iadd, 1) := by decide +kernel
theorem dX8_step_121 : decode cX8_step 121 = .ok (.iastore, 1) := by decide +kernel
theorem dX8_step_122 : decode cX8_step 122 = .ok (.aload_n 0, 1) := by decide +kernel
theorem dX8_step_123 : decode cX8_step 123 = .ok (.iload_n 1, 1) := by decide +kernel
theorem dX8_step_124 : decode cX8_step 124 = .ok (.invokevirtual 193, 3) := by decide +kernel
theorem dX8_step_127 : decode cX8_step 127 = .ok (.ireturn, 1) := by decide +kernel
theorem dX8_levels_0 : decode cX8_levels 0 = .ok (.aload_n 0, 1) := by decide +kernel
theorem dX8_levels_1 : decode cX8_levels 1 = .ok (.iconst 0, 1) := by decide +kernel
theorem dX8_levels_2 : decode cX8_levels 2 = .ok (.putfield 101, 3) := by decide +kernel
theorem dX8_levels_5 : decode cX8_levels 5 = .ok (.aload_n 0, 1) := by decide +kernel
theorem dX8_levels_6 : decode cX8_levels 6 = .ok (.getfield 109, 3) := by decide +kernel
theorem dX8_levels_9 : decode cX8_levels 9 = .ok (.ireturn, 1) := by decide +kernel
set_option maxRecDepth 20000 in
theorem ggX8_at_X8_isLevel : GoodIn wsX8_at wsX8_isLevel := goodIn_r _ [7, 8, 9, 10, 6, 11, 19, 20, 21, 22, 23, 24, 25, 26, 27, 28, 29, 30, 31, 32, 33, 34, 35, 36, 37, 38, 39, 40, 41, 42, 43, 44, 45, 46, 47, 48, 49, 50, 51, 52, 53, 54, 55, 56] (by decide +kernel) (by decide +kernel)
set_option maxRecDepth 20000 in
theorem gX8_at_X8_isLevel : GoodIn wsX8_at (wsV RX8 161 RX8 yX8_isLevel wsX8_isLevel) := goodIn_app (goodIn_of _ (by decide +kernel)) ggX8_at_X8_isLevel
set_option maxRecDepth 20000 in
theorem ggX8_at_X8_isCell : GoodIn wsX8_at wsX8_isCell := goodIn_r _ [14, 9, 10, 6, 11] (by decide +kernel) (by decide +kernel)
set_option maxRecDepth 20000 in
theorem gX8_at_X8_isCell : GoodIn wsX8_at (va_wsS RX8 164 yX8_isCell wsX8_isCell) := goodIn_app (goodIn_of _ (by decide +kernel)) ggX8_at_X8_isCell
set_option maxRecDepth 20000 in
theorem ggX8_at_X8_fails : GoodIn wsX8_at wsX8_fails := goodIn_r _ [18, 1, 19, 20, 21, 22, 23, 24, 25, 26, 27, 28, 29, 30, 31, 32, 33, 34, 35, 36, 37, 38, 39, 40, 41, 42, 43, 44, 45, 46, 47, 48, 49, 50, 51, 52, 53, 54, 55, 56] (by decide +kernel) (by decide +kernel)
set_option maxRecDepth 20000 in
theorem gX8_at_X8_fails : GoodIn wsX8_at (wsV RX8 153 RX8 yX8_fails wsX8_fails) := goodIn_app (goodIn_of _ (by decide +kernel)) ggX8_at_X8_fails
theorem dX8_at_0 : decode cX8_at 0 = .ok (.aload_n 0, 1) := by decide +kernel
theorem dX8_at_1 : decode cX8_at 1 = .ok (.iconst 0, 1) := by decide +kernel
theorem dX8_at_2 : decode cX8_at 2 = .ok (.putfield 101, 3) := by decide +kernel
theorem dX8_at_5 : decode cX8_at 5 = .ok (.aload_n 0, 1) := by decide +kernel
theorem dX8_at_6 : decode cX8_at 6 = .ok (.iload_n 1, 1) := by decide +kernel
theorem dX8_at_7 : decode cX8_at 7 = .ok (.invokevirtual 161, 3) := by decide +kernel
theorem dX8_at_10 : decode cX8_at 10 = .ok (.ifCond .eq 24, 3) := by decide +kernel
theorem dX8_at_13 : decode cX8_at 13 = .ok (.iload_n 2, 1) := by decide +kernel
theorem dX8_at_14 : decode cX8_at 14 = .ok (.invokestatic 164, 3) := by decide +kernel
theorem dX8_at_17 : decode cX8_at 17 = .ok (.ifCond .eq 17, 3) := by decide +kernel
theorem dX8_at_20 : decode cX8_at 20 = .ok (.aload_n 0, 1) := by decide +kernel
theorem dX8_at_21 : decode cX8_at 21 = .ok (.getfield 16, 3) := by decide +kernel
theorem dX8_at_24 : decode cX8_at 24 = .ok (.bipush 96, 2) := by decide +kernel
theorem dX8_at_26 : decode cX8_at 26 = .ok (.iload_n 1, 1) := by decide +kernel
theorem dX8_at_27 : decode cX8_at 27 = .ok (.imul, 1) := by decide +kernel
theorem dX8_at_28 : decode cX8_at 28 = .ok (.iload_n 2, 1) := by decide +kernel
theorem dX8_at_29 : decode cX8_at 29 = .ok (.iadd, 1) := by decide +kernel
theorem dX8_at_30 : decode cX8_at 30 = .ok (.iaload, 1) := by decide +kernel
theorem dX8_at_31 : decode cX8_at 31 = .ok (.goto 8, 3) := by decide +kernel
theorem dX8_at_34 : decode cX8_at 34 = .ok (.aload_n 0, 1) := by decide +kernel
theorem dX8_at_35 : decode cX8_at 35 = .ok (.iconst 1, 1) := by decide +kernel
theorem dX8_at_36 : decode cX8_at 36 = .ok (.invokevirtual 153, 3) := by decide +kernel
theorem dX8_at_39 : decode cX8_at 39 = .ok (.ireturn, 1) := by decide +kernel
set_option maxRecDepth 20000 in
theorem ggX8_start_X8_isLevel : GoodIn wsX8_start wsX8_isLevel := goodIn_r _ [7, 8, 9, 10, 6, 11, 16, 17, 18, 19, 20, 21, 22, 23, 24, 25, 26, 27, 28, 29, 30, 31, 32, 33, 34, 35, 36, 37, 38, 39, 40, 41, 42, 43, 44, 45, 46, 47, 48, 49, 50, 51, 52, 53] (by decide +kernel) (by decide +kernel)
set_option maxRecDepth 20000 in
theorem gX8_start_X8_isLevel : GoodIn wsX8_start (wsV RX8 161 RX8 yX8_isLevel wsX8_isLevel) := goodIn_app (goodIn_of _ (by decide +kernel)) ggX8_start_X8_isLevel
set_option maxRecDepth 20000 in
theorem ggX8_start_X8_fails : GoodIn wsX8_start wsX8_fails := goodIn_r _ [15, 1, 16, 17, 18, 19, 20, 21, 22, 23, 24, 25, 26, 27, 28, 29, 30, 31, 32, 33, 34, 35, 36, 37, 38, 39, 40, 41, 42, 43, 44, 45, 46, 47, 48, 49, 50, 51, 52, 53] (by decide +kernel) (by decide +kernel)
set_option maxRecDepth 20000 in
theorem gX8_start_X8_fails : GoodIn wsX8_start (wsV RX8 153 RX8 yX8_fails wsX8_fails) := goodIn_app (goodIn_of _ (by decide +kernel)) ggX8_start_X8_fails
theorem dX8_start_0 : decode cX8_start 0 = .ok (.aload_n 0, 1) := by decide +kernel
theorem dX8_start_1 : decode cX8_start 1 = .ok (.iconst 0, 1) := by decide +kernel
theorem dX8_start_2 : decode cX8_start 2 = .ok (.putfield 101, 3) := by decide +kernel
theorem dX8_start_5 : decode cX8_start 5 = .ok (.aload_n 0, 1) := by decide +kernel
theorem dX8_start_6 : decode cX8_start 6 = .ok (.iload_n 1, 1) := by decide +kernel
theorem dX8_start_7 : decode cX8_start 7 = .ok (.invokevirtual 161, 3) := by decide +kernel
theorem dX8_start_10 : decode cX8_start 10 = .ok (.ifCond .eq 12, 3) := by decide +kernel
theorem dX8_start_13 : decode cX8_start 13 = .ok (.aload_n 0, 1) := by decide +kernel
theorem dX8_start_14 : decode cX8_start 14 = .ok (.getfield 19, 3) := by decide +kernel
theorem dX8_start_17 : decode cX8_start 17 = .ok (.iload_n 1, 1) := by decide +kernel
theorem dX8_start_18 : decode cX8_start 18 = .ok (.iaload, 1) := by decide +kernel
theorem dX8_start_19 : decode cX8_start 19 = .ok (.goto 8, 3) := by decide +kernel
theorem dX8_start_22 : decode cX8_start 22 = .ok (.aload_n 0, 1) := by decide +kernel
theorem dX8_start_23 : decode cX8_start 23 = .ok (.iconst 1, 1) := by decide +kernel
theorem dX8_start_24 : decode cX8_start 24 = .ok (.invokevirtual 153, 3) := by decide +kernel
theorem dX8_start_27 : decode cX8_start 27 = .ok (.ireturn, 1) := by decide +kernel
set_option maxRecDepth 20000 in
theorem ggX8_edits_X8_isLevel : GoodIn wsX8_edits wsX8_isLevel := goodIn_r _ [8, 9, 10, 11, 7, 12, 17, 18, 19, 20, 21, 22, 23, 24, 25, 26, 27, 28, 29, 30, 31, 32, 33, 34, 35, 36, 37, 38, 39, 40, 41, 42, 43, 44, 45, 46, 47, 48, 49, 50, 51, 52, 53, 54] (by decide +kernel) (by decide +kernel)
set_option maxRecDepth 20000 in
theorem gX8_edits_X8_isLevel : GoodIn wsX8_edits (wsV RX8 161 RX8 yX8_isLevel wsX8_isLevel) := goodIn_app (goodIn_of _ (by decide +kernel)) ggX8_edits_X8_isLevel
set_option maxRecDepth 20000 in
theorem ggX8_edits_X8_fails : GoodIn wsX8_edits wsX8_fails := goodIn_r _ [16, 1, 17, 18, 19, 20, 21, 22, 23, 24, 25, 26, 27, 28, 29, 30, 31, 32, 33, 34, 35, 36, 37, 38, 39, 40, 41, 42, 43, 44, 45, 46, 47, 48, 49, 50, 51, 52, 53, 54] (by decide +kernel) (by decide +kernel)
set_option maxRecDepth 20000 in
theorem gX8_edits_X8_fails : GoodIn wsX8_edits (wsV RX8 153 RX8 yX8_fails wsX8_fails) := goodIn_app (goodIn_of _ (by decide +kernel)) ggX8_edits_X8_fails
theorem dX8_edits_0 : decode cX8_edits 0 = .ok (.aload_n 0, 1) := by decide +kernel
theorem dX8_edits_1 : decode cX8_edits 1 = .ok (.iconst 0, 1) := by decide +kernel
theorem dX8_edits_2 : decode cX8_edits 2 = .ok (.putfield 101, 3) := by decide +kernel
theorem dX8_edits_5 : decode cX8_edits 5 = .ok (.aload_n 0, 1) := by decide +kernel
theorem dX8_edits_6 : decode cX8_edits 6 = .ok (.iload_n 1, 1) := by decide +kernel
theorem dX8_edits_7 : decode cX8_edits 7 = .ok (.invokevirtual 161, 3) := by decide +kernel
theorem dX8_edits_10 : decode cX8_edits 10 = .ok (.ifCond .ne 9, 3) := by decide +kernel
theorem dX8_edits_13 : decode cX8_edits 13 = .ok (.aload_n 0, 1) := by decide +kernel
theorem dX8_edits_14 : decode cX8_edits 14 = .ok (.iconst 1, 1) := by decide +kernel
theorem dX8_edits_15 : decode cX8_edits 15 = .ok (.invokevirtual 153, 3) := by decide +kernel
theorem dX8_edits_18 : decode cX8_edits 18 = .ok (.ireturn, 1) := by decide +kernel
theorem dX8_edits_19 : decode cX8_edits 19 = .ok (.iload_n 2, 1) := by decide +kernel
theorem dX8_edits_20 : decode cX8_edits 20 = .ok (.ifCond .eq 12, 3) := by decide +kernel
theorem dX8_edits_23 : decode cX8_edits 23 = .ok (.aload_n 0, 1) := by decide +kernel
theorem dX8_edits_24 : decode cX8_edits 24 = .ok (.getfield 28, 3) := by decide +kernel
theorem dX8_edits_27 : decode cX8_edits 27 = .ok (.iload_n 1, 1) := by decide +kernel
theorem dX8_edits_28 : decode cX8_edits 28 = .ok (.iaload, 1) := by decide +kernel
theorem dX8_edits_29 : decode cX8_edits 29 = .ok (.goto 9, 3) := by decide +kernel
theorem dX8_edits_32 : decode cX8_edits 32 = .ok (.aload_n 0, 1) := by decide +kernel
theorem dX8_edits_33 : decode cX8_edits 33 = .ok (.getfield 37, 3) := by decide +kernel
theorem dX8_edits_36 : decode cX8_edits 36 = .ok (.iload_n 1, 1) := by decide +kernel
theorem dX8_edits_37 : decode cX8_edits 37 = .ok (.iaload, 1) := by decide +kernel
theorem dX8_edits_38 : decode cX8_edits 38 = .ok (.ireturn, 1) := by decide +kernel
set_option maxRecDepth 20000 in
theorem ggX8_proof_X8_isLevel : GoodIn wsX8_proof wsX8_isLevel := goodIn_r _ [7, 8, 9, 10, 6, 11, 16, 17, 18, 19, 20, 21, 22, 23, 24, 25, 26, 27, 28, 29, 30, 31, 32, 33, 34, 35, 36, 37, 38, 39, 40, 41, 42, 43, 44, 45, 46, 47, 48, 49, 50, 51, 52, 53] (by decide +kernel) (by decide +kernel)
set_option maxRecDepth 20000 in
theorem gX8_proof_X8_isLevel : GoodIn wsX8_proof (wsV RX8 161 RX8 yX8_isLevel wsX8_isLevel) := goodIn_app (goodIn_of _ (by decide +kernel)) ggX8_proof_X8_isLevel
set_option maxRecDepth 20000 in
theorem ggX8_proof_X8_fails : GoodIn wsX8_proof wsX8_fails := goodIn_r _ [15, 1, 16, 17, 18, 19, 20, 21, 22, 23, 24, 25, 26, 27, 28, 29, 30, 31, 32, 33, 34, 35, 36, 37, 38, 39, 40, 41, 42, 43, 44, 45, 46, 47, 48, 49, 50, 51, 52, 53] (by decide +kernel) (by decide +kernel)
set_option maxRecDepth 20000 in
theorem gX8_proof_X8_fails : GoodIn wsX8_proof (wsV RX8 153 RX8 yX8_fails wsX8_fails) := goodIn_app (goodIn_of _ (by decide +kernel)) ggX8_proof_X8_fails
theorem dX8_proof_0 : decode cX8_proof 0 = .ok (.aload_n 0, 1) := by decide +kernel
theorem dX8_proof_1 : decode cX8_proof 1 = .ok (.iconst 0, 1) := by decide +kernel
theorem dX8_proof_2 : decode cX8_proof 2 = .ok (.putfield 101, 3) := by decide +kernel
theorem dX8_proof_5 : decode cX8_proof 5 = .ok (.aload_n 0, 1) := by decide +kernel
theorem dX8_proof_6 : decode cX8_proof 6 = .ok (.iload_n 1, 1) := by decide +kernel
theorem dX8_proof_7 : decode cX8_proof 7 = .ok (.invokevirtual 161, 3) := by decide +kernel
theorem dX8_proof_10 : decode cX8_proof 10 = .ok (.ifCond .eq 12, 3) := by decide +kernel
theorem dX8_proof_13 : decode cX8_proof 13 = .ok (.aload_n 0, 1) := by decide +kernel
theorem dX8_proof_14 : decode cX8_proof 14 = .ok (.getfield 22, 3) := by decide +kernel
theorem dX8_proof_17 : decode cX8_proof 17 = .ok (.iload_n 1, 1) := by decide +kernel
theorem dX8_proof_18 : decode cX8_proof 18 = .ok (.iaload, 1) := by decide +kernel
theorem dX8_proof_19 : decode cX8_proof 19 = .ok (.goto 8, 3) := by decide +kernel
theorem dX8_proof_22 : decode cX8_proof 22 = .ok (.aload_n 0, 1) := by decide +kernel
theorem dX8_proof_23 : decode cX8_proof 23 = .ok (.iconst 1, 1) := by decide +kernel
theorem dX8_proof_24 : decode cX8_proof 24 = .ok (.invokevirtual 153, 3) := by decide +kernel
theorem dX8_proof_27 : decode cX8_proof 27 = .ok (.ireturn, 1) := by decide +kernel
set_option maxRecDepth 20000 in
theorem ggX8_shortest_X8_isLevel : GoodIn wsX8_shortest wsX8_isLevel := goodIn_r _ [7, 8, 9, 10, 6, 11, 57, 58, 59, 60, 61, 62, 63, 64, 65, 66, 67, 68, 69, 70, 71, 72, 73, 74, 75, 76, 77, 78, 79, 80, 81, 82, 83, 84, 85, 86, 87, 88, 89, 90, 91, 92, 93, 94] (by decide +kernel) (by decide +kernel)
set_option maxRecDepth 20000 in
theorem gX8_shortest_X8_isLevel : GoodIn wsX8_shortest (wsV RX8 161 RX8 yX8_isLevel wsX8_isLevel) := goodIn_app (goodIn_of _ (by decide +kernel)) ggX8_shortest_X8_isLevel
set_option maxRecDepth 20000 in
theorem ggX8_shortest_X8_fails : GoodIn wsX8_shortest wsX8_fails := goodIn_r _ [15, 1, 57, 58, 59, 60, 61, 62, 63, 64, 65, 66, 67, 68, 69, 70, 71, 72, 73, 74, 75, 76, 77, 78, 79, 80, 81, 82, 83, 84, 85, 86, 87, 88, 89, 90, 91, 92, 93, 94] (by decide +kernel) (by decide +kernel)
set_option maxRecDepth 20000 in
theorem gX8_shortest_X8_fails : GoodIn wsX8_shortest (wsV RX8 153 RX8 yX8_fails wsX8_fails) := goodIn_app (goodIn_of _ (by decide +kernel)) ggX8_shortest_X8_fails
set_option maxRecDepth 20000 in
theorem ggX8_shortest_X8_in : GoodIn wsX8_shortest wsX8_in := goodIn_r _ [11] (by decide +kernel) (by decide +kernel)
set_option maxRecDepth 20000 in
theorem gX8_shortest_X8_in : GoodIn wsX8_shortest (va_wsS RX8 105 yX8_in wsX8_in) := goodIn_app (goodIn_of _ (by decide +kernel)) ggX8_shortest_X8_in
set_option maxRecDepth 20000 in
theorem ggX8_shortest_X8_lays : GoodIn wsX8_shortest wsX8_lays := goodIn_r _ [19, 20, 21, 22, 23, 24, 57, 58, 59, 60, 61, 62, 63, 64, 65, 66, 67, 68, 69, 70, 71, 72, 73, 74, 75, 76, 77, 78, 79, 80, 81, 82, 83, 84, 85, 86, 87, 88, 89, 90, 91, 92, 93, 94] (by decide +kernel) (by decide +kernel)
set_option maxRecDepth 20000 in
theorem gX8_shortest_X8_lays : GoodIn wsX8_shortest (wsV RX8 174 RX8 yX8_lays wsX8_lays) := goodIn_app (goodIn_of _ (by decide +kernel)) ggX8_shortest_X8_lays
set_option maxRecDepth 20000 in
theorem ggX8_shortest_X8_searches : GoodIn wsX8_shortest wsX8_searches := goodIn_r _ [28, 29, 30, 31, 32, 33, 34, 35, 36, 37, 38, 6, 39, 40, 41, 42, 43, 24, 21, 44, 45, 46, 47, 48, 49, 50, 51, 52, 53, 54, 55, 56, 20, 9, 10, 11, 57, 58, 59, 60, 61, 62, 63, 64, 65, 66, 67, 68, 69, 70, 71, 72, 73, 74, 75, 76, 77, 78, 79, 80, 81, 82, 83, 84, 85, 86, 87, 88, 89, 90, 91, 92, 93, 94] (by decide +kernel) (by decide +kernel)
set_option maxRecDepth 20000 in
theorem gX8_shortest_X8_searches : GoodIn wsX8_shortest (wsV RX8 178 RX8 yX8_searches wsX8_searches) := goodIn_app (goodIn_of _ (by decide +kernel)) ggX8_shortest_X8_searches
theorem dX8_shortest_0 : decode cX8_shortest 0 = .ok (.aload_n 0, 1) := by decide +kernel
theorem dX8_shortest_1 : decode cX8_shortest 1 = .ok (.iconst 0, 1) := by decide +kernel
theorem dX8_shortest_2 : decode cX8_shortest 2 = .ok (.putfield 101, 3) := by decide +kernel
theorem dX8_shortest_5 : decode cX8_shortest 5 = .ok (.aload_n 0, 1) := by decide +kernel
theorem dX8_shortest_6 : decode cX8_shortest 6 = .ok (.iload_n 1, 1) := by decide +kernel
theorem dX8_shortest_7 : decode cX8_shortest 7 = .ok (.invokevirtual 161, 3) := by decide +kernel
theorem dX8_shortest_10 : decode cX8_shortest 10 = .ok (.ifCond .ne 9, 3) := by decide +kernel
theorem dX8_shortest_13 : decode cX8_shortest 13 = .ok (.aload_n 0, 1) := by decide +kernel
theorem dX8_shortest_14 : decode cX8_shortest 14 = .ok (.iconst 1, 1) := by decide +kernel
theorem dX8_shortest_15 : decode cX8_shortest 15 = .ok (.invokevirtual 153, 3) := by decide +kernel
theorem dX8_shortest_18 : decode cX8_shortest 18 = .ok (.ireturn, 1) := by decide +kernel
theorem dX8_shortest_19 : decode cX8_shortest 19 = .ok (.iload_n 2, 1) := by decide +kernel
theorem dX8_shortest_20 : decode cX8_shortest 20 = .ok (.iconst 0, 1) := by decide +kernel
theorem dX8_shortest_21 : decode cX8_shortest 21 = .ok (.iconst 5, 1) := by decide +kernel
theorem dX8_shortest_22 : decode cX8_shortest 22 = .ok (.invokestatic 105, 3) := by decide +kernel
theorem dX8_shortest_25 : decode cX8_shortest 25 = .ok (.ifCond .ne 9, 3) := by decide +kernel
theorem dX8_shortest_28 : decode cX8_shortest 28 = .ok (.aload_n 0, 1) := by decide +kernel
theorem dX8_shortest_29 : decode cX8_shortest 29 = .ok (.iconst 2, 1) := by decide +kernel
theorem dX8_shortest_30 : decode cX8_shortest 30 = .ok (.invokevirtual 153, 3) := by decide +kernel
theorem dX8_shortest_33 : decode cX8_shortest 33 = .ok (.ireturn, 1) := by decide +kernel
theorem dX8_shortest_34 : decode cX8_shortest 34 = .ok (.aload_n 0, 1) := by decide +kernel
theorem dX8_shortest_35 : decode cX8_shortest 35 = .ok (.iconst 0, 1) := by decide +kernel
theorem dX8_shortest_36 : decode cX8_shortest 36 = .ok (.iload_n 1, 1) := by decide +kernel
theorem dX8_shortest_37 : decode cX8_shortest 37 = .ok (.invokevirtual 174, 3) := by decide +kernel
theorem dX8_shortest_40 : decode cX8_shortest 40 = .ok (.aload_n 0, 1) := by decide +kernel
theorem dX8_shortest_41 : decode cX8_shortest 41 = .ok (.aload_n 0, 1) := by decide +kernel
theorem dX8_shortest_42 : decode cX8_shortest 42 = .ok (.getfield 19, 3) := by decide +kernel
theorem dX8_shortest_45 : decode cX8_shortest 45 = .ok (.iload_n 1, 1) := by decide +kernel
theorem dX8_shortest_46 : decode cX8_shortest 46 = .ok (.iaload, 1) := by decide +kernel
theorem dX8_shortest_47 : decode cX8_shortest 47 = .ok (.invokevirtual 178, 3) := by decide +kernel
theorem dX8_shortest_50 : decode cX8_shortest 50 = .ok (.istore_n 3, 1) := by decide +kernel
theorem dX8_shortest_51 : decode cX8_shortest 51 = .ok (.iload_n 3, 1) := by decide +kernel
theorem dX8_shortest_52 : decode cX8_shortest 52 = .ok (.iload_n 2, 1) := by decide +kernel
theorem dX8_shortest_53 : decode cX8_shortest 53 = .ok (.if_icmp .gt 7, 3) := by decide +kernel
theorem dX8_shortest_56 : decode cX8_shortest 56 = .ok (.iload_n 3, 1) := by decide +kernel
theorem dX8_shortest_57 : decode cX8_shortest 57 = .ok (.goto 4, 3) := by decide +kernel
theorem dX8_shortest_60 : decode cX8_shortest 60 = .ok (.iconst (-1), 1) := by decide +kernel
theorem dX8_shortest_61 : decode cX8_shortest 61 = .ok (.ireturn, 1) := by decide +kernel
set_option maxRecDepth 20000 in
theorem ggX8_reach_X8_isLevel : GoodIn wsX8_reach wsX8_isLevel := goodIn_r _ [8, 9, 10, 11, 7, 12, 57, 58, 59, 60, 61, 62, 63, 64, 65, 66, 67, 68, 69, 70, 71, 72, 73, 74, 75, 76, 77, 78, 79, 80, 81, 82, 83, 84, 85, 86, 87, 88, 89, 90, 91, 92, 93, 94] (by decide +kernel) (by decide +kernel)
set_option maxRecDepth 20000 in
theorem gX8_reach_X8_isLevel : GoodIn wsX8_reach (wsV RX8 161 RX8 yX8_isLevel wsX8_isLevel) := goodIn_app (goodIn_of _ (by decide +kernel)) ggX8_reach_X8_isLevel
set_option maxRecDepth 20000 in
theorem ggX8_reach_X8_fails : GoodIn wsX8_reach wsX8_fails := goodIn_r _ [16, 1, 57, 58, 59, 60, 61, 62, 63, 64, 65, 66, 67, 68, 69, 70, 71, 72, 73, 74, 75, 76, 77, 78, 79, 80, 81, 82, 83, 84, 85, 86, 87, 88, 89, 90, 91, 92, 93, 94] (by decide +kernel) (by decide +kernel)
set_option maxRecDepth 20000 in
theorem gX8_reach_X8_fails : GoodIn wsX8_reach (wsV RX8 153 RX8 yX8_fails wsX8_fails) := goodIn_app (goodIn_of _ (by decide +kernel)) ggX8_reach_X8_fails
set_option maxRecDepth 20000 in
theorem ggX8_reach_X8_lays : GoodIn wsX8_reach wsX8_lays := goodIn_r _ [20, 21, 22, 23, 24, 25, 57, 58, 59, 60, 61, 62, 63, 64, 65, 66, 67, 68, 69, 70, 71, 72, 73, 74, 75, 76, 77, 78, 79, 80, 81, 82, 83, 84, 85, 86, 87, 88, 89, 90, 91, 92, 93, 94] (by decide +kernel) (by decide +kernel)
set_option maxRecDepth 20000 in
theorem gX8_reach_X8_lays : GoodIn wsX8_reach (wsV RX8 174 RX8 yX8_lays wsX8_lays) := goodIn_app (goodIn_of _ (by decide +kernel)) ggX8_reach_X8_lays
set_option maxRecDepth 20000 in
theorem ggX8_reach_X8_searches : GoodIn wsX8_reach wsX8_searches := goodIn_r _ [29, 30, 3, 31, 32, 33, 34, 35, 36, 37, 38, 7, 39, 40, 41, 42, 43, 25, 22, 44, 45, 46, 47, 48, 49, 50, 51, 52, 53, 54, 55, 56, 21, 10, 11, 12, 57, 58, 59, 60, 61, 62, 63, 64, 65, 66, 67, 68, 69, 70, 71, 72, 73, 74, 75, 76, 77, 78, 79, 80, 81, 82, 83, 84, 85, 86, 87, 88, 89, 90, 91, 92, 93, 94] (by decide +kernel) (by decide +kernel)
set_option maxRecDepth 20000 in
theorem gX8_reach_X8_searches : GoodIn wsX8_reach (wsV RX8 178 RX8 yX8_searches wsX8_searches) := goodIn_app (goodIn_of _ (by decide +kernel)) ggX8_reach_X8_searches
theorem dX8_reach_0 : decode cX8_reach 0 = .ok (.aload_n 0, 1) := by decide +kernel
theorem dX8_reach_1 : decode cX8_reach 1 = .ok (.iconst 0, 1) := by decide +kernel
theorem dX8_reach_2 : decode cX8_reach 2 = .ok (.putfield 101, 3) := by decide +kernel
theorem dX8_reach_5 : decode cX8_reach 5 = .ok (.aload_n 0, 1) := by decide +kernel
theorem dX8_reach_6 : decode cX8_reach 6 = .ok (.iload_n 1, 1) := by decide +kernel
theorem dX8_reach_7 : decode cX8_reach 7 = .ok (.invokevirtual 161, 3) := by decide +kernel
theorem dX8_reach_10 : decode cX8_reach 10 = .ok (.ifCond .ne 9, 3) := by decide +kernel
theorem dX8_reach_13 : decode cX8_reach 13 = .ok (.aload_n 0, 1) := by decide +kernel
theorem dX8_reach_14 : decode cX8_reach 14 = .ok (.iconst 1, 1) := by decide +kernel
theorem dX8_reach_15 : decode cX8_reach 15 = .ok (.invokevirtual 153, 3) := by decide +kernel
theorem dX8_reach_18 : decode cX8_reach 18 = .ok (.ireturn, 1) := by decide +kernel
theorem dX8_reach_19 : decode cX8_reach 19 = .ok (.aload_n 0, 1) := by decide +kernel
theorem dX8_reach_20 : decode cX8_reach 20 = .ok (.iconst 0, 1) := by decide +kernel
theorem dX8_reach_21 : decode cX8_reach 21 = .ok (.iload_n 1, 1) := by decide +kernel
theorem dX8_reach_22 : decode cX8_reach 22 = .ok (.invokevirtual 174, 3) := by decide +kernel
theorem dX8_reach_25 : decode cX8_reach 25 = .ok (.aload_n 0, 1) := by decide +kernel
theorem dX8_reach_26 : decode cX8_reach 26 = .ok (.aload_n 0, 1) := by decide +kernel
theorem dX8_reach_27 : decode cX8_reach 27 = .ok (.getfield 19, 3) := by decide +kernel
theorem dX8_reach_30 : decode cX8_reach 30 = .ok (.iload_n 1, 1) := by decide +kernel
theorem dX8_reach_31 : decode cX8_reach 31 = .ok (.iaload, 1) := by decide +kernel
theorem dX8_reach_32 : decode cX8_reach 32 = .ok (.invokevirtual 178, 3) := by decide +kernel
theorem dX8_reach_35 : decode cX8_reach 35 = .ok (.istore_n 2, 1) := by decide +kernel
theorem dX8_reach_36 : decode cX8_reach 36 = .ok (.iconst 0, 1) := by decide +kernel
theorem dX8_reach_37 : decode cX8_reach 37 = .ok (.istore_n 3, 1) := by decide +kernel
theorem dX8_reach_38 : decode cX8_reach 38 = .ok (.iconst 0, 1) := by decide +kernel
theorem dX8_reach_39 : decode cX8_reach 39 = .ok (.istore 4, 2) := by decide +kernel
theorem dX8_reach_41 : decode cX8_reach 41 = .ok (.iload 4, 2) := by decide +kernel
theorem dX8_reach_43 : decode cX8_reach 43 = .ok (.bipush 96, 2) := by decide +kernel
theorem dX8_reach_45 : decode cX8_reach 45 = .ok (.if_icmp .ge 27, 3) := by decide +kernel
theorem dX8_reach_48 : decode cX8_reach 48 = .ok (.iload_n 3, 1) := by decide +kernel
theorem dX8_reach_49 : decode cX8_reach 49 = .ok (.aload_n 0, 1) := by decide +kernel
theorem dX8_reach_50 : decode cX8_reach 50 = .ok (.getfield 97, 3) := by decide +kernel
theorem dX8_reach_53 : decode cX8_reach 53 = .ok (.iload 4, 2) := by decide +kernel
theorem dX8_reach_55 : decode cX8_reach 55 = .ok (.baload, 1) := by decide +kernel
theorem dX8_reach_56 : decode cX8_reach 56 = .ok (.ifCond .eq 7, 3) := by decide +kernel
theorem dX8_reach_59 : decode cX8_reach 59 = .ok (.iconst 1, 1) := by decide +kernel
theorem dX8_reach_60 : decode cX8_reach 60 = .ok (.goto 4, 3) := by decide +kernel
theorem dX8_reach_63 : decode cX8_reach 63 = .ok (.iconst 0, 1) := by decide +kernel
theorem dX8_reach_64 : decode cX8_reach 64 = .ok (.iadd, 1) := by decide +kernel
theorem dX8_reach_65 : decode cX8_reach 65 = .ok (.istore_n 3, 1) := by decide +kernel
theorem dX8_reach_66 : decode cX8_reach 66 = .ok (.iinc 4 1, 3) := by decide +kernel
theorem dX8_reach_69 : decode cX8_reach 69 = .ok (.goto (-28), 3) := by decide +kernel
theorem dX8_reach_72 : decode cX8_reach 72 = .ok (.iload_n 3, 1) := by decide +kernel
theorem dX8_reach_73 : decode cX8_reach 73 = .ok (.ireturn, 1) := by decide +kernel
set_option maxRecDepth 20000 in
theorem ggX8_farthest_X8_isLevel : GoodIn wsX8_farthest wsX8_isLevel := goodIn_r _ [8, 9, 10, 11, 7, 12, 57, 58, 59, 60, 61, 62, 63, 64, 65, 66, 67, 68, 69, 70, 71, 72, 73, 74, 75, 76, 77, 78, 79, 80, 81, 82, 83, 84, 85, 86, 87, 88, 89, 90, 91, 92, 93, 94] (by decide +kernel) (by decide +kernel)
set_option maxRecDepth 20000 in
theorem gX8_farthest_X8_isLevel : GoodIn wsX8_farthest (wsV RX8 161 RX8 yX8_isLevel wsX8_isLevel) := goodIn_app (goodIn_of _ (by decide +kernel)) ggX8_farthest_X8_isLevel
set_option maxRecDepth 20000 in
theorem ggX8_farthest_X8_fails : GoodIn wsX8_farthest wsX8_fails := goodIn_r _ [16, 1, 57, 58, 59, 60, 61, 62, 63, 64, 65, 66, 67, 68, 69, 70, 71, 72, 73, 74, 75, 76, 77, 78, 79, 80, 81, 82, 83, 84, 85, 86, 87, 88, 89, 90, 91, 92, 93, 94] (by decide +kernel) (by decide +kernel)
set_option maxRecDepth 20000 in
theorem gX8_farthest_X8_fails : GoodIn wsX8_farthest (wsV RX8 153 RX8 yX8_fails wsX8_fails) := goodIn_app (goodIn_of _ (by decide +kernel)) ggX8_farthest_X8_fails
set_option maxRecDepth 20000 in
theorem ggX8_farthest_X8_lays : GoodIn wsX8_farthest wsX8_lays := goodIn_r _ [20, 21, 22, 23, 24, 25, 57, 58, 59, 60, 61, 62, 63, 64, 65, 66, 67, 68, 69, 70, 71, 72, 73, 74, 75, 76, 77, 78, 79, 80, 81, 82, 83, 84, 85, 86, 87, 88, 89, 90, 91, 92, 93, 94] (by decide +kernel) (by decide +kernel)
set_option maxRecDepth 20000 in
theorem gX8_farthest_X8_lays : GoodIn wsX8_farthest (wsV RX8 174 RX8 yX8_lays wsX8_lays) := goodIn_app (goodIn_of _ (by decide +kernel)) ggX8_farthest_X8_lays
set_option maxRecDepth 20000 in
theorem ggX8_farthest_X8_searches : GoodIn wsX8_farthest wsX8_searches := goodIn_r _ [29, 30, 3, 31, 32, 33, 34, 35, 36, 37, 38, 7, 39, 40, 41, 42, 43, 25, 22, 44, 45, 46, 47, 48, 49, 50, 51, 52, 53, 54, 55, 56, 21, 10, 11, 12, 57, 58, 59, 60, 61, 62, 63, 64, 65, 66, 67, 68, 69, 70, 71, 72, 73, 74, 75, 76, 77, 78, 79, 80, 81, 82, 83, 84, 85, 86, 87, 88, 89, 90, 91, 92, 93, 94] (by decide +kernel) (by decide +kernel)
set_option maxRecDepth 20000 in
theorem gX8_farthest_X8_searches : GoodIn wsX8_farthest (wsV RX8 178 RX8 yX8_searches wsX8_searches) := goodIn_app (goodIn_of _ (by decide +kernel)) ggX8_farthest_X8_searches
theorem dX8_farthest_0 : decode cX8_farthest 0 = .ok (.aload_n 0, 1) := by decide +kernel
theorem dX8_farthest_1 : decode cX8_farthest 1 = .ok (.iconst 0, 1) := by decide +kernel
theorem dX8_farthest_2 : decode cX8_farthest 2 = .ok (.putfield 101, 3) := by decide +kernel
theorem dX8_farthest_5 : decode cX8_farthest 5 = .ok (.aload_n 0, 1) := by decide +kernel
theorem dX8_farthest_6 : decode cX8_farthest 6 = .ok (.iload_n 1, 1) := by decide +kernel
theorem dX8_farthest_7 : decode cX8_farthest 7 = .ok (.invokevirtual 161, 3) := by decide +kernel
theorem dX8_farthest_10 : decode cX8_farthest 10 = .ok (.ifCond .ne 9, 3) := by decide +kernel
theorem dX8_farthest_13 : decode cX8_farthest 13 = .ok (.aload_n 0, 1) := by decide +kernel
theorem dX8_farthest_14 : decode cX8_farthest 14 = .ok (.iconst 1, 1) := by decide +kernel
theorem dX8_farthest_15 : decode cX8_farthest 15 = .ok (.invokevirtual 153, 3) := by decide +kernel
theorem dX8_farthest_18 : decode cX8_farthest 18 = .ok (.ireturn, 1) := by decide +kernel
theorem dX8_farthest_19 : decode cX8_farthest 19 = .ok (.aload_n 0, 1) := by decide +kernel
theorem dX8_farthest_20 : decode cX8_farthest 20 = .ok (.iconst 0, 1) := by decide +kernel
theorem dX8_farthest_21 : decode cX8_farthest 21 = .ok (.iload_n 1, 1) := by decide +kernel
theorem dX8_farthest_22 : decode cX8_farthest 22 = .ok (.invokevirtual 174, 3) := by decide +kernel
theorem dX8_farthest_25 : decode cX8_farthest 25 = .ok (.aload_n 0, 1) := by decide +kernel
theorem dX8_farthest_26 : decode cX8_farthest 26 = .ok (.aload_n 0, 1) := by decide +kernel
theorem dX8_farthest_27 : decode cX8_farthest 27 = .ok (.getfield 19, 3) := by decide +kernel
theorem dX8_farthest_30 : decode cX8_farthest 30 = .ok (.iload_n 1, 1) := by decide +kernel
theorem dX8_farthest_31 : decode cX8_farthest 31 = .ok (.iaload, 1) := by decide +kernel
theorem dX8_farthest_32 : decode cX8_farthest 32 = .ok (.invokevirtual 178, 3) := by decide +kernel
theorem dX8_farthest_35 : decode cX8_farthest 35 = .ok (.istore_n 2, 1) := by decide +kernel
theorem dX8_farthest_36 : decode cX8_farthest 36 = .ok (.iconst (-1), 1) := by decide +kernel
theorem dX8_farthest_37 : decode cX8_farthest 37 = .ok (.istore_n 3, 1) := by decide +kernel
theorem dX8_farthest_38 : decode cX8_farthest 38 = .ok (.iconst 0, 1) := by decide +kernel
theorem dX8_farthest_39 : decode cX8_farthest 39 = .ok (.istore 4, 2) := by decide +kernel
theorem dX8_farthest_41 : decode cX8_farthest 41 = .ok (.iload 4, 2) := by decide +kernel
theorem dX8_farthest_43 : decode cX8_farthest 43 = .ok (.bipush 96, 2) := by decide +kernel
theorem dX8_farthest_45 : decode cX8_farthest 45 = .ok (.if_icmp .ge 43, 3) := by decide +kernel
theorem dX8_farthest_48 : decode cX8_farthest 48 = .ok (.aload_n 0, 1) := by decide +kernel
theorem dX8_farthest_49 : decode cX8_farthest 49 = .ok (.getfield 97, 3) := by decide +kernel
theorem dX8_farthest_52 : decode cX8_farthest 52 = .ok (.iload 4, 2) := by decide +kernel
theorem dX8_farthest_54 : decode cX8_farthest 54 = .ok (.baload, 1) := by decide +kernel
theorem dX8_farthest_55 : decode cX8_farthest 55 = .ok (.ifCond .eq 25, 3) := by decide +kernel
theorem dX8_farthest_58 : decode cX8_farthest 58 = .ok (.iload_n 3, 1) := by decide +kernel
theorem dX8_farthest_59 : decode cX8_farthest 59 = .ok (.iconst (-1), 1) := by decide +kernel
theorem dX8_farthest_60 : decode cX8_farthest 60 = .ok (.if_icmp .eq 15, 3) := by decide +kernel
theorem dX8_farthest_63 : decode cX8_farthest 63 = .ok (.iload 4, 2) := by decide +kernel
theorem dX8_farthest_65 : decode cX8_farthest 65 = .ok (.bipush 12, 2) := by decide +kernel
theorem dX8_farthest_67 : decode cX8_farthest 67 = .ok (.irem, 1) := by decide +kernel
theorem dX8_farthest_68 : decode cX8_farthest 68 = .ok (.iload_n 3, 1) := by decide +kernel
theorem dX8_farthest_69 : decode cX8_farthest 69 = .ok (.bipush 12, 2) := by decide +kernel
theorem dX8_farthest_71 : decode cX8_farthest 71 = .ok (.irem, 1) := by decide +kernel
theorem dX8_farthest_72 : decode cX8_farthest 72 = .ok (.if_icmp .le 8, 3) := by decide +kernel
theorem dX8_farthest_75 : decode cX8_farthest 75 = .ok (.iload 4, 2) := by decide +kernel
theorem dX8_farthest_77 : decode cX8_farthest 77 = .ok (.goto 4, 3) := by decide +kernel
theorem dX8_farthest_80 : decode cX8_farthest 80 = .ok (.iload_n 3, 1) := by decide +kernel
theorem dX8_farthest_81 : decode cX8_farthest 81 = .ok (.istore_n 3, 1) := by decide +kernel
theorem dX8_farthest_82 : decode cX8_farthest 82 = .ok (.iinc 4 1, 3) := by decide +kernel
theorem dX8_farthest_85 : decode cX8_farthest 85 = .ok (.goto (-44), 3) := by decide +kernel
theorem dX8_farthest_88 : decode cX8_farthest 88 = .ok (.iload_n 3, 1) := by decide +kernel
theorem dX8_farthest_89 : decode cX8_farthest 89 = .ok (.ireturn, 1) := by decide +kernel
set_option maxRecDepth 20000 in
theorem ggX8_strength_X8_in : GoodIn wsX8_strength wsX8_in := goodIn_r _ [6] (by decide +kernel) (by decide +kernel)
set_option maxRecDepth 20000 in
theorem gX8_strength_X8_in : GoodIn wsX8_strength (va_wsS RX8 105 yX8_in wsX8_in) := goodIn_app (goodIn_of _ (by decide +kernel)) ggX8_strength_X8_in
set_option maxRecDepth 20000 in
theorem ggX8_strength_X8_fails : GoodIn wsX8_strength wsX8_fails := goodIn_r _ [10, 1, 11, 12, 13, 14, 15, 16, 17, 18, 19, 20, 21, 22, 23, 24, 25, 26, 27, 28, 29, 30, 31, 32, 33, 34, 35, 36, 37, 38, 39, 40, 41, 42, 43, 44, 45, 46, 47, 48] (by decide +kernel) (by decide +kernel)
set_option maxRecDepth 20000 in
theorem gX8_strength_X8_fails : GoodIn wsX8_strength (wsV RX8 153 RX8 yX8_fails wsX8_fails) := goodIn_app (goodIn_of _ (by decide +kernel)) ggX8_strength_X8_fails
theorem dX8_strength_0 : decode cX8_strength 0 = .ok (.aload_n 0, 1) := by decide +kernel
theorem dX8_strength_1 : decode cX8_strength 1 = .ok (.iconst 0, 1) := by decide +kernel
theorem dX8_strength_2 : decode cX8_strength 2 = .ok (.putfield 101, 3) := by decide +kernel
theorem dX8_strength_5 : decode cX8_strength 5 = .ok (.iload_n 1, 1) := by decide +kernel
theorem dX8_strength_6 : decode cX8_strength 6 = .ok (.iconst 0, 1) := by decide +kernel
theorem dX8_strength_7 : decode cX8_strength 7 = .ok (.iconst 2, 1) := by decide +kernel
theorem dX8_strength_8 : decode cX8_strength 8 = .ok (.invokestatic 105, 3) := by decide +kernel
theorem dX8_strength_11 : decode cX8_strength 11 = .ok (.ifCond .eq 12, 3) := by decide +kernel
theorem dX8_strength_14 : decode cX8_strength 14 = .ok (.aload_n 0, 1) := by decide +kernel
theorem dX8_strength_15 : decode cX8_strength 15 = .ok (.getfield 7, 3) := by decide +kernel
theorem dX8_strength_18 : decode cX8_strength 18 = .ok (.iload_n 1, 1) := by decide +kernel
theorem dX8_strength_19 : decode cX8_strength 19 = .ok (.iaload, 1) := by decide +kernel
theorem dX8_strength_20 : decode cX8_strength 20 = .ok (.goto 8, 3) := by decide +kernel
theorem dX8_strength_23 : decode cX8_strength 23 = .ok (.aload_n 0, 1) := by decide +kernel
theorem dX8_strength_24 : decode cX8_strength 24 = .ok (.iconst 1, 1) := by decide +kernel
theorem dX8_strength_25 : decode cX8_strength 25 = .ok (.invokevirtual 153, 3) := by decide +kernel
theorem dX8_strength_28 : decode cX8_strength 28 = .ok (.ireturn, 1) := by decide +kernel
theorem dX8_works_0 : decode cX8_works 0 = .ok (.aload_n 0, 1) := by decide +kernel
theorem dX8_works_1 : decode cX8_works 1 = .ok (.iconst 0, 1) := by decide +kernel
theorem dX8_works_2 : decode cX8_works 2 = .ok (.putfield 101, 3) := by decide +kernel
theorem dX8_works_5 : decode cX8_works 5 = .ok (.aload_n 0, 1) := by decide +kernel
theorem dX8_works_6 : decode cX8_works 6 = .ok (.getfield 112, 3) := by decide +kernel
theorem dX8_works_9 : decode cX8_works 9 = .ok (.ireturn, 1) := by decide +kernel
set_option maxRecDepth 20000 in
theorem ggX8_author_X8_isWork : GoodIn wsX8_author wsX8_isWork := goodIn_r _ [7, 8, 9, 10, 6, 11, 16, 17, 18, 19, 20, 21, 22, 23, 24, 25, 26, 27, 28, 29, 30, 31, 32, 33, 34, 35, 36, 37, 38, 39, 40, 41, 42, 43, 44, 45, 46, 47, 48, 49, 50, 51, 52, 53] (by decide +kernel) (by decide +kernel)
set_option maxRecDepth 20000 in
theorem gX8_author_X8_isWork : GoodIn wsX8_author (wsV RX8 190 RX8 yX8_isWork wsX8_isWork) := goodIn_app (goodIn_of _ (by decide +kernel)) ggX8_author_X8_isWork
set_option maxRecDepth 20000 in
theorem ggX8_author_X8_fails : GoodIn wsX8_author wsX8_fails := goodIn_r _ [15, 1, 16, 17, 18, 19, 20, 21, 22, 23, 24, 25, 26, 27, 28, 29, 30, 31, 32, 33, 34, 35, 36, 37, 38, 39, 40, 41, 42, 43, 44, 45, 46, 47, 48, 49, 50, 51, 52, 53] (by decide +kernel) (by decide +kernel)
set_option maxRecDepth 20000 in
theorem gX8_author_X8_fails : GoodIn wsX8_author (wsV RX8 153 RX8 yX8_fails wsX8_fails) := goodIn_app (goodIn_of _ (by decide +kernel)) ggX8_author_X8_fails
theorem dX8_author_0 : decode cX8_author 0 = .ok (.aload_n 0, 1) := by decide +kernel
theorem dX8_author_1 : decode cX8_author 1 = .ok (.iconst 0, 1) := by decide +kernel
theorem dX8_author_2 : decode cX8_author 2 = .ok (.putfield 101, 3) := by decide +kernel
theorem dX8_author_5 : decode cX8_author 5 = .ok (.aload_n 0, 1) := by decide +kernel
theorem dX8_author_6 : decode cX8_author 6 = .ok (.iload_n 1, 1) := by decide +kernel
theorem dX8_author_7 : decode cX8_author 7 = .ok (.invokevirtual 190, 3) := by decide +kernel
theorem dX8_author_10 : decode cX8_author 10 = .ok (.ifCond .eq 12, 3) := by decide +kernel
theorem dX8_author_13 : decode cX8_author 13 = .ok (.aload_n 0, 1) := by decide +kernel
theorem dX8_author_14 : decode cX8_author 14 = .ok (.getfield 46, 3) := by decide +kernel
theorem dX8_author_17 : decode cX8_author 17 = .ok (.iload_n 1, 1) := by decide +kernel
theorem dX8_author_18 : decode cX8_author 18 = .ok (.iaload, 1) := by decide +kernel
theorem dX8_author_19 : decode cX8_author 19 = .ok (.goto 8, 3) := by decide +kernel
theorem dX8_author_22 : decode cX8_author 22 = .ok (.aload_n 0, 1) := by decide +kernel
theorem dX8_author_23 : decode cX8_author 23 = .ok (.iconst 1, 1) := by decide +kernel
theorem dX8_author_24 : decode cX8_author 24 = .ok (.invokevirtual 153, 3) := by decide +kernel
theorem dX8_author_27 : decode cX8_author 27 = .ok (.ireturn, 1) := by decide +kernel
set_option maxRecDepth 20000 in
theorem ggX8_best_X8_isWork : GoodIn wsX8_best wsX8_isWork := goodIn_r _ [7, 8, 9, 10, 6, 11, 16, 17, 18, 19, 20, 21, 22, 23, 24, 25, 26, 27, 28, 29, 30, 31, 32, 33, 34, 35, 36, 37, 38, 39, 40, 41, 42, 43, 44, 45, 46, 47, 48, 49, 50, 51, 52, 53] (by decide +kernel) (by decide +kernel)
set_option maxRecDepth 20000 in
theorem gX8_best_X8_isWork : GoodIn wsX8_best (wsV RX8 190 RX8 yX8_isWork wsX8_isWork) := goodIn_app (goodIn_of _ (by decide +kernel)) ggX8_best_X8_isWork
set_option maxRecDepth 20000 in
theorem ggX8_best_X8_fails : GoodIn wsX8_best wsX8_fails := goodIn_r _ [15, 1, 16, 17, 18, 19, 20, 21, 22, 23, 24, 25, 26, 27, 28, 29, 30, 31, 32, 33, 34, 35, 36, 37, 38, 39, 40, 41, 42, 43, 44, 45, 46, 47, 48, 49, 50, 51, 52, 53] (by decide +kernel) (by decide +kernel)
set_option maxRecDepth 20000 in
theorem gX8_best_X8_fails : GoodIn wsX8_best (wsV RX8 153 RX8 yX8_fails wsX8_fails) := goodIn_app (goodIn_of _ (by decide +kernel)) ggX8_best_X8_fails
theorem dX8_best_0 : decode cX8_best 0 = .ok (.aload_n 0, 1) := by decide +kernel
theorem dX8_best_1 : decode cX8_best 1 = .ok (.iconst 0, 1) := by decide +kernel
theorem dX8_best_2 : decode cX8_best 2 = .ok (.putfield 101, 3) := by decide +kernel
theorem dX8_best_5 : decode cX8_best 5 = .ok (.aload_n 0, 1) := by decide +kernel
theorem dX8_best_6 : decode cX8_best 6 = .ok (.iload_n 1, 1) := by decide +kernel
theorem dX8_best_7 : decode cX8_best 7 = .ok (.invokevirtual 190, 3) := by decide +kernel
theorem dX8_best_10 : decode cX8_best 10 = .ok (.ifCond .eq 12, 3) := by decide +kernel
theorem dX8_best_13 : decode cX8_best 13 = .ok (.aload_n 0, 1) := by decide +kernel
theorem dX8_best_14 : decode cX8_best 14 = .ok (.getfield 55, 3) := by decide +kernel
theorem dX8_best_17 : decode cX8_best 17 = .ok (.iload_n 1, 1) := by decide +kernel
theorem dX8_best_18 : decode cX8_best 18 = .ok (.iaload, 1) := by decide +kernel
theorem dX8_best_19 : decode cX8_best 19 = .ok (.goto 8, 3) := by decide +kernel
theorem dX8_best_22 : decode cX8_best 22 = .ok (.aload_n 0, 1) := by decide +kernel
theorem dX8_best_23 : decode cX8_best 23 = .ok (.iconst 1, 1) := by decide +kernel
theorem dX8_best_24 : decode cX8_best 24 = .ok (.invokevirtual 153, 3) := by decide +kernel
theorem dX8_best_27 : decode cX8_best 27 = .ok (.ireturn, 1) := by decide +kernel
set_option maxRecDepth 20000 in
theorem ggX8_parent_X8_isWork : GoodIn wsX8_parent wsX8_isWork := goodIn_r _ [7, 8, 9, 10, 6, 11, 16, 17, 18, 19, 20, 21, 22, 23, 24, 25, 26, 27, 28, 29, 30, 31, 32, 33, 34, 35, 36, 37, 38, 39, 40, 41, 42, 43, 44, 45, 46, 47, 48, 49, 50, 51, 52, 53] (by decide +kernel) (by decide +kernel)
set_option maxRecDepth 20000 in
theorem gX8_parent_X8_isWork : GoodIn wsX8_parent (wsV RX8 190 RX8 yX8_isWork wsX8_isWork) := goodIn_app (goodIn_of _ (by decide +kernel)) ggX8_parent_X8_isWork
set_option maxRecDepth 20000 in
theorem ggX8_parent_X8_fails : GoodIn wsX8_parent wsX8_fails := goodIn_r _ [15, 1, 16, 17, 18, 19, 20, 21, 22, 23, 24, 25, 26, 27, 28, 29, 30, 31, 32, 33, 34, 35, 36, 37, 38, 39, 40, 41, 42, 43, 44, 45, 46, 47, 48, 49, 50, 51, 52, 53] (by decide +kernel) (by decide +kernel)
set_option maxRecDepth 20000 in
theorem gX8_parent_X8_fails : GoodIn wsX8_parent (wsV RX8 153 RX8 yX8_fails wsX8_fails) := goodIn_app (goodIn_of _ (by decide +kernel)) ggX8_parent_X8_fails
theorem dX8_parent_0 : decode cX8_parent 0 = .ok (.aload_n 0, 1) := by decide +kernel
theorem dX8_parent_1 : decode cX8_parent 1 = .ok (.iconst 0, 1) := by decide +kernel
theorem dX8_parent_2 : decode cX8_parent 2 = .ok (.putfield 101, 3) := by decide +kernel
theorem dX8_parent_5 : decode cX8_parent 5 = .ok (.aload_n 0, 1) := by decide +kernel
theorem dX8_parent_6 : decode cX8_parent 6 = .ok (.iload_n 1, 1) := by decide +kernel
theorem dX8_parent_7 : decode cX8_parent 7 = .ok (.invokevirtual 190, 3) := by decide +kernel
theorem dX8_parent_10 : decode cX8_parent 10 = .ok (.ifCond .eq 12, 3) := by decide +kernel
theorem dX8_parent_13 : decode cX8_parent 13 = .ok (.aload_n 0, 1) := by decide +kernel
theorem dX8_parent_14 : decode cX8_parent 14 = .ok (.getfield 58, 3) := by decide +kernel
theorem dX8_parent_17 : decode cX8_parent 17 = .ok (.iload_n 1, 1) := by decide +kernel
theorem dX8_parent_18 : decode cX8_parent 18 = .ok (.iaload, 1) := by decide +kernel
theorem dX8_parent_19 : decode cX8_parent 19 = .ok (.goto 8, 3) := by decide +kernel
theorem dX8_parent_22 : decode cX8_parent 22 = .ok (.aload_n 0, 1) := by decide +kernel
theorem dX8_parent_23 : decode cX8_parent 23 = .ok (.iconst 1, 1) := by decide +kernel
theorem dX8_parent_24 : decode cX8_parent 24 = .ok (.invokevirtual 153, 3) := by decide +kernel
theorem dX8_parent_27 : decode cX8_parent 27 = .ok (.ireturn, 1) := by decide +kernel
theorem dX8_isInLine_0 : decode cX8_isInLine 0 = .ok (.iload_n 2, 1) := by decide +kernel
theorem dX8_isInLine_1 : decode cX8_isInLine 1 = .ok (.istore_n 3, 1) := by decide +kernel
theorem dX8_isInLine_2 : decode cX8_isInLine 2 = .ok (.iload_n 3, 1) := by decide +kernel
theorem dX8_isInLine_3 : decode cX8_isInLine 3 = .ok (.iconst (-1), 1) := by decide +kernel
theorem dX8_isInLine_4 : decode cX8_isInLine 4 = .ok (.if_icmp .eq 18, 3) := by decide +kernel
theorem dX8_isInLine_7 : decode cX8_isInLine 7 = .ok (.iload_n 3, 1) := by decide +kernel
theorem dX8_isInLine_8 : decode cX8_isInLine 8 = .ok (.iload_n 1, 1) := by decide +kernel
theorem dX8_isInLine_9 : decode cX8_isInLine 9 = .ok (.if_icmp .eq 13, 3) := by decide +kernel
theorem dX8_isInLine_12 : decode cX8_isInLine 12 = .ok (.aload_n 0, 1) := by decide +kernel
theorem dX8_isInLine_13 : decode cX8_isInLine 13 = .ok (.getfield 58, 3) := by decide +kernel
theorem dX8_isInLine_16 : decode cX8_isInLine 16 = .ok (.iload_n 3, 1) := by decide +kernel
theorem dX8_isInLine_17 : decode cX8_isInLine 17 = .ok (.iaload, 1) := by decide +kernel
theorem dX8_isInLine_18 : decode cX8_isInLine 18 = .ok (.istore_n 3, 1) := by decide +kernel
theorem dX8_isInLine_19 : decode cX8_isInLine 19 = .ok (.goto (-17), 3) := by decide +kernel
theorem dX8_isInLine_22 : decode cX8_isInLine 22 = .ok (.iload_n 3, 1) := by decide +kernel
theorem dX8_isInLine_23 : decode cX8_isInLine 23 = .ok (.iload_n 1, 1) := by decide +kernel
theorem dX8_isInLine_24 : decode cX8_isInLine 24 = .ok (.if_icmp .ne 7, 3) := by decide +kernel
theorem dX8_isInLine_27 : decode cX8_isInLine 27 = .ok (.iconst 1, 1) := by decide +kernel
theorem dX8_isInLine_28 : decode cX8_isInLine 28 = .ok (.goto 4, 3) := by decide +kernel
theorem dX8_isInLine_31 : decode cX8_isInLine 31 = .ok (.iconst 0, 1) := by decide +kernel
theorem dX8_isInLine_32 : decode cX8_isInLine 32 = .ok (.ireturn, 1) := by decide +kernel
set_option maxRecDepth 20000 in
theorem ggX8_line_X8_isWork : GoodIn wsX8_line wsX8_isWork := goodIn_r _ [7, 2, 8, 9, 6, 10, 20, 21, 22, 23, 24, 25, 26, 27, 28, 29, 30, 31, 32, 33, 34, 35, 36, 37, 38, 39, 40, 41, 42, 43, 44, 45, 46, 47, 48, 49, 50, 51, 52, 53, 54, 55, 56, 57] (by decide +kernel) (by decide +kernel)
set_option maxRecDepth 20000 in
theorem gX8_line_X8_isWork : GoodIn wsX8_line (wsV RX8 190 RX8 yX8_isWork wsX8_isWork) := goodIn_app (goodIn_of _ (by decide +kernel)) ggX8_line_X8_isWork
set_option maxRecDepth 20000 in
theorem ggX8_line_X8_fails : GoodIn wsX8_line wsX8_fails := goodIn_r _ [14, 1, 20, 21, 22, 23, 24, 25, 26, 27, 28, 29, 30, 31, 32, 33, 34, 35, 36, 37, 38, 39, 40, 41, 42, 43, 44, 45, 46, 47, 48, 49, 50, 51, 52, 53, 54, 55, 56, 57] (by decide +kernel) (by decide +kernel)
set_option maxRecDepth 20000 in
theorem gX8_line_X8_fails : GoodIn wsX8_line (wsV RX8 153 RX8 yX8_fails wsX8_fails) := goodIn_app (goodIn_of _ (by decide +kernel)) ggX8_line_X8_fails
set_option maxRecDepth 20000 in
theorem ggX8_line_X8_isInLine : GoodIn wsX8_line wsX8_isInLine := goodIn_r _ [18, 19, 20, 21, 22, 23, 24, 25, 26, 27, 28, 29, 30, 31, 32, 33, 34, 35, 36, 37, 38, 39, 40, 41, 42, 43, 44, 45, 46, 47, 48, 49, 50, 51, 52, 53, 54, 55, 56, 57] (by decide +kernel) (by decide +kernel)
set_option maxRecDepth 20000 in
theorem gX8_line_X8_isInLine : GoodIn wsX8_line (wsV RX8 196 RX8 yX8_isInLine wsX8_isInLine) := goodIn_app (goodIn_of _ (by decide +kernel)) ggX8_line_X8_isInLine
theorem dX8_line_0 : decode cX8_line 0 = .ok (.aload_n 0, 1) := by decide +kernel
theorem dX8_line_1 : decode cX8_line 1 = .ok (.iconst 0, 1) := by decide +kernel
theorem dX8_line_2 : decode cX8_line 2 = .ok (.putfield 101, 3) := by decide +kernel
theorem dX8_line_5 : decode cX8_line 5 = .ok (.aload_n 0, 1) := by decide +kernel
theorem dX8_line_6 : decode cX8_line 6 = .ok (.iload_n 1, 1) := by decide +kernel
theorem dX8_line_7 : decode cX8_line 7 = .ok (.invokevirtual 190, 3) := by decide +kernel
theorem dX8_line_10 : decode cX8_line 10 = .ok (.ifCond .ne 9, 3) := by decide +kernel
theorem dX8_line_13 : decode cX8_line 13 = .ok (.aload_n 0, 1) := by decide +kernel
theorem dX8_line_14 : decode cX8_line 14 = .ok (.iconst 1, 1) := by decide +kernel
theorem dX8_line_15 : decode cX8_line 15 = .ok (.invokevirtual 153, 3) := by decide +kernel
theorem dX8_line_18 : decode cX8_line 18 = .ok (.ireturn, 1) := by decide +kernel
theorem dX8_line_19 : decode cX8_line 19 = .ok (.iconst 0, 1) := by decide +kernel
theorem dX8_line_20 : decode cX8_line 20 = .ok (.istore_n 2, 1) := by decide +kernel
theorem dX8_line_21 : decode cX8_line 21 = .ok (.iconst 0, 1) := by decide +kernel
theorem dX8_line_22 : decode cX8_line 22 = .ok (.istore_n 3, 1) := by decide +kernel
theorem dX8_line_23 : decode cX8_line 23 = .ok (.iload_n 3, 1) := by decide +kernel
theorem dX8_line_24 : decode cX8_line 24 = .ok (.aload_n 0, 1) := by decide +kernel
theorem dX8_line_25 : decode cX8_line 25 = .ok (.getfield 112, 3) := by decide +kernel
theorem dX8_line_28 : decode cX8_line 28 = .ok (.if_icmp .ge 26, 3) := by decide +kernel
theorem dX8_line_31 : decode cX8_line 31 = .ok (.iload_n 2, 1) := by decide +kernel
theorem dX8_line_32 : decode cX8_line 32 = .ok (.aload_n 0, 1) := by decide +kernel
theorem dX8_line_33 : decode cX8_line 33 = .ok (.iload_n 1, 1) := by decide +kernel
theorem dX8_line_34 : decode cX8_line 34 = .ok (.iload_n 3, 1) := by decide +kernel
theorem dX8_line_35 : decode cX8_line 35 = .ok (.invokevirtual 196, 3) := by decide +kernel
theorem dX8_line_38 : decode cX8_line 38 = .ok (.ifCond .eq 7, 3) := by decide +kernel
theorem dX8_line_41 : decode cX8_line 41 = .ok (.iconst 1, 1) := by decide +kernel
theorem dX8_line_42 : decode cX8_line 42 = .ok (.goto 4, 3) := by decide +kernel
theorem dX8_line_45 : decode cX8_line 45 = .ok (.iconst 0, 1) := by decide +kernel
theorem dX8_line_46 : decode cX8_line 46 = .ok (.iadd, 1) := by decide +kernel
theorem dX8_line_47 : decode cX8_line 47 = .ok (.istore_n 2, 1) := by decide +kernel
theorem dX8_line_48 : decode cX8_line 48 = .ok (.iinc 3 1, 3) := by decide +kernel
theorem dX8_line_51 : decode cX8_line 51 = .ok (.goto (-28), 3) := by decide +kernel
theorem dX8_line_54 : decode cX8_line 54 = .ok (.iload_n 2, 1) := by decide +kernel
theorem dX8_line_55 : decode cX8_line 55 = .ok (.ireturn, 1) := by decide +kernel
theorem dX8_sumOf_0 : decode cX8_sumOf 0 = .ok (.iconst 0, 1) := by decide +kernel
theorem dX8_sumOf_1 : decode cX8_sumOf 1 = .ok (.istore_n 2, 1) := by decide +kernel
theorem dX8_sumOf_2 : decode cX8_sumOf 2 = .ok (.iconst 0, 1) := by decide +kernel
theorem dX8_sumOf_3 : decode cX8_sumOf 3 = .ok (.istore_n 3, 1) := by decide +kernel
theorem dX8_sumOf_4 : decode cX8_sumOf 4 = .ok (.iload_n 3, 1) := by decide +kernel
theorem dX8_sumOf_5 : decode cX8_sumOf 5 = .ok (.bipush 6, 2) := by decide +kernel
theorem dX8_sumOf_7 : decode cX8_sumOf 7 = .ok (.if_icmp .ge 23, 3) := by decide +kernel
theorem dX8_sumOf_10 : decode cX8_sumOf 10 = .ok (.iload_n 2, 1) := by decide +kernel
theorem dX8_sumOf_11 : decode cX8_sumOf 11 = .ok (.aload_n 0, 1) := by decide +kernel
theorem dX8_sumOf_12 : decode cX8_sumOf 12 = .ok (.getfield 64, 3) := by decide +kernel
theorem dX8_sumOf_15 : decode cX8_sumOf 15 = .ok (.bipush 6, 2) := by decide +kernel
theorem dX8_sumOf_17 : decode cX8_sumOf 17 = .ok (.iload_n 1, 1) := by decide +kernel
theorem dX8_sumOf_18 : decode cX8_sumOf 18 = .ok (.imul, 1) := by decide +kernel
theorem dX8_sumOf_19 : decode cX8_sumOf 19 = .ok (.iload_n 3, 1) := by decide +kernel
theorem dX8_sumOf_20 : decode cX8_sumOf 20 = .ok (.iadd, 1) := by decide +kernel
theorem dX8_sumOf_21 : decode cX8_sumOf 21 = .ok (.iaload, 1) := by decide +kernel
theorem dX8_sumOf_22 : decode cX8_sumOf 22 = .ok (.iadd, 1) := by decide +kernel
theorem dX8_sumOf_23 : decode cX8_sumOf 23 = .ok (.istore_n 2, 1) := by decide +kernel
theorem dX8_sumOf_24 : decode cX8_sumOf 24 = .ok (.iinc 3 1, 3) := by decide +kernel
theorem dX8_sumOf_27 : decode cX8_sumOf 27 = .ok (.goto (-23), 3) := by decide +kernel
theorem dX8_sumOf_30 : decode cX8_sumOf 30 = .ok (.iload_n 2, 1) := by decide +kernel
theorem dX8_sumOf_31 : decode cX8_sumOf 31 = .ok (.ireturn, 1) := by decide +kernel
set_option maxRecDepth 20000 in
theorem ggX8_stars_X8_isWork : GoodIn wsX8_stars wsX8_isWork := goodIn_r _ [6, 7, 8, 9, 5, 10, 20, 21, 22, 23, 24, 25, 26, 27, 28, 29, 30, 31, 32, 33, 34, 35, 36, 37, 38, 39, 40, 41, 42, 43, 44, 45, 46, 47, 48, 49, 50, 51, 52, 53, 54, 55, 56, 57] (by decide +kernel) (by decide +kernel)
set_option maxRecDepth 20000 in
theorem gX8_stars_X8_isWork : GoodIn wsX8_stars (wsV RX8 190 RX8 yX8_isWork wsX8_isWork) := goodIn_app (goodIn_of _ (by decide +kernel)) ggX8_stars_X8_isWork
set_option maxRecDepth 20000 in
theorem ggX8_stars_X8_sumOf : GoodIn wsX8_stars wsX8_sumOf := goodIn_r _ [14, 15, 20, 21, 22, 23, 24, 25, 26, 27, 28, 29, 30, 31, 32, 33, 34, 35, 36, 37, 38, 39, 40, 41, 42, 43, 44, 45, 46, 47, 48, 49, 50, 51, 52, 53, 54, 55, 56, 57] (by decide +kernel) (by decide +kernel)
set_option maxRecDepth 20000 in
theorem gX8_stars_X8_sumOf : GoodIn wsX8_stars (wsV RX8 199 RX8 yX8_sumOf wsX8_sumOf) := goodIn_app (goodIn_of _ (by decide +kernel)) ggX8_stars_X8_sumOf
set_option maxRecDepth 20000 in
theorem ggX8_stars_X8_fails : GoodIn wsX8_stars wsX8_fails := goodIn_r _ [19, 1, 20, 21, 22, 23, 24, 25, 26, 27, 28, 29, 30, 31, 32, 33, 34, 35, 36, 37, 38, 39, 40, 41, 42, 43, 44, 45, 46, 47, 48, 49, 50, 51, 52, 53, 54, 55, 56, 57] (by decide +kernel) (by decide +kernel)
set_option maxRecDepth 20000 in
theorem gX8_stars_X8_fails : GoodIn wsX8_stars (wsV RX8 153 RX8 yX8_fails wsX8_fails) := goodIn_app (goodIn_of _ (by decide +kernel)) ggX8_stars_X8_fails
theorem dX8_stars_0 : decode cX8_stars 0 = .ok (.aload_n 0, 1) := by decide +kernel
theorem dX8_stars_1 : decode cX8_stars 1 = .ok (.iconst 0, 1) := by decide +kernel
theorem dX8_stars_2 : decode cX8_stars 2 = .ok (.putfield 101, 3) := by decide +kernel
theorem dX8_stars_5 : decode cX8_stars 5 = .ok (.aload_n 0, 1) := by decide +kernel
theorem dX8_stars_6 : decode cX8_stars 6 = .ok (.iload_n 1, 1) := by decide +kernel
theorem dX8_stars_7 : decode cX8_stars 7 = .ok (.invokevirtual 190, 3) := by decide +kernel
theorem dX8_stars_10 : decode cX8_stars 10 = .ok (.ifCond .eq 11, 3) := by decide +kernel
theorem dX8_stars_13 : decode cX8_stars 13 = .ok (.aload_n 0, 1) := by decide +kernel
theorem dX8_stars_14 : decode cX8_stars 14 = .ok (.iload_n 1, 1) := by decide +kernel
theorem dX8_stars_15 : decode cX8_stars 15 = .ok (.invokevirtual 199, 3) := by decide +kernel
theorem dX8_stars_18 : decode cX8_stars 18 = .ok (.goto 8, 3) := by decide +kernel
theorem dX8_stars_21 : decode cX8_stars 21 = .ok (.aload_n 0, 1) := by decide +kernel
theorem dX8_stars_22 : decode cX8_stars 22 = .ok (.iconst 1, 1) := by decide +kernel
theorem dX8_stars_23 : decode cX8_stars 23 = .ok (.invokevirtual 153, 3) := by decide +kernel
theorem dX8_stars_26 : decode cX8_stars 26 = .ok (.ireturn, 1) := by decide +kernel
set_option maxRecDepth 20000 in
theorem ggX8_credit_X8_isPerson : GoodIn wsX8_credit wsX8_isPerson := goodIn_r _ [8, 9, 10, 7, 11] (by decide +kernel) (by decide +kernel)
set_option maxRecDepth 20000 in
theorem gX8_credit_X8_isPerson : GoodIn wsX8_credit (va_wsS RX8 149 yX8_isPerson wsX8_isPerson) := goodIn_app (goodIn_of _ (by decide +kernel)) ggX8_credit_X8_isPerson
set_option maxRecDepth 20000 in
theorem ggX8_credit_X8_fails : GoodIn wsX8_credit wsX8_fails := goodIn_r _ [15, 1, 21, 22, 23, 24, 25, 26, 27, 28, 29, 30, 31, 32, 33, 34, 35, 36, 37, 38, 39, 40, 41, 42, 43, 44, 45, 46, 47, 48, 49, 50, 51, 52, 53, 54, 55, 56, 57, 58] (by decide +kernel) (by decide +kernel)
set_option maxRecDepth 20000 in
theorem gX8_credit_X8_fails : GoodIn wsX8_credit (wsV RX8 153 RX8 yX8_fails wsX8_fails) := goodIn_app (goodIn_of _ (by decide +kernel)) ggX8_credit_X8_fails
set_option maxRecDepth 20000 in
theorem ggX8_credit_X8_sumOf : GoodIn wsX8_credit wsX8_sumOf := goodIn_r _ [19, 20, 21, 22, 23, 24, 25, 26, 27, 28, 29, 30, 31, 32, 33, 34, 35, 36, 37, 38, 39, 40, 41, 42, 43, 44, 45, 46, 47, 48, 49, 50, 51, 52, 53, 54, 55, 56, 57, 58] (by decide +kernel) (by decide +kernel)
set_option maxRecDepth 20000 in
theorem gX8_credit_X8_sumOf : GoodIn wsX8_credit (wsV RX8 199 RX8 yX8_sumOf wsX8_sumOf) := goodIn_app (goodIn_of _ (by decide +kernel)) ggX8_credit_X8_sumOf
theorem dX8_credit_0 : decode cX8_credit 0 = .ok (.aload_n 0, 1) := by decide +kernel
theorem dX8_credit_1 : decode cX8_credit 1 = .ok (.iconst 0, 1) := by decide +kernel
theorem dX8_credit_2 : decode cX8_credit 2 = .ok (.putfield 101, 3) := by decide +kernel
theorem dX8_credit_5 : decode cX8_credit 5 = .ok (.iload_n 1, 1) := by decide +kernel
theorem dX8_credit_6 : decode cX8_credit 6 = .ok (.invokestatic 149, 3) := by decide +kernel
theorem dX8_credit_9 : decode cX8_credit 9 = .ok (.ifCond .ne 9, 3) := by decide +kernel
theorem dX8_credit_12 : decode cX8_credit 12 = .ok (.aload_n 0, 1) := by decide +kernel
theorem dX8_credit_13 : decode cX8_credit 13 = .ok (.iconst 1, 1) := by decide +kernel
theorem dX8_credit_14 : decode cX8_credit 14 = .ok (.invokevirtual 153, 3) := by decide +kernel
theorem dX8_credit_17 : decode cX8_credit 17 = .ok (.ireturn, 1) := by decide +kernel
theorem dX8_credit_18 : decode cX8_credit 18 = .ok (.iconst 0, 1) := by decide +kernel
theorem dX8_credit_19 : decode cX8_credit 19 = .ok (.istore_n 2, 1) := by decide +kernel
theorem dX8_credit_20 : decode cX8_credit 20 = .ok (.iconst 0, 1) := by decide +kernel
theorem dX8_credit_21 : decode cX8_credit 21 = .ok (.istore_n 3, 1) := by decide +kernel
theorem dX8_credit_22 : decode cX8_credit 22 = .ok (.iload_n 3, 1) := by decide +kernel
theorem dX8_credit_23 : decode cX8_credit 23 = .ok (.aload_n 0, 1) := by decide +kernel
theorem dX8_credit_24 : decode cX8_credit 24 = .ok (.getfield 112, 3) := by decide +kernel
theorem dX8_credit_27 : decode cX8_credit 27 = .ok (.if_icmp .ge 59, 3) := by decide +kernel
theorem dX8_credit_30 : decode cX8_credit 30 = .ok (.iload_n 3, 1) := by decide +kernel
theorem dX8_credit_31 : decode cX8_credit 31 = .ok (.istore 4, 2) := by decide +kernel
theorem dX8_credit_33 : decode cX8_credit 33 = .ok (.iload 4, 2) := by decide +kernel
theorem dX8_credit_35 : decode cX8_credit 35 = .ok (.iconst (-1), 1) := by decide +kernel
theorem dX8_credit_36 : decode cX8_credit 36 = .ok (.if_icmp .eq 26, 3) := by decide +kernel
theorem dX8_credit_39 : decode cX8_credit 39 = .ok (.aload_n 0, 1) := by decide +kernel
theorem dX8_credit_40 : decode cX8_credit 40 = .ok (.getfield 46, 3) := by decide +kernel
theorem dX8_credit_43 : decode cX8_credit 43 = .ok (.iload 4, 2) := by decide +kernel
theorem dX8_credit_45 : decode cX8_credit 45 = .ok (.iaload, 1) := by decide +kernel
theorem dX8_credit_46 : decode cX8_credit 46 = .ok (.iload_n 1, 1) := by decide +kernel
theorem dX8_credit_47 : decode cX8_credit 47 = .ok (.if_icmp .eq 15, 3) := by decide +kernel
theorem dX8_credit_50 : decode cX8_credit 50 = .ok (.aload_n 0, 1) := by decide +kernel
theorem dX8_credit_51 : decode cX8_credit 51 = .ok (.getfield 58, 3) := by decide +kernel
theorem dX8_credit_54 : decode cX8_credit 54 = .ok (.iload 4, 2) := by decide +kernel
theorem dX8_credit_56 : decode cX8_credit 56 = .ok (.iaload, 1) := by decide +kernel
theorem dX8_credit_57 : decode cX8_credit 57 = .ok (.istore 4, 2) := by decide +kernel
theorem dX8_credit_59 : decode cX8_credit 59 = .ok (.goto (-26), 3) := by decide +kernel
theorem dX8_credit_62 : decode cX8_credit 62 = .ok (.iload_n 2, 1) := by decide +kernel
theorem dX8_credit_63 : decode cX8_credit 63 = .ok (.iload 4, 2) := by decide +kernel
theorem dX8_credit_65 : decode cX8_credit 65 = .ok (.iconst (-1), 1) := by decide +kernel
theorem dX8_credit_66 : decode cX8_credit 66 = .ok (.if_icmp .eq 11, 3) := by decide +kernel
theorem dX8_credit_69 : decode cX8_credit 69 = .ok (.aload_n 0, 1) := by decide +kernel
theorem dX8_credit_70 : decode cX8_credit 70 = .ok (.iload_n 3, 1) := by decide +kernel
theorem dX8_credit_71 : decode cX8_credit 71 = .ok (.invokevirtual 199, 3) := by decide +kernel
theorem dX8_credit_74 : decode cX8_credit 74 = .ok (.goto 4, 3) := by decide +kernel
theorem dX8_credit_77 : decode cX8_credit 77 = .ok (.iconst 0, 1) := by decide +kernel
theorem dX8_credit_78 : decode cX8_credit 78 = .ok (.iadd, 1) := by decide +kernel
theorem dX8_credit_79 : decode cX8_credit 79 = .ok (.istore_n 2, 1) := by decide +kernel
theorem dX8_credit_80 : decode cX8_credit 80 = .ok (.iinc 3 1, 3) := by decide +kernel
theorem dX8_credit_83 : decode cX8_credit 83 = .ok (.goto (-61), 3) := by decide +kernel
theorem dX8_credit_86 : decode cX8_credit 86 = .ok (.iload_n 2, 1) := by decide +kernel
theorem dX8_credit_87 : decode cX8_credit 87 = .ok (.ireturn, 1) := by decide +kernel
set_option maxRecDepth 20000 in
theorem ggX8_record_X8_isWork : GoodIn wsX8_record wsX8_isWork := goodIn_r _ [7, 8, 9, 10, 6, 11, 16, 17, 18, 19, 20, 21, 22, 23, 24, 25, 26, 27, 28, 29, 30, 31, 32, 33, 34, 35, 36, 37, 38, 39, 40, 41, 42, 43, 44, 45, 46, 47, 48, 49, 50, 51, 52, 53] (by decide +kernel) (by decide +kernel)
set_option maxRecDepth 20000 in
theorem gX8_record_X8_isWork : GoodIn wsX8_record (wsV RX8 190 RX8 yX8_isWork wsX8_isWork) := goodIn_app (goodIn_of _ (by decide +kernel)) ggX8_record_X8_isWork
set_option maxRecDepth 20000 in
theorem ggX8_record_X8_fails : GoodIn wsX8_record wsX8_fails := goodIn_r _ [15, 1, 16, 17, 18, 19, 20, 21, 22, 23, 24, 25, 26, 27, 28, 29, 30, 31, 32, 33, 34, 35, 36, 37, 38, 39, 40, 41, 42, 43, 44, 45, 46, 47, 48, 49, 50, 51, 52, 53] (by decide +kernel) (by decide +kernel)
set_option maxRecDepth 20000 in
theorem gX8_record_X8_fails : GoodIn wsX8_record (wsV RX8 153 RX8 yX8_fails wsX8_fails) := goodIn_app (goodIn_of _ (by decide +kernel)) ggX8_record_X8_fails
theorem dX8_record_0 : decode cX8_record 0 = .ok (.aload_n 0, 1) := by decide +kernel
theorem dX8_record_1 : decode cX8_record 1 = .ok (.iconst 0, 1) := by decide +kernel
theorem dX8_record_2 : decode cX8_record 2 = .ok (.putfield 101, 3) := by decide +kernel
theorem dX8_record_5 : decode cX8_record 5 = .ok (.aload_n 0, 1) := by decide +kernel
theorem dX8_record_6 : decode cX8_record 6 = .ok (.iload_n 1, 1) := by decide +kernel
theorem dX8_record_7 : decode cX8_record 7 = .ok (.invokevirtual 190, 3) := by decide +kernel
theorem dX8_record_10 : decode cX8_record 10 = .ok (.ifCond .eq 12, 3) := by decide +kernel
theorem dX8_record_13 : decode cX8_record 13 = .ok (.aload_n 0, 1) := by decide +kernel
theorem dX8_record_14 : decode cX8_record 14 = .ok (.getfield 61, 3) := by decide +kernel
theorem dX8_record_17 : decode cX8_record 17 = .ok (.iload_n 1, 1) := by decide +kernel
theorem dX8_record_18 : decode cX8_record 18 = .ok (.iaload, 1) := by decide +kernel
theorem dX8_record_19 : decode cX8_record 19 = .ok (.goto 8, 3) := by decide +kernel
theorem dX8_record_22 : decode cX8_record 22 = .ok (.aload_n 0, 1) := by decide +kernel
theorem dX8_record_23 : decode cX8_record 23 = .ok (.iconst 1, 1) := by decide +kernel
theorem dX8_record_24 : decode cX8_record 24 = .ok (.invokevirtual 153, 3) := by decide +kernel
theorem dX8_record_27 : decode cX8_record 27 = .ok (.ireturn, 1) := by decide +kernel
set_option maxRecDepth 20000 in
theorem ggX8_runState_X8_isPerson : GoodIn wsX8_runState wsX8_isPerson := goodIn_r _ [6, 7, 8, 5, 9] (by decide +kernel) (by decide +kernel)
set_option maxRecDepth 20000 in
theorem gX8_runState_X8_isPerson : GoodIn wsX8_runState (va_wsS RX8 149 yX8_isPerson wsX8_isPerson) := goodIn_app (goodIn_of _ (by decide +kernel)) ggX8_runState_X8_isPerson
set_option maxRecDepth 20000 in
theorem ggX8_runState_X8_fails : GoodIn wsX8_runState wsX8_fails := goodIn_r _ [13, 1, 14, 15, 16, 17, 18, 19, 20, 21, 22, 23, 24, 25, 26, 27, 28, 29, 30, 31, 32, 33, 34, 35, 36, 37, 38, 39, 40, 41, 42, 43, 44, 45, 46, 47, 48, 49, 50, 51] (by decide +kernel) (by decide +kernel)
set_option maxRecDepth 20000 in
theorem gX8_runState_X8_fails : GoodIn wsX8_runState (wsV RX8 153 RX8 yX8_fails wsX8_fails) := goodIn_app (goodIn_of _ (by decide +kernel)) ggX8_runState_X8_fails
theorem dX8_runState_0 : decode cX8_runState 0 = .ok (.aload_n 0, 1) := by decide +kernel
theorem dX8_runState_1 : decode cX8_runState 1 = .ok (.iconst 0, 1) := by decide +kernel
theorem dX8_runState_2 : decode cX8_runState 2 = .ok (.putfield 101, 3) := by decide +kernel
theorem dX8_runState_5 : decode cX8_runState 5 = .ok (.iload_n 1, 1) := by decide +kernel
theorem dX8_runState_6 : decode cX8_runState 6 = .ok (.invokestatic 149, 3) := by decide +kernel
theorem dX8_runState_9 : decode cX8_runState 9 = .ok (.ifCond .eq 12, 3) := by decide +kernel
theorem dX8_runState_12 : decode cX8_runState 12 = .ok (.aload_n 0, 1) := by decide +kernel
theorem dX8_runState_13 : decode cX8_runState 13 = .ok (.getfield 67, 3) := by decide +kernel
theorem dX8_runState_16 : decode cX8_runState 16 = .ok (.iload_n 1, 1) := by decide +kernel
theorem dX8_runState_17 : decode cX8_runState 17 = .ok (.iaload, 1) := by decide +kernel
theorem dX8_runState_18 : decode cX8_runState 18 = .ok (.goto 8, 3) := by decide +kernel
theorem dX8_runState_21 : decode cX8_runState 21 = .ok (.aload_n 0, 1) := by decide +kernel
theorem dX8_runState_22 : decode cX8_runState 22 = .ok (.iconst 1, 1) := by decide +kernel
theorem dX8_runState_23 : decode cX8_runState 23 = .ok (.invokevirtual 153, 3) := by decide +kernel
theorem dX8_runState_26 : decode cX8_runState 26 = .ok (.ireturn, 1) := by decide +kernel
set_option maxRecDepth 20000 in
theorem ggX8_body_X8_isPerson : GoodIn wsX8_body wsX8_isPerson := goodIn_r _ [7, 8, 9, 6, 10] (by decide +kernel) (by decide +kernel)
set_option maxRecDepth 20000 in
theorem gX8_body_X8_isPerson : GoodIn wsX8_body (va_wsS RX8 149 yX8_isPerson wsX8_isPerson) := goodIn_app (goodIn_of _ (by decide +kernel)) ggX8_body_X8_isPerson
set_option maxRecDepth 20000 in
theorem ggX8_body_X8_fails : GoodIn wsX8_body wsX8_fails := goodIn_r _ [14, 1, 15, 16, 17, 18, 19, 20, 21, 22, 23, 24, 25, 26, 27, 28, 29, 30, 31, 32, 33, 34, 35, 36, 37, 38, 39, 40, 41, 42, 43, 44, 45, 46, 47, 48, 49, 50, 51, 52] (by decide +kernel) (by decide +kernel)
set_option maxRecDepth 20000 in
theorem gX8_body_X8_fails : GoodIn wsX8_body (wsV RX8 153 RX8 yX8_fails wsX8_fails) := goodIn_app (goodIn_of _ (by decide +kernel)) ggX8_body_X8_fails
theorem dX8_body_0 : decode cX8_body 0 = .ok (.aload_n 0, 1) := by decide +kernel
theorem dX8_body_1 : decode cX8_body 1 = .ok (.iconst 0, 1) := by decide +kernel
theorem dX8_body_2 : decode cX8_body 2 = .ok (.putfield 101, 3) := by decide +kernel
theorem dX8_body_5 : decode cX8_body 5 = .ok (.iload_n 1, 1) := by decide +kernel
theorem dX8_body_6 : decode cX8_body 6 = .ok (.invokestatic 149, 3) := by decide +kernel
theorem dX8_body_9 : decode cX8_body 9 = .ok (.ifCond .ne 9, 3) := by decide +kernel
theorem dX8_body_12 : decode cX8_body 12 = .ok (.aload_n 0, 1) := by decide +kernel
theorem dX8_body_13 : decode cX8_body 13 = .ok (.iconst 1, 1) := by decide +kernel
theorem dX8_body_14 : decode cX8_body 14 = .ok (.invokevirtual 153, 3) := by decide +kernel
theorem dX8_body_17 : decode cX8_body 17 = .ok (.ireturn, 1) := by decide +kernel
theorem dX8_body_18 : decode cX8_body 18 = .ok (.aload_n 0, 1) := by decide +kernel
theorem dX8_body_19 : decode cX8_body 19 = .ok (.getfield 67, 3) := by decide +kernel
theorem dX8_body_22 : decode cX8_body 22 = .ok (.iload_n 1, 1) := by decide +kernel
theorem dX8_body_23 : decode cX8_body 23 = .ok (.iaload, 1) := by decide +kernel
theorem dX8_body_24 : decode cX8_body 24 = .ok (.ifCond .ne 7, 3) := by decide +kernel
theorem dX8_body_27 : decode cX8_body 27 = .ok (.iconst (-1), 1) := by decide +kernel
theorem dX8_body_28 : decode cX8_body 28 = .ok (.goto 9, 3) := by decide +kernel
theorem dX8_body_31 : decode cX8_body 31 = .ok (.aload_n 0, 1) := by decide +kernel
theorem dX8_body_32 : decode cX8_body 32 = .ok (.getfield 73, 3) := by decide +kernel
theorem dX8_body_35 : decode cX8_body 35 = .ok (.iload_n 1, 1) := by decide +kernel
theorem dX8_body_36 : decode cX8_body 36 = .ok (.iaload, 1) := by decide +kernel
theorem dX8_body_37 : decode cX8_body 37 = .ok (.ireturn, 1) := by decide +kernel
set_option maxRecDepth 20000 in
theorem ggX8_speed_X8_isPerson : GoodIn wsX8_speed wsX8_isPerson := goodIn_r _ [6, 7, 8, 5, 9] (by decide +kernel) (by decide +kernel)
set_option maxRecDepth 20000 in
theorem gX8_speed_X8_isPerson : GoodIn wsX8_speed (va_wsS RX8 149 yX8_isPerson wsX8_isPerson) := goodIn_app (goodIn_of _ (by decide +kernel)) ggX8_speed_X8_isPerson
set_option maxRecDepth 20000 in
theorem ggX8_speed_X8_fails : GoodIn wsX8_speed wsX8_fails := goodIn_r _ [13, 1, 14, 15, 16, 17, 18, 19, 20, 21, 22, 23, 24, 25, 26, 27, 28, 29, 30, 31, 32, 33, 34, 35, 36, 37, 38, 39, 40, 41, 42, 43, 44, 45, 46, 47, 48, 49, 50, 51] (by decide +kernel) (by decide +kernel)
set_option maxRecDepth 20000 in
theorem gX8_speed_X8_fails : GoodIn wsX8_speed (wsV RX8 153 RX8 yX8_fails wsX8_fails) := goodIn_app (goodIn_of _ (by decide +kernel)) ggX8_speed_X8_fails
theorem dX8_speed_0 : decode cX8_speed 0 = .ok (.aload_n 0, 1) := by decide +kernel
theorem dX8_speed_1 : decode cX8_speed 1 = .ok (.iconst 0, 1) := by decide +kernel
theorem dX8_speed_2 : decode cX8_speed 2 = .ok (.putfield 101, 3) := by decide +kernel
theorem dX8_speed_5 : decode cX8_speed 5 = .ok (.iload_n 1, 1) := by decide +kernel
theorem dX8_speed_6 : decode cX8_speed 6 = .ok (.invokestatic 149, 3) := by decide +kernel
theorem dX8_speed_9 : decode cX8_speed 9 = .ok (.ifCond .eq 12, 3) := by decide +kernel
theorem dX8_speed_12 : decode cX8_speed 12 = .ok (.aload_n 0, 1) := by decide +kernel
theorem dX8_speed_13 : decode cX8_speed 13 = .ok (.getfield 76, 3) := by decide +kernel
theorem dX8_speed_16 : decode cX8_speed 16 = .ok (.iload_n 1, 1) := by decide +kernel
theorem dX8_speed_17 : decode cX8_speed 17 = .ok (.iaload, 1) := by decide +kernel
theorem dX8_speed_18 : decode cX8_speed 18 = .ok (.goto 8, 3) := by decide +kernel
theorem dX8_speed_21 : decode cX8_speed 21 = .ok (.aload_n 0, 1) := by decide +kernel
theorem dX8_speed_22 : decode cX8_speed 22 = .ok (.iconst 1, 1) := by decide +kernel
theorem dX8_speed_23 : decode cX8_speed 23 = .ok (.invokevirtual 153, 3) := by decide +kernel
theorem dX8_speed_26 : decode cX8_speed 26 = .ok (.ireturn, 1) := by decide +kernel
set_option maxRecDepth 20000 in
theorem ggX8_keys_X8_isPerson : GoodIn wsX8_keys wsX8_isPerson := goodIn_r _ [6, 7, 8, 5, 9] (by decide +kernel) (by decide +kernel)
set_option maxRecDepth 20000 in
theorem gX8_keys_X8_isPerson : GoodIn wsX8_keys (va_wsS RX8 149 yX8_isPerson wsX8_isPerson) := goodIn_app (goodIn_of _ (by decide +kernel)) ggX8_keys_X8_isPerson
set_option maxRecDepth 20000 in
theorem ggX8_keys_X8_fails : GoodIn wsX8_keys wsX8_fails := goodIn_r _ [13, 1, 14, 15, 16, 17, 18, 19, 20, 21, 22, 23, 24, 25, 26, 27, 28, 29, 30, 31, 32, 33, 34, 35, 36, 37, 38, 39, 40, 41, 42, 43, 44, 45, 46, 47, 48, 49, 50, 51] (by decide +kernel) (by decide +kernel)
set_option maxRecDepth 20000 in
theorem gX8_keys_X8_fails : GoodIn wsX8_keys (wsV RX8 153 RX8 yX8_fails wsX8_fails) := goodIn_app (goodIn_of _ (by decide +kernel)) ggX8_keys_X8_fails
theorem dX8_keys_0 : decode cX8_keys 0 = .ok (.aload_n 0, 1) := by decide +kernel
theorem dX8_keys_1 : decode cX8_keys 1 = .ok (.iconst 0, 1) := by decide +kernel
theorem dX8_keys_2 : decode cX8_keys 2 = .ok (.putfield 101, 3) := by decide +kernel
theorem dX8_keys_5 : decode cX8_keys 5 = .ok (.iload_n 1, 1) := by decide +kernel
theorem dX8_keys_6 : decode cX8_keys 6 = .ok (.invokestatic 149, 3) := by decide +kernel
theorem dX8_keys_9 : decode cX8_keys 9 = .ok (.ifCond .ne 9, 3) := by decide +kernel
theorem dX8_keys_12 : decode cX8_keys 12 = .ok (.aload_n 0, 1) := by decide +kernel
theorem dX8_keys_13 : decode cX8_keys 13 = .ok (.iconst 1, 1) := by decide +kernel
theorem dX8_keys_14 : decode cX8_keys 14 = .ok (.invokevirtual 153, 3) := by decide +kernel
theorem dX8_keys_17 : decode cX8_keys 17 = .ok (.ireturn, 1) := by decide +kernel
theorem dX8_keys_18 : decode cX8_keys 18 = .ok (.aload_n 0, 1) := by decide +kernel
theorem dX8_keys_19 : decode cX8_keys 19 = .ok (.getfield 79, 3) := by decide +kernel
theorem dX8_keys_22 : decode cX8_keys 22 = .ok (.iload_n 1, 1) := by decide +kernel
theorem dX8_keys_23 : decode cX8_keys 23 = .ok (.iaload, 1) := by decide +kernel
theorem dX8_keys_24 : decode cX8_keys 24 = .ok (.iconst 1, 1) := by decide +kernel
theorem dX8_keys_25 : decode cX8_keys 25 = .ok (.iand, 1) := by decide +kernel
theorem dX8_keys_26 : decode cX8_keys 26 = .ok (.aload_n 0, 1) := by decide +kernel
theorem dX8_keys_27 : decode cX8_keys 27 = .ok (.getfield 79, 3) := by decide +kernel
theorem dX8_keys_30 : decode cX8_keys 30 = .ok (.iload_n 1, 1) := by decide +kernel
theorem dX8_keys_31 : decode cX8_keys 31 = .ok (.iaload, 1) := by decide +kernel
theorem dX8_keys_32 : decode cX8_keys 32 = .ok (.iconst 1, 1) := by decide +kernel
theorem dX8_keys_33 : decode cX8_keys 33 = .ok (.ishr, 1) := by decide +kernel
theorem dX8_keys_34 : decode cX8_keys 34 = .ok (.iconst 1, 1) := by decide +kernel
theorem dX8_keys_35 : decode cX8_keys 35 = .ok (.iand, 1) := by decide +kernel
theorem dX8_keys_36 : decode cX8_keys 36 = .ok (.iadd, 1) := by decide +kernel
theorem dX8_keys_37 : decode cX8_keys 37 = .ok (.aload_n 0, 1) := by decide +kernel
theorem dX8_keys_38 : decode cX8_keys 38 = .ok (.getfield 79, 3) := by decide +kernel
theorem dX8_keys_41 : decode cX8_keys 41 = .ok (.iload_n 1, 1) := by decide +kernel
theorem dX8_keys_42 : decode cX8_keys 42 = .ok (.iaload, 1) := by decide +kernel
theorem dX8_keys_43 : decode cX8_keys 43 = .ok (.iconst 2, 1) := by decide +kernel
theorem dX8_keys_44 : decode cX8_keys 44 = .ok (.ishr, 1) := by decide +kernel
theorem dX8_keys_45 : decode cX8_keys 45 = .ok (.iconst 1, 1) := by decide +kernel
theorem dX8_keys_46 : decode cX8_keys 46 = .ok (.iand, 1) := by decide +kernel
theorem dX8_keys_47 : decode cX8_keys 47 = .ok (.iadd, 1) := by decide +kernel
theorem dX8_keys_48 : decode cX8_keys 48 = .ok (.ireturn, 1) := by decide +kernel
set_option maxRecDepth 20000 in
theorem ggX8_stepsOf_X8_isPerson : GoodIn wsX8_stepsOf wsX8_isPerson := goodIn_r _ [6, 7, 8, 5, 9] (by decide +kernel) (by decide +kernel)
set_option maxRecDepth 20000 in
theorem gX8_stepsOf_X8_isPerson : GoodIn wsX8_stepsOf (va_wsS RX8 149 yX8_isPerson wsX8_isPerson) := goodIn_app (goodIn_of _ (by decide +kernel)) ggX8_stepsOf_X8_isPerson
set_option maxRecDepth 20000 in
theorem ggX8_stepsOf_X8_fails : GoodIn wsX8_stepsOf wsX8_fails := goodIn_r _ [13, 1, 14, 15, 16, 17, 18, 19, 20, 21, 22, 23, 24, 25, 26, 27, 28, 29, 30, 31, 32, 33, 34, 35, 36, 37, 38, 39, 40, 41, 42, 43, 44, 45, 46, 47, 48, 49, 50, 51] (by decide +kernel) (by decide +kernel)
set_option maxRecDepth 20000 in
theorem gX8_stepsOf_X8_fails : GoodIn wsX8_stepsOf (wsV RX8 153 RX8 yX8_fails wsX8_fails) := goodIn_app (goodIn_of _ (by decide +kernel)) ggX8_stepsOf_X8_fails
theorem dX8_stepsOf_0 : decode cX8_stepsOf 0 = .ok (.aload_n 0, 1) := by decide +kernel
theorem dX8_stepsOf_1 : decode cX8_stepsOf 1 = .ok (.iconst 0, 1) := by decide +kernel
theorem dX8_stepsOf_2 : decode cX8_stepsOf 2 = .ok (.putfield 101, 3) := by decide +kernel
theorem dX8_stepsOf_5 : decode cX8_stepsOf 5 = .ok (.iload_n 1, 1) := by decide +kernel
theorem dX8_stepsOf_6 : decode cX8_stepsOf 6 = .ok (.invokestatic 149, 3) := by decide +kernel
theorem dX8_stepsOf_9 : decode cX8_stepsOf 9 = .ok (.ifCond .eq 12, 3) := by decide +kernel
theorem dX8_stepsOf_12 : decode cX8_stepsOf 12 = .ok (.aload_n 0, 1) := by decide +kernel
theorem dX8_stepsOf_13 : decode cX8_stepsOf 13 = .ok (.getfield 82, 3) := by decide +kernel
theorem dX8_stepsOf_16 : decode cX8_stepsOf 16 = .ok (.iload_n 1, 1) := by decide +kernel
theorem dX8_stepsOf_17 : decode cX8_stepsOf 17 = .ok (.iaload, 1) := by decide +kernel
theorem dX8_stepsOf_18 : decode cX8_stepsOf 18 = .ok (.goto 8, 3) := by decide +kernel
theorem dX8_stepsOf_21 : decode cX8_stepsOf 21 = .ok (.aload_n 0, 1) := by decide +kernel
theorem dX8_stepsOf_22 : decode cX8_stepsOf 22 = .ok (.iconst 1, 1) := by decide +kernel
theorem dX8_stepsOf_23 : decode cX8_stepsOf 23 = .ok (.invokevirtual 153, 3) := by decide +kernel
theorem dX8_stepsOf_26 : decode cX8_stepsOf 26 = .ok (.ireturn, 1) := by decide +kernel
theorem dJ6_bitCount_0f7a4_0 : decode cJ6_bitCount_0f7a4 0 = .ok (.iload_n 0, 1) := by decide +kernel
theorem dJ6_bitCount_0f7a4_1 : decode cJ6_bitCount_0f7a4 1 = .ok (.iload_n 0, 1) := by decide +kernel
theorem dJ6_bitCount_0f7a4_2 : decode cJ6_bitCount_0f7a4 2 = .ok (.iconst 1, 1) := by decide +kernel
theorem dJ6_bitCount_0f7a4_3 : decode cJ6_bitCount_0f7a4 3 = .ok (.iushr, 1) := by decide +kernel
theorem dJ6_bitCount_0f7a4_4 : decode cJ6_bitCount_0f7a4 4 = .ok (.ldc_w 265, 3) := by decide +kernel
theorem dJ6_bitCount_0f7a4_7 : decode cJ6_bitCount_0f7a4 7 = .ok (.iand, 1) := by decide +kernel
theorem dJ6_bitCount_0f7a4_8 : decode cJ6_bitCount_0f7a4 8 = .ok (.isub, 1) := by decide +kernel
theorem dJ6_bitCount_0f7a4_9 : decode cJ6_bitCount_0f7a4 9 = .ok (.istore_n 0, 1) := by decide +kernel
theorem dJ6_bitCount_0f7a4_10 : decode cJ6_bitCount_0f7a4 10 = .ok (.iload_n 0, 1) := by decide +kernel
theorem dJ6_bitCount_0f7a4_11 : decode cJ6_bitCount_0f7a4 11 = .ok (.ldc_w 266, 3) := by decide +kernel
theorem dJ6_bitCount_0f7a4_14 : decode cJ6_bitCount_0f7a4 14 = .ok (.iand, 1) := by decide +kernel
theorem dJ6_bitCount_0f7a4_15 : decode cJ6_bitCount_0f7a4 15 = .ok (.iload_n 0, 1) := by decide +kernel
theorem dJ6_bitCount_0f7a4_16 : decode cJ6_bitCount_0f7a4 16 = .ok (.iconst 2, 1) := by decide +kernel
theorem dJ6_bitCount_0f7a4_17 : decode cJ6_bitCount_0f7a4 17 = .ok (.iushr, 1) := by decide +kernel
theorem dJ6_bitCount_0f7a4_18 : decode cJ6_bitCount_0f7a4 18 = .ok (.ldc_w 266, 3) := by decide +kernel
theorem dJ6_bitCount_0f7a4_21 : decode cJ6_bitCount_0f7a4 21 = .ok (.iand, 1) := by decide +kernel
theorem dJ6_bitCount_0f7a4_22 : decode cJ6_bitCount_0f7a4 22 = .ok (.iadd, 1) := by decide +kernel
theorem dJ6_bitCount_0f7a4_23 : decode cJ6_bitCount_0f7a4 23 = .ok (.istore_n 0, 1) := by decide +kernel
theorem dJ6_bitCount_0f7a4_24 : decode cJ6_bitCount_0f7a4 24 = .ok (.iload_n 0, 1) := by decide +kernel
theorem dJ6_bitCount_0f7a4_25 : decode cJ6_bitCount_0f7a4 25 = .ok (.iload_n 0, 1) := by decide +kernel
theorem dJ6_bitCount_0f7a4_26 : decode cJ6_bitCount_0f7a4 26 = .ok (.iconst 4, 1) := by decide +kernel
theorem dJ6_bitCount_0f7a4_27 : decode cJ6_bitCount_0f7a4 27 = .ok (.iushr, 1) := by decide +kernel
theorem dJ6_bitCount_0f7a4_28 : decode cJ6_bitCount_0f7a4 28 = .ok (.iadd, 1) := by decide +kernel
theorem dJ6_bitCount_0f7a4_29 : decode cJ6_bitCount_0f7a4 29 = .ok (.ldc_w 267, 3) := by decide +kernel
theorem dJ6_bitCount_0f7a4_32 : decode cJ6_bitCount_0f7a4 32 = .ok (.iand, 1) := by decide +kernel
theorem dJ6_bitCount_0f7a4_33 : decode cJ6_bitCount_0f7a4 33 = .ok (.istore_n 0, 1) := by decide +kernel
theorem dJ6_bitCount_0f7a4_34 : decode cJ6_bitCount_0f7a4 34 = .ok (.iload_n 0, 1) := by decide +kernel
theorem dJ6_bitCount_0f7a4_35 : decode cJ6_bitCount_0f7a4 35 = .ok (.iload_n 0, 1) := by decide +kernel
theorem dJ6_bitCount_0f7a4_36 : decode cJ6_bitCount_0f7a4 36 = .ok (.bipush 8, 2) := by decide +kernel
theorem dJ6_bitCount_0f7a4_38 : decode cJ6_bitCount_0f7a4 38 = .ok (.iushr, 1) := by decide +kernel
theorem dJ6_bitCount_0f7a4_39 : decode cJ6_bitCount_0f7a4 39 = .ok (.iadd, 1) := by decide +kernel
theorem dJ6_bitCount_0f7a4_40 : decode cJ6_bitCount_0f7a4 40 = .ok (.istore_n 0, 1) := by decide +kernel
theorem dJ6_bitCount_0f7a4_41 : decode cJ6_bitCount_0f7a4 41 = .ok (.iload_n 0, 1) := by decide +kernel
theorem dJ6_bitCount_0f7a4_42 : decode cJ6_bitCount_0f7a4 42 = .ok (.iload_n 0, 1) := by decide +kernel
theorem dJ6_bitCount_0f7a4_43 : decode cJ6_bitCount_0f7a4 43 = .ok (.bipush 16, 2) := by decide +kernel
theorem dJ6_bitCount_0f7a4_45 : decode cJ6_bitCount_0f7a4 45 = .ok (.iushr, 1) := by decide +kernel
theorem dJ6_bitCount_0f7a4_46 : decode cJ6_bitCount_0f7a4 46 = .ok (.iadd, 1) := by decide +kernel
theorem dJ6_bitCount_0f7a4_47 : decode cJ6_bitCount_0f7a4 47 = .ok (.istore_n 0, 1) := by decide +kernel
theorem dJ6_bitCount_0f7a4_48 : decode cJ6_bitCount_0f7a4 48 = .ok (.iload_n 0, 1) := by decide +kernel
theorem dJ6_bitCount_0f7a4_49 : decode cJ6_bitCount_0f7a4 49 = .ok (.bipush 63, 2) := by decide +kernel
theorem dJ6_bitCount_0f7a4_51 : decode cJ6_bitCount_0f7a4 51 = .ok (.iand, 1) := by decide +kernel
theorem dJ6_bitCount_0f7a4_52 : decode cJ6_bitCount_0f7a4 52 = .ok (.ireturn, 1) := by decide +kernel
set_option maxRecDepth 20000 in
theorem ggL_begin_X7_begin : GoodIn wsL_begin wsX7_begin := goodIn_ca (goodIn_ca (goodIn_r _ [7, 8, 9, 10, 6, 11, 12, 13, 14, 15, 16, 17, 18, 19, 20, 21, 22, 23, 24, 25, 26, 27, 28, 29, 30, 31, 32, 33, 34, 35, 36, 37, 38, 39, 40, 41, 42, 43, 44, 45, 46, 47, 48, 49, 50, 51, 52, 53, 54, 55, 56, 57, 58, 59, 60, 61, 62, 63, 64, 65, 66, 67, 68, 69, 70, 71, 72, 73, 74, 75, 76, 77, 78, 79, 80, 81, 82, 83, 84, 85, 86, 87] (by decide +kernel) (by decide +kernel)) (goodIn_sub (fun _ h => List.mem_cons_of_mem _ (List.mem_append_left _ (List.mem_append_right _ h))) (by decide +kernel))) (goodIn_sub (fun _ h => List.mem_cons_of_mem _ (List.mem_append_right _ h)) (by decide +kernel))
set_option maxRecDepth 20000 in
theorem gL_begin_X7_begin : GoodIn wsL_begin (wsV RL 7 RX7 yX7_begin wsX7_begin) := goodIn_app (goodIn_of _ (by decide +kernel)) ggL_begin_X7_begin
theorem dL_begin_0 : decode cL_begin 0 = .ok (.aload_n 2, 1) := by decide +kernel
theorem dL_begin_1 : decode cL_begin 1 = .ok (.iconst 0, 1) := by decide +kernel
theorem dL_begin_2 : decode cL_begin 2 = .ok (.aload_n 0, 1) := by decide +kernel
theorem dL_begin_3 : decode cL_begin 3 = .ok (.iload_n 1, 1) := by decide +kernel
theorem dL_begin_4 : decode cL_begin 4 = .ok (.invokevirtual 7, 3) := by decide +kernel
theorem dL_begin_7 : decode cL_begin 7 = .ok (.i2l, 1) := by decide +kernel
theorem dL_begin_8 : decode cL_begin 8 = .ok (.lastore, 1) := by decide +kernel
theorem dL_begin_9 : decode cL_begin 9 = .ok (.goto 9, 3) := by decide +kernel
theorem dL_begin_12 : decode cL_begin 12 = .ok (.astore_n 3, 1) := by decide +kernel
theorem dL_begin_13 : decode cL_begin 13 = .ok (.iconst 1, 1) := by decide +kernel
theorem dL_begin_14 : decode cL_begin 14 = .ok (.ireturn, 1) := by decide +kernel
theorem dL_begin_15 : decode cL_begin 15 = .ok (.astore_n 3, 1) := by decide +kernel
theorem dL_begin_16 : decode cL_begin 16 = .ok (.iconst 2, 1) := by decide +kernel
theorem dL_begin_17 : decode cL_begin 17 = .ok (.ireturn, 1) := by decide +kernel
theorem dL_begin_18 : decode cL_begin 18 = .ok (.iconst 0, 1) := by decide +kernel
theorem dL_begin_19 : decode cL_begin 19 = .ok (.ireturn, 1) := by decide +kernel
set_option maxRecDepth 20000 in
theorem ggL_set_X7_set : GoodIn wsL_set wsX7_set := goodIn_ca (goodIn_ca (goodIn_ca (goodIn_r _ [8, 9, 10, 11, 12, 13, 14, 15, 7, 16, 17, 18, 19, 20, 21, 22, 23, 24, 25, 26, 27, 28, 29, 30, 31, 32, 33, 34, 35, 36, 37, 38, 39, 40, 41, 42, 43, 44, 45, 46, 47, 48, 49, 50, 51, 52, 53, 54, 55, 56, 57, 58, 59, 60, 61, 62, 63, 64, 65, 66, 67, 68, 69, 70, 71, 72, 73, 74, 75, 76, 77, 78, 79, 80, 81, 82, 83, 84, 85, 86, 87, 88, 89, 90, 91, 92, 93, 94] (by decide +kernel) (by decide +kernel)) (goodIn_sub (fun _ h => List.mem_cons_of_mem _ (List.mem_append_left _ (List.mem_append_left _ (List.mem_append_right _ h)))) (by decide +kernel))) (goodIn_sub (fun _ h => List.mem_cons_of_mem _ (List.mem_append_left _ (List.mem_append_right _ h))) (by decide +kernel))) (goodIn_sub (fun _ h => List.mem_cons_of_mem _ (List.mem_append_right _ h)) (by decide +kernel))
set_option maxRecDepth 20000 in
theorem gL_set_X7_set : GoodIn wsL_set (wsV RL 17 RX7 yX7_set wsX7_set) := goodIn_app (goodIn_of _ (by decide +kernel)) ggL_set_X7_set
theorem dL_set_0 : decode cL_set 0 = .ok (.aload 4, 2) := by decide +kernel
theorem dL_set_2 : decode cL_set 2 = .ok (.iconst 0, 1) := by decide +kernel
theorem dL_set_3 : decode cL_set 3 = .ok (.aload_n 0, 1) := by decide +kernel
theorem dL_set_4 : decode cL_set 4 = .ok (.iload_n 1, 1) := by decide +kernel
theorem dL_set_5 : decode cL_set 5 = .ok (.iload_n 2, 1) := by decide +kernel
theorem dL_set_6 : decode cL_set 6 = .ok (.iload_n 3, 1) := by decide +kernel
theorem dL_set_7 : decode cL_set 7 = .ok (.invokevirtual 17, 3) := by decide +kernel
theorem dL_set_10 : decode cL_set 10 = .ok (.i2l, 1) := by decide +kernel
theorem dL_set_11 : decode cL_set 11 = .ok (.lastore, 1) := by decide +kernel
theorem dL_set_12 : decode cL_set 12 = .ok (.goto 15, 3) := by decide +kernel
theorem dL_set_15 : decode cL_set 15 = .ok (.astore 5, 2) := by decide +kernel
theorem dL_set_17 : decode cL_set 17 = .ok (.iconst 1, 1) := by decide +kernel
theorem dL_set_18 : decode cL_set 18 = .ok (.ireturn, 1) := by decide +kernel
theorem dL_set_19 : decode cL_set 19 = .ok (.astore 5, 2) := by decide +kernel
theorem dL_set_21 : decode cL_set 21 = .ok (.iconst 2, 1) := by decide +kernel
theorem dL_set_22 : decode cL_set 22 = .ok (.ireturn, 1) := by decide +kernel
theorem dL_set_23 : decode cL_set 23 = .ok (.astore 5, 2) := by decide +kernel
theorem dL_set_25 : decode cL_set 25 = .ok (.iconst 3, 1) := by decide +kernel
theorem dL_set_26 : decode cL_set 26 = .ok (.ireturn, 1) := by decide +kernel
theorem dL_set_27 : decode cL_set 27 = .ok (.iconst 0, 1) := by decide +kernel
theorem dL_set_28 : decode cL_set 28 = .ok (.ireturn, 1) := by decide +kernel
set_option maxRecDepth 20000 in
theorem ggL_setStart_X7_setStart : GoodIn wsL_setStart wsX7_setStart := goodIn_ca (goodIn_r _ [6, 7, 8, 9, 5, 10, 11, 12, 13, 14, 15, 16, 17, 18, 19, 20, 21, 22, 23, 24, 25, 26, 27, 28, 29, 30, 31, 32] (by decide +kernel) (by decide +kernel)) (goodIn_sub (fun _ h => List.mem_cons_of_mem _ (List.mem_append_right _ h)) (by decide +kernel))
set_option maxRecDepth 20000 in
theorem gL_setStart_X7_setStart : GoodIn wsL_setStart (wsV RL 23 RX7 yX7_setStart wsX7_setStart) := goodIn_app (goodIn_of _ (by decide +kernel)) ggL_setStart_X7_setStart
theorem dL_setStart_0 : decode cL_setStart 0 = .ok (.aload_n 3, 1) := by decide +kernel
theorem dL_setStart_1 : decode cL_setStart 1 = .ok (.iconst 0, 1) := by decide +kernel
theorem dL_setStart_2 : decode cL_setStart 2 = .ok (.aload_n 0, 1) := by decide +kernel
theorem dL_setStart_3 : decode cL_setStart 3 = .ok (.iload_n 1, 1) := by decide +kernel
theorem dL_setStart_4 : decode cL_setStart 4 = .ok (.iload_n 2, 1) := by decide +kernel
theorem dL_setStart_5 : decode cL_setStart 5 = .ok (.invokevirtual 23, 3) := by decide +kernel
theorem dL_setStart_8 : decode cL_setStart 8 = .ok (.i2l, 1) := by decide +kernel
theorem dL_setStart_9 : decode cL_setStart 9 = .ok (.lastore, 1) := by decide +kernel
theorem dL_setStart_10 : decode cL_setStart 10 = .ok (.goto 7, 3) := by decide +kernel
theorem dL_setStart_13 : decode cL_setStart 13 = .ok (.astore 4, 2) := by decide +kernel
theorem dL_setStart_15 : decode cL_setStart 15 = .ok (.iconst 1, 1) := by decide +kernel
theorem dL_setStart_16 : decode cL_setStart 16 = .ok (.ireturn, 1) := by decide +kernel
theorem dL_setStart_17 : decode cL_setStart 17 = .ok (.iconst 0, 1) := by decide +kernel
theorem dL_setStart_18 : decode cL_setStart 18 = .ok (.ireturn, 1) := by decide +kernel
set_option maxRecDepth 20000 in
theorem ggL_undo_X7_undo : GoodIn wsL_undo wsX7_undo := goodIn_ca (goodIn_ca (goodIn_r _ [7, 8, 9, 10, 11, 12, 6, 13, 14, 15, 16, 17, 18, 19, 20, 21, 22, 23, 24, 25, 26, 27, 28, 29, 30, 31, 32, 33, 34, 35, 36, 37, 38, 39, 40, 41, 42, 43, 44, 45, 46, 47, 48, 49, 50, 51, 52, 53, 54, 55, 56, 57, 58, 59, 60, 61, 62, 63, 64, 65, 66, 67, 68, 69, 70, 71, 72, 73, 74, 75, 76, 77, 78, 79] (by decide +kernel) (by decide +kernel)) (goodIn_sub (fun _ h => List.mem_cons_of_mem _ (List.mem_append_left _ (List.mem_append_right _ h))) (by decide +kernel))) (goodIn_sub (fun _ h => List.mem_cons_of_mem _ (List.mem_append_right _ h)) (by decide +kernel))
set_option maxRecDepth 20000 in
theorem gL_undo_X7_undo : GoodIn wsL_undo (wsV RL 27 RX7 yX7_undo wsX7_undo) := goodIn_app (goodIn_of _ (by decide +kernel)) ggL_undo_X7_undo
theorem dL_undo_0 : decode cL_undo 0 = .ok (.aload_n 2, 1) := by decide +kernel
theorem dL_undo_1 : decode cL_undo 1 = .ok (.iconst 0, 1) := by decide +kernel
theorem dL_undo_2 : decode cL_undo 2 = .ok (.aload_n 0, 1) := by decide +kernel
theorem dL_undo_3 : decode cL_undo 3 = .ok (.iload_n 1, 1) := by decide +kernel
theorem dL_undo_4 : decode cL_undo 4 = .ok (.invokevirtual 27, 3) := by decide +kernel
theorem dL_undo_7 : decode cL_undo 7 = .ok (.i2l, 1) := by decide +kernel
theorem dL_undo_8 : decode cL_undo 8 = .ok (.lastore, 1) := by decide +kernel
theorem dL_undo_9 : decode cL_undo 9 = .ok (.goto 9, 3) := by decide +kernel
theorem dL_undo_12 : decode cL_undo 12 = .ok (.astore_n 3, 1) := by decide +kernel
theorem dL_undo_13 : decode cL_undo 13 = .ok (.iconst 1, 1) := by decide +kernel
theorem dL_undo_14 : decode cL_undo 14 = .ok (.ireturn, 1) := by decide +kernel
theorem dL_undo_15 : decode cL_undo 15 = .ok (.astore_n 3, 1) := by decide +kernel
theorem dL_undo_16 : decode cL_undo 16 = .ok (.iconst 2, 1) := by decide +kernel
theorem dL_undo_17 : decode cL_undo 17 = .ok (.ireturn, 1) := by decide +kernel
theorem dL_undo_18 : decode cL_undo 18 = .ok (.iconst 0, 1) := by decide +kernel
theorem dL_undo_19 : decode cL_undo 19 = .ok (.ireturn, 1) := by decide +kernel
set_option maxRecDepth 20000 in
theorem ggL_redo_X7_redo : GoodIn wsL_redo wsX7_redo := goodIn_ca (goodIn_ca (goodIn_r _ [7, 8, 9, 10, 11, 12, 6, 13, 14, 15, 16, 17, 18, 19, 20, 21, 22, 23, 24, 25, 26, 27, 28, 29, 30, 31, 32, 33, 34, 35, 36, 37, 38, 39, 40, 41, 42, 43, 44, 45, 46, 47, 48, 49, 50, 51, 52, 53, 54, 55, 56, 57, 58, 59, 60, 61, 62, 63, 64, 65, 66, 67, 68, 69, 70, 71, 72, 73, 74, 75, 76, 77, 78, 79] (by decide +kernel) (by decide +kernel)) (goodIn_sub (fun _ h => List.mem_cons_of_mem _ (List.mem_append_left _ (List.mem_append_right _ h))) (by decide +kernel))) (goodIn_sub (fun _ h => List.mem_cons_of_mem _ (List.mem_append_right _ h)) (by decide +kernel))
set_option maxRecDepth 20000 in
theorem gL_redo_X7_redo : GoodIn wsL_redo (wsV RL 30 RX7 yX7_redo wsX7_redo) := goodIn_app (goodIn_of _ (by decide +kernel)) ggL_redo_X7_redo
theorem dL_redo_0 : decode cL_redo 0 = .ok (.aload_n 2, 1) := by decide +kernel
theorem dL_redo_1 : decode cL_redo 1 = .ok (.iconst 0, 1) := by decide +kernel
theorem dL_redo_2 : decode cL_redo 2 = .ok (.aload_n 0, 1) := by decide +kernel
theorem dL_redo_3 : decode cL_redo 3 = .ok (.iload_n 1, 1) := by decide +kernel
theorem dL_redo_4 : decode cL_redo 4 = .ok (.invokevirtual 30, 3) := by decide +kernel
theorem dL_redo_7 : decode cL_redo 7 = .ok (.i2l, 1) := by decide +kernel
theorem dL_redo_8 : decode cL_redo 8 = .ok (.lastore, 1) := by decide +kernel
theorem dL_redo_9 : decode cL_redo 9 = .ok (.goto 9, 3) := by decide +kernel
theorem dL_redo_12 : decode cL_redo 12 = .ok (.astore_n 3, 1) := by decide +kernel
theorem dL_redo_13 : decode cL_redo 13 = .ok (.iconst 1, 1) := by decide +kernel
theorem dL_redo_14 : decode cL_redo 14 = .ok (.ireturn, 1) := by decide +kernel
theorem dL_redo_15 : decode cL_redo 15 = .ok (.astore_n 3, 1) := by decide +kernel
theorem dL_redo_16 : decode cL_redo 16 = .ok (.iconst 2, 1) := by decide +kernel
theorem dL_redo_17 : decode cL_redo 17 = .ok (.ireturn, 1) := by decide +kernel
theorem dL_redo_18 : decode cL_redo 18 = .ok (.iconst 0, 1) := by decide +kernel
theorem dL_redo_19 : decode cL_redo 19 = .ok (.ireturn, 1) := by decide +kernel
set_option maxRecDepth 20000 in
theorem ggL_setSpring_X7_setSpring : GoodIn wsL_setSpring wsX7_setSpring := goodIn_ca (goodIn_ca (goodIn_r _ [7, 8, 9, 10, 11, 12, 13, 14, 6, 15, 16, 17, 18, 19, 20, 21, 22, 23, 24, 25, 26, 27, 28, 29, 30, 31, 32, 33, 34, 35, 36, 37, 38, 39, 40, 41, 42, 43, 44, 45, 46, 47, 48, 49, 50, 51, 52, 53, 54, 55, 56, 57, 58, 59, 60, 61, 62, 63, 64, 65, 66, 67, 68, 69, 70, 71, 72, 73, 74, 75, 76, 77, 78, 79, 80, 81, 82, 83, 84, 85, 86, 87, 88, 89, 90, 91, 92, 93, 94, 95, 96, 97, 98, 99, 100, 101, 102, 103, 104, 105, 106, 107, 108, 109, 110, 111, 112, 113, 114, 115, 116, 117, 118, 119, 120, 121, 122, 123, 124, 125, 126, 127, 128, 129, 130, 131, 132, 133, 134, 135, 136, 137, 138, 139, 140, 141, 142, 143, 144, 145, 146, 147, 148, 149, 150, 151, 152, 153, 154, 155, 156, 157, 158, 159, 160, 161, 162, 163, 164, 165, 166, 167, 168, 169, 170, 171, 172, 173, 174, 175, 176, 177, 178, 179, 180, 181] (by decide +kernel) (by decide +kernel)) (goodIn_sub (fun _ h => List.mem_cons_of_mem _ (List.mem_append_left _ (List.mem_append_right _ h))) (by decide +kernel))) (goodIn_sub (fun _ h => List.mem_cons_of_mem _ (List.mem_append_right _ h)) (by decide +kernel))
set_option maxRecDepth 20000 in
theorem gL_setSpring_X7_setSpring : GoodIn wsL_setSpring (wsV RL 33 RX7 yX7_setSpring wsX7_setSpring) := goodIn_app (goodIn_of _ (by decide +kernel)) ggL_setSpring_X7_setSpring
theorem dL_setSpring_0 : decode cL_setSpring 0 = .ok (.aload_n 3, 1) := by decide +kernel
theorem dL_setSpring_1 : decode cL_setSpring 1 = .ok (.iconst 0, 1) := by decide +kernel
theorem dL_setSpring_2 : decode cL_setSpring 2 = .ok (.aload_n 0, 1) := by decide +kernel
theorem dL_setSpring_3 : decode cL_setSpring 3 = .ok (.iload_n 1, 1) := by decide +kernel
theorem dL_setSpring_4 : decode cL_setSpring 4 = .ok (.iload_n 2, 1) := by decide +kernel
theorem dL_setSpring_5 : decode cL_setSpring 5 = .ok (.invokevirtual 33, 3) := by decide +kernel
theorem dL_setSpring_8 : decode cL_setSpring 8 = .ok (.i2l, 1) := by decide +kernel
theorem dL_setSpring_9 : decode cL_setSpring 9 = .ok (.lastore, 1) := by decide +kernel
theorem dL_setSpring_10 : decode cL_setSpring 10 = .ok (.goto 11, 3) := by decide +kernel
theorem dL_setSpring_13 : decode cL_setSpring 13 = .ok (.astore 4, 2) := by decide +kernel
theorem dL_setSpring_15 : decode cL_setSpring 15 = .ok (.iconst 1, 1) := by decide +kernel
theorem dL_setSpring_16 : decode cL_setSpring 16 = .ok (.ireturn, 1) := by decide +kernel
theorem dL_setSpring_17 : decode cL_setSpring 17 = .ok (.astore 4, 2) := by decide +kernel
theorem dL_setSpring_19 : decode cL_setSpring 19 = .ok (.iconst 2, 1) := by decide +kernel
theorem dL_setSpring_20 : decode cL_setSpring 20 = .ok (.ireturn, 1) := by decide +kernel
theorem dL_setSpring_21 : decode cL_setSpring 21 = .ok (.iconst 0, 1) := by decide +kernel
theorem dL_setSpring_22 : decode cL_setSpring 22 = .ok (.ireturn, 1) := by decide +kernel
set_option maxRecDepth 20000 in
theorem ggL_prove_X7_prove : GoodIn wsL_prove wsX7_prove := goodIn_ca (goodIn_r _ [6, 7, 8, 9, 10, 5, 11, 12, 13, 14, 15, 16, 17, 18, 19, 20, 21, 22, 23, 24, 25, 26, 27, 28, 29, 30, 31, 32, 33, 34, 35, 36, 37, 38, 39, 40, 41, 42, 43, 44, 45, 46, 47, 48, 49, 50, 51, 52, 53, 54, 55, 56, 57, 58, 59, 60, 61, 62, 63, 64, 65, 66, 67, 68, 69, 70, 71, 72, 73, 74, 75, 76, 77, 78, 79, 80, 81, 82, 83, 84, 85, 86, 87, 88, 89, 90, 91, 92, 93, 94, 95, 96, 97, 98, 99, 100, 101, 102, 103, 104, 105, 106, 107, 108, 109, 110, 111, 112, 113, 114, 115, 116, 117, 118, 119, 120, 121, 122, 123, 124, 125, 126, 127, 128, 129, 130, 131, 132, 133, 134, 135, 136, 137, 138] (by decide +kernel) (by decide +kernel)) (goodIn_sub (fun _ h => List.mem_cons_of_mem _ (List.mem_append_right _ h)) (by decide +kernel))
set_option maxRecDepth 20000 in
theorem gL_prove_X7_prove : GoodIn wsL_prove (wsV RL 36 RX7 yX7_prove wsX7_prove) := goodIn_app (goodIn_of _ (by decide +kernel)) ggL_prove_X7_prove
theorem dL_prove_0 : decode cL_prove 0 = .ok (.aload_n 2, 1) := by decide +kernel
theorem dL_prove_1 : decode cL_prove 1 = .ok (.iconst 0, 1) := by decide +kernel
theorem dL_prove_2 : decode cL_prove 2 = .ok (.aload_n 0, 1) := by decide +kernel
theorem dL_prove_3 : decode cL_prove 3 = .ok (.iload_n 1, 1) := by decide +kernel
theorem dL_prove_4 : decode cL_prove 4 = .ok (.invokevirtual 36, 3) := by decide +kernel
theorem dL_prove_7 : decode cL_prove 7 = .ok (.i2l, 1) := by decide +kernel
theorem dL_prove_8 : decode cL_prove 8 = .ok (.lastore, 1) := by decide +kernel
theorem dL_prove_9 : decode cL_prove 9 = .ok (.goto 6, 3) := by decide +kernel
theorem dL_prove_12 : decode cL_prove 12 = .ok (.astore_n 3, 1) := by decide +kernel
theorem dL_prove_13 : decode cL_prove 13 = .ok (.iconst 1, 1) := by decide +kernel
theorem dL_prove_14 : decode cL_prove 14 = .ok (.ireturn, 1) := by decide +kernel
theorem dL_prove_15 : decode cL_prove 15 = .ok (.iconst 0, 1) := by decide +kernel
theorem dL_prove_16 : decode cL_prove 16 = .ok (.ireturn, 1) := by decide +kernel
set_option maxRecDepth 20000 in
theorem ggL_offer_X7_offer : GoodIn wsL_offer wsX7_offer := goodIn_ca (goodIn_ca (goodIn_r _ [7, 8, 9, 10, 11, 12, 13, 14, 15, 16, 17, 6, 18, 19, 20, 21, 22, 23, 24, 25, 26, 27, 28, 29, 30, 31, 32, 33, 34, 35, 36, 37, 38, 39, 40, 41, 42, 43, 44, 45, 46, 47, 48, 49, 50, 51, 52, 53, 54, 55, 56, 57, 58, 59, 60, 61, 62, 63, 64, 65, 66, 67, 68, 69, 70, 71, 72, 73, 74, 75, 76, 77, 78, 79, 80, 81, 82, 83, 84, 85, 86, 87] (by decide +kernel) (by decide +kernel)) (goodIn_sub (fun _ h => List.mem_cons_of_mem _ (List.mem_append_left _ (List.mem_append_right _ h))) (by decide +kernel))) (goodIn_sub (fun _ h => List.mem_cons_of_mem _ (List.mem_append_right _ h)) (by decide +kernel))
set_option maxRecDepth 20000 in
theorem gL_offer_X7_offer : GoodIn wsL_offer (wsV RL 39 RX7 yX7_offer wsX7_offer) := goodIn_app (goodIn_of _ (by decide +kernel)) ggL_offer_X7_offer
theorem dL_offer_0 : decode cL_offer 0 = .ok (.aload_n 2, 1) := by decide +kernel
theorem dL_offer_1 : decode cL_offer 1 = .ok (.iconst 0, 1) := by decide +kernel
theorem dL_offer_2 : decode cL_offer 2 = .ok (.aload_n 0, 1) := by decide +kernel
theorem dL_offer_3 : decode cL_offer 3 = .ok (.iload_n 1, 1) := by decide +kernel
theorem dL_offer_4 : decode cL_offer 4 = .ok (.invokevirtual 39, 3) := by decide +kernel
theorem dL_offer_7 : decode cL_offer 7 = .ok (.i2l, 1) := by decide +kernel
theorem dL_offer_8 : decode cL_offer 8 = .ok (.lastore, 1) := by decide +kernel
theorem dL_offer_9 : decode cL_offer 9 = .ok (.goto 9, 3) := by decide +kernel
theorem dL_offer_12 : decode cL_offer 12 = .ok (.astore_n 3, 1) := by decide +kernel
theorem dL_offer_13 : decode cL_offer 13 = .ok (.iconst 1, 1) := by decide +kernel
theorem dL_offer_14 : decode cL_offer 14 = .ok (.ireturn, 1) := by decide +kernel
theorem dL_offer_15 : decode cL_offer 15 = .ok (.astore_n 3, 1) := by decide +kernel
theorem dL_offer_16 : decode cL_offer 16 = .ok (.iconst 2, 1) := by decide +kernel
theorem dL_offer_17 : decode cL_offer 17 = .ok (.ireturn, 1) := by decide +kernel
theorem dL_offer_18 : decode cL_offer 18 = .ok (.iconst 0, 1) := by decide +kernel
theorem dL_offer_19 : decode cL_offer 19 = .ok (.ireturn, 1) := by decide +kernel
set_option maxRecDepth 20000 in
theorem ggL_copy_X7_copy : GoodIn wsL_copy wsX7_copy := goodIn_ca (goodIn_ca (goodIn_r _ [7, 8, 9, 10, 11, 6, 12, 13, 14, 15, 16, 17, 18, 19, 20, 21, 22, 23, 24, 25, 26, 27, 28, 29, 30, 31, 32, 33, 34, 35, 36, 37, 38, 39, 40, 41, 42, 43, 44, 45, 46, 47, 48, 49, 50, 51, 52, 53, 54, 55, 56, 57, 58, 59, 60, 61, 62, 63, 64, 65, 66, 67, 68, 69, 70, 71, 72, 73, 74, 75, 76, 77, 78, 79, 80, 81, 82, 83, 84, 85, 86, 87, 88, 89, 90, 91, 92, 93, 94, 95, 96, 97, 98, 99, 100, 101, 102, 103, 104, 105, 106, 107, 108, 109, 110, 111] (by decide +kernel) (by decide +kernel)) (goodIn_sub (fun _ h => List.mem_cons_of_mem _ (List.mem_append_left _ (List.mem_append_right _ h))) (by decide +kernel))) (goodIn_sub (fun _ h => List.mem_cons_of_mem _ (List.mem_append_right _ h)) (by decide +kernel))
set_option maxRecDepth 20000 in
theorem gL_copy_X7_copy : GoodIn wsL_copy (wsV RL 42 RX7 yX7_copy wsX7_copy) := goodIn_app (goodIn_of _ (by decide +kernel)) ggL_copy_X7_copy
theorem dL_copy_0 : decode cL_copy 0 = .ok (.aload_n 3, 1) := by decide +kernel
theorem dL_copy_1 : decode cL_copy 1 = .ok (.iconst 0, 1) := by decide +kernel
theorem dL_copy_2 : decode cL_copy 2 = .ok (.aload_n 0, 1) := by decide +kernel
theorem dL_copy_3 : decode cL_copy 3 = .ok (.iload_n 1, 1) := by decide +kernel
theorem dL_copy_4 : decode cL_copy 4 = .ok (.iload_n 2, 1) := by decide +kernel
theorem dL_copy_5 : decode cL_copy 5 = .ok (.invokevirtual 42, 3) := by decide +kernel
theorem dL_copy_8 : decode cL_copy 8 = .ok (.i2l, 1) := by decide +kernel
theorem dL_copy_9 : decode cL_copy 9 = .ok (.lastore, 1) := by decide +kernel
theorem dL_copy_10 : decode cL_copy 10 = .ok (.goto 11, 3) := by decide +kernel
theorem dL_copy_13 : decode cL_copy 13 = .ok (.astore 4, 2) := by decide +kernel
theorem dL_copy_15 : decode cL_copy 15 = .ok (.iconst 1, 1) := by decide +kernel
theorem dL_copy_16 : decode cL_copy 16 = .ok (.ireturn, 1) := by decide +kernel
theorem dL_copy_17 : decode cL_copy 17 = .ok (.astore 4, 2) := by decide +kernel
theorem dL_copy_19 : decode cL_copy 19 = .ok (.iconst 2, 1) := by decide +kernel
theorem dL_copy_20 : decode cL_copy 20 = .ok (.ireturn, 1) := by decide +kernel
theorem dL_copy_21 : decode cL_copy 21 = .ok (.iconst 0, 1) := by decide +kernel
theorem dL_copy_22 : decode cL_copy 22 = .ok (.ireturn, 1) := by decide +kernel
set_option maxRecDepth 20000 in
theorem ggL_star_X7_star : GoodIn wsL_star wsX7_star := goodIn_ca (goodIn_ca (goodIn_ca (goodIn_r _ [8, 9, 10, 11, 12, 13, 14, 15, 7, 16, 17, 18, 19, 20, 21, 22, 23, 24, 25, 26, 27, 28, 29, 30, 31, 32, 33, 34, 35, 36, 37, 38, 39, 40] (by decide +kernel) (by decide +kernel)) (goodIn_sub (fun _ h => List.mem_cons_of_mem _ (List.mem_append_left _ (List.mem_append_left _ (List.mem_append_right _ h)))) (by decide +kernel))) (goodIn_sub (fun _ h => List.mem_cons_of_mem _ (List.mem_append_left _ (List.mem_append_right _ h))) (by decide +kernel))) (goodIn_sub (fun _ h => List.mem_cons_of_mem _ (List.mem_append_right _ h)) (by decide +kernel))
set_option maxRecDepth 20000 in
theorem gL_star_X7_star : GoodIn wsL_star (wsV RL 45 RX7 yX7_star wsX7_star) := goodIn_app (goodIn_of _ (by decide +kernel)) ggL_star_X7_star
theorem dL_star_0 : decode cL_star 0 = .ok (.aload 4, 2) := by decide +kernel
theorem dL_star_2 : decode cL_star 2 = .ok (.iconst 0, 1) := by decide +kernel
theorem dL_star_3 : decode cL_star 3 = .ok (.aload_n 0, 1) := by decide +kernel
theorem dL_star_4 : decode cL_star 4 = .ok (.iload_n 1, 1) := by decide +kernel
theorem dL_star_5 : decode cL_star 5 = .ok (.iload_n 2, 1) := by decide +kernel
theorem dL_star_6 : decode cL_star 6 = .ok (.iload_n 3, 1) := by decide +kernel
theorem dL_star_7 : decode cL_star 7 = .ok (.invokevirtual 45, 3) := by decide +kernel
theorem dL_star_10 : decode cL_star 10 = .ok (.i2l, 1) := by decide +kernel
theorem dL_star_11 : decode cL_star 11 = .ok (.lastore, 1) := by decide +kernel
theorem dL_star_12 : decode cL_star 12 = .ok (.goto 15, 3) := by decide +kernel
theorem dL_star_15 : decode cL_star 15 = .ok (.astore 5, 2) := by decide +kernel
theorem dL_star_17 : decode cL_star 17 = .ok (.iconst 1, 1) := by decide +kernel
theorem dL_star_18 : decode cL_star 18 = .ok (.ireturn, 1) := by decide +kernel
theorem dL_star_19 : decode cL_star 19 = .ok (.astore 5, 2) := by decide +kernel
theorem dL_star_21 : decode cL_star 21 = .ok (.iconst 2, 1) := by decide +kernel
theorem dL_star_22 : decode cL_star 22 = .ok (.ireturn, 1) := by decide +kernel
theorem dL_star_23 : decode cL_star 23 = .ok (.astore 5, 2) := by decide +kernel
theorem dL_star_25 : decode cL_star 25 = .ok (.iconst 3, 1) := by decide +kernel
theorem dL_star_26 : decode cL_star 26 = .ok (.ireturn, 1) := by decide +kernel
theorem dL_star_27 : decode cL_star 27 = .ok (.iconst 0, 1) := by decide +kernel
theorem dL_star_28 : decode cL_star 28 = .ok (.ireturn, 1) := by decide +kernel
set_option maxRecDepth 20000 in
theorem ggL_run_X7_run : GoodIn wsL_run wsX7_run := goodIn_ca (goodIn_ca (goodIn_r _ [7, 8, 9, 10, 6, 11, 12, 13, 14, 15, 16, 17, 18, 19, 20, 21, 22, 23, 24, 25, 26, 27, 28, 29, 30, 31, 32, 33, 34, 35, 36, 37, 38, 39, 40, 41, 42, 43, 44, 45, 46, 47, 48, 49, 50, 51, 52, 53, 54, 55, 56, 57, 58, 59, 60, 61, 62, 63, 64, 65, 66, 67, 68, 69, 70, 71, 72, 73, 74, 75, 76, 77, 78, 79, 80, 81, 82, 83, 84, 85, 86, 87, 88, 89, 90, 91, 92, 93, 94, 95, 96, 97, 98, 99, 100] (by decide +kernel) (by decide +kernel)) (goodIn_sub (fun _ h => List.mem_cons_of_mem _ (List.mem_append_left _ (List.mem_append_right _ h))) (by decide +kernel))) (goodIn_sub (fun _ h => List.mem_cons_of_mem _ (List.mem_append_right _ h)) (by decide +kernel))
set_option maxRecDepth 20000 in
theorem gL_run_X7_run : GoodIn wsL_run (wsV RL 48 RX7 yX7_run wsX7_run) := goodIn_app (goodIn_of _ (by decide +kernel)) ggL_run_X7_run
theorem dL_run_0 : decode cL_run 0 = .ok (.aload_n 3, 1) := by decide +kernel
theorem dL_run_1 : decode cL_run 1 = .ok (.iconst 0, 1) := by decide +kernel
theorem dL_run_2 : decode cL_run 2 = .ok (.aload_n 0, 1) := by decide +kernel
theorem dL_run_3 : decode cL_run 3 = .ok (.iload_n 1, 1) := by decide +kernel
theorem dL_run_4 : decode cL_run 4 = .ok (.iload_n 2, 1) := by decide +kernel
theorem dL_run_5 : decode cL_run 5 = .ok (.invokevirtual 48, 3) := by decide +kernel
theorem dL_run_8 : decode cL_run 8 = .ok (.i2l, 1) := by decide +kernel
theorem dL_run_9 : decode cL_run 9 = .ok (.lastore, 1) := by decide +kernel
theorem dL_run_10 : decode cL_run 10 = .ok (.goto 11, 3) := by decide +kernel
theorem dL_run_13 : decode cL_run 13 = .ok (.astore 4, 2) := by decide +kernel
theorem dL_run_15 : decode cL_run 15 = .ok (.iconst 1, 1) := by decide +kernel
theorem dL_run_16 : decode cL_run 16 = .ok (.ireturn, 1) := by decide +kernel
theorem dL_run_17 : decode cL_run 17 = .ok (.astore 4, 2) := by decide +kernel
theorem dL_run_19 : decode cL_run 19 = .ok (.iconst 2, 1) := by decide +kernel
theorem dL_run_20 : decode cL_run 20 = .ok (.ireturn, 1) := by decide +kernel
theorem dL_run_21 : decode cL_run 21 = .ok (.iconst 0, 1) := by decide +kernel
theorem dL_run_22 : decode cL_run 22 = .ok (.ireturn, 1) := by decide +kernel
set_option maxRecDepth 20000 in
theorem ggL_step_X7_step : GoodIn wsL_step wsX7_step := goodIn_ca (goodIn_ca (goodIn_ca (goodIn_r _ [8, 9, 10, 11, 12, 13, 14, 15, 7, 16, 17, 18, 19, 20, 21, 22, 23, 24, 25, 26, 27, 28, 29, 30, 31, 32, 33, 34, 35, 36, 37, 38, 39, 40, 41, 42, 43, 44, 45, 46, 47, 48, 49, 50, 51, 52, 53, 54, 55, 56, 57, 58, 59, 60, 61, 62, 63, 64, 65, 66, 67, 68, 69, 70, 71, 72, 73, 74, 75, 76, 77, 78, 79, 80, 81, 82, 83, 84, 85, 86, 87, 88, 89, 90, 91, 92, 93, 94, 95, 96, 97, 98, 99, 100, 101, 102, 103, 104, 105, 106, 107, 108, 109, 110, 111, 112, 113, 114, 115, 116] (by decide +kernel) (by decide +kernel)) (goodIn_sub (fun _ h => List.mem_cons_of_mem _ (List.mem_append_left _ (List.mem_append_left _ (List.mem_append_right _ h)))) (by decide +kernel))) (goodIn_sub (fun _ h => List.mem_cons_of_mem _ (List.mem_append_left _ (List.mem_append_right _ h))) (by decide +kernel))) (goodIn_sub (fun _ h => List.mem_cons_of_mem _ (List.mem_append_right _ h)) (by decide +kernel))
set_option maxRecDepth 20000 in
theorem gL_step_X7_step : GoodIn wsL_step (wsV RL 51 RX7 yX7_step wsX7_step) := goodIn_app (goodIn_of _ (by decide +kernel)) ggL_step_X7_step
theorem dL_step_0 : decode cL_step 0 = .ok (.aload_n 3, 1) := by decide +kernel
theorem dL_step_1 : decode cL_step 1 = .ok (.iconst 0, 1) := by decide +kernel
theorem dL_step_2 : decode cL_step 2 = .ok (.aload_n 0, 1) := by decide +kernel
theorem dL_step_3 : decode cL_step 3 = .ok (.iload_n 1, 1) := by decide +kernel
theorem dL_step_4 : decode cL_step 4 = .ok (.iload_n 2, 1) := by decide +kernel
theorem dL_step_5 : decode cL_step 5 = .ok (.invokevirtual 51, 3) := by decide +kernel
theorem dL_step_8 : decode cL_step 8 = .ok (.i2l, 1) := by decide +kernel
theorem dL_step_9 : decode cL_step 9 = .ok (.lastore, 1) := by decide +kernel
theorem dL_step_10 : decode cL_step 10 = .ok (.goto 15, 3) := by decide +kernel
theorem dL_step_13 : decode cL_step 13 = .ok (.astore 4, 2) := by decide +kernel
theorem dL_step_15 : decode cL_step 15 = .ok (.iconst 1, 1) := by decide +kernel
theorem dL_step_16 : decode cL_step 16 = .ok (.ireturn, 1) := by decide +kernel
theorem dL_step_17 : decode cL_step 17 = .ok (.astore 4, 2) := by decide +kernel
theorem dL_step_19 : decode cL_step 19 = .ok (.iconst 2, 1) := by decide +kernel
theorem dL_step_20 : decode cL_step 20 = .ok (.ireturn, 1) := by decide +kernel
theorem dL_step_21 : decode cL_step 21 = .ok (.astore 4, 2) := by decide +kernel
theorem dL_step_23 : decode cL_step 23 = .ok (.iconst 3, 1) := by decide +kernel
theorem dL_step_24 : decode cL_step 24 = .ok (.ireturn, 1) := by decide +kernel
theorem dL_step_25 : decode cL_step 25 = .ok (.iconst 0, 1) := by decide +kernel
theorem dL_step_26 : decode cL_step 26 = .ok (.ireturn, 1) := by decide +kernel
set_option maxRecDepth 20000 in
theorem ggL_at_X7_at : GoodIn wsL_at wsX7_at := goodIn_ca (goodIn_r _ [6, 7, 8, 9, 5, 10, 11, 12, 13, 14, 15, 16, 17, 18, 19, 20, 21, 22, 23, 24, 25, 26, 27, 28, 29, 30, 31, 32, 33, 34, 35, 36, 37, 38, 39, 40, 41] (by decide +kernel) (by decide +kernel)) (goodIn_sub (fun _ h => List.mem_cons_of_mem _ (List.mem_append_right _ h)) (by decide +kernel))
set_option maxRecDepth 20000 in
theorem gL_at_X7_at : GoodIn wsL_at (wsV RL 54 RX7 yX7_at wsX7_at) := goodIn_app (goodIn_of _ (by decide +kernel)) ggL_at_X7_at
theorem dL_at_0 : decode cL_at 0 = .ok (.aload_n 3, 1) := by decide +kernel
theorem dL_at_1 : decode cL_at 1 = .ok (.iconst 0, 1) := by decide +kernel
theorem dL_at_2 : decode cL_at 2 = .ok (.aload_n 0, 1) := by decide +kernel
theorem dL_at_3 : decode cL_at 3 = .ok (.iload_n 1, 1) := by decide +kernel
theorem dL_at_4 : decode cL_at 4 = .ok (.iload_n 2, 1) := by decide +kernel
theorem dL_at_5 : decode cL_at 5 = .ok (.invokevirtual 54, 3) := by decide +kernel
theorem dL_at_8 : decode cL_at 8 = .ok (.i2l, 1) := by decide +kernel
theorem dL_at_9 : decode cL_at 9 = .ok (.lastore, 1) := by decide +kernel
theorem dL_at_10 : decode cL_at 10 = .ok (.goto 7, 3) := by decide +kernel
theorem dL_at_13 : decode cL_at 13 = .ok (.astore 4, 2) := by decide +kernel
theorem dL_at_15 : decode cL_at 15 = .ok (.iconst 1, 1) := by decide +kernel
theorem dL_at_16 : decode cL_at 16 = .ok (.ireturn, 1) := by decide +kernel
theorem dL_at_17 : decode cL_at 17 = .ok (.iconst 0, 1) := by decide +kernel
theorem dL_at_18 : decode cL_at 18 = .ok (.ireturn, 1) := by decide +kernel
set_option maxRecDepth 20000 in
theorem ggL_start_X7_start : GoodIn wsL_start wsX7_start := goodIn_ca (goodIn_r _ [6, 7, 8, 9, 5, 10, 11, 12, 13, 14, 15, 16, 17, 18, 19, 20, 21, 22, 23, 24, 25, 26] (by decide +kernel) (by decide +kernel)) (goodIn_sub (fun _ h => List.mem_cons_of_mem _ (List.mem_append_right _ h)) (by decide +kernel))
set_option maxRecDepth 20000 in
theorem gL_start_X7_start : GoodIn wsL_start (wsV RL 57 RX7 yX7_start wsX7_start) := goodIn_app (goodIn_of _ (by decide +kernel)) ggL_start_X7_start
theorem dL_start_0 : decode cL_start 0 = .ok (.aload_n 2, 1) := by decide +kernel
theorem dL_start_1 : decode cL_start 1 = .ok (.iconst 0, 1) := by decide +kernel
theorem dL_start_2 : decode cL_start 2 = .ok (.aload_n 0, 1) := by decide +kernel
theorem dL_start_3 : decode cL_start 3 = .ok (.iload_n 1, 1) := by decide +kernel
theorem dL_start_4 : decode cL_start 4 = .ok (.invokevirtual 57, 3) := by decide +kernel
theorem dL_start_7 : decode cL_start 7 = .ok (.i2l, 1) := by decide +kernel
theorem dL_start_8 : decode cL_start 8 = .ok (.lastore, 1) := by decide +kernel
theorem dL_start_9 : decode cL_start 9 = .ok (.goto 6, 3) := by decide +kernel
theorem dL_start_12 : decode cL_start 12 = .ok (.astore_n 3, 1) := by decide +kernel
theorem dL_start_13 : decode cL_start 13 = .ok (.iconst 1, 1) := by decide +kernel
theorem dL_start_14 : decode cL_start 14 = .ok (.ireturn, 1) := by decide +kernel
theorem dL_start_15 : decode cL_start 15 = .ok (.iconst 0, 1) := by decide +kernel
theorem dL_start_16 : decode cL_start 16 = .ok (.ireturn, 1) := by decide +kernel
set_option maxRecDepth 20000 in
theorem ggL_edits_X7_edits : GoodIn wsL_edits wsX7_edits := goodIn_ca (goodIn_r _ [6, 7, 8, 9, 5, 10, 11, 12, 13, 14, 15, 16, 17, 18, 19, 20, 21, 22, 23, 24, 25, 26, 27, 28, 29, 30, 31] (by decide +kernel) (by decide +kernel)) (goodIn_sub (fun _ h => List.mem_cons_of_mem _ (List.mem_append_right _ h)) (by decide +kernel))
set_option maxRecDepth 20000 in
theorem gL_edits_X7_edits : GoodIn wsL_edits (wsV RL 60 RX7 yX7_edits wsX7_edits) := goodIn_app (goodIn_of _ (by decide +kernel)) ggL_edits_X7_edits
theorem dL_edits_0 : decode cL_edits 0 = .ok (.aload_n 3, 1) := by decide +kernel
theorem dL_edits_1 : decode cL_edits 1 = .ok (.iconst 0, 1) := by decide +kernel
theorem dL_edits_2 : decode cL_edits 2 = .ok (.aload_n 0, 1) := by decide +kernel
theorem dL_edits_3 : decode cL_edits 3 = .ok (.iload_n 1, 1) := by decide +kernel
theorem dL_edits_4 : decode cL_edits 4 = .ok (.iload_n 2, 1) := by decide +kernel
theorem dL_edits_5 : decode cL_edits 5 = .ok (.invokevirtual 60, 3) := by decide +kernel
theorem dL_edits_8 : decode cL_edits 8 = .ok (.i2l, 1) := by decide +kernel
theorem dL_edits_9 : decode cL_edits 9 = .ok (.lastore, 1) := by decide +kernel
theorem dL_edits_10 : decode cL_edits 10 = .ok (.goto 7, 3) := by decide +kernel
theorem dL_edits_13 : decode cL_edits 13 = .ok (.astore 4, 2) := by decide +kernel
theorem dL_edits_15 : decode cL_edits 15 = .ok (.iconst 1, 1) := by decide +kernel
theorem dL_edits_16 : decode cL_edits 16 = .ok (.ireturn, 1) := by decide +kernel
theorem dL_edits_17 : decode cL_edits 17 = .ok (.iconst 0, 1) := by decide +kernel
theorem dL_edits_18 : decode cL_edits 18 = .ok (.ireturn, 1) := by decide +kernel
set_option maxRecDepth 20000 in
theorem ggL_proof_X7_proof : GoodIn wsL_proof wsX7_proof := goodIn_ca (goodIn_r _ [6, 7, 8, 9, 5, 10, 11, 12, 13, 14, 15, 16, 17, 18, 19, 20, 21, 22, 23, 24, 25, 26] (by decide +kernel) (by decide +kernel)) (goodIn_sub (fun _ h => List.mem_cons_of_mem _ (List.mem_append_right _ h)) (by decide +kernel))
set_option maxRecDepth 20000 in
theorem gL_proof_X7_proof : GoodIn wsL_proof (wsV RL 64 RX7 yX7_proof wsX7_proof) := goodIn_app (goodIn_of _ (by decide +kernel)) ggL_proof_X7_proof
theorem dL_proof_0 : decode cL_proof 0 = .ok (.aload_n 2, 1) := by decide +kernel
theorem dL_proof_1 : decode cL_proof 1 = .ok (.iconst 0, 1) := by decide +kernel
theorem dL_proof_2 : decode cL_proof 2 = .ok (.aload_n 0, 1) := by decide +kernel
theorem dL_proof_3 : decode cL_proof 3 = .ok (.iload_n 1, 1) := by decide +kernel
theorem dL_proof_4 : decode cL_proof 4 = .ok (.invokevirtual 64, 3) := by decide +kernel
theorem dL_proof_7 : decode cL_proof 7 = .ok (.i2l, 1) := by decide +kernel
theorem dL_proof_8 : decode cL_proof 8 = .ok (.lastore, 1) := by decide +kernel
theorem dL_proof_9 : decode cL_proof 9 = .ok (.goto 6, 3) := by decide +kernel
theorem dL_proof_12 : decode cL_proof 12 = .ok (.astore_n 3, 1) := by decide +kernel
theorem dL_proof_13 : decode cL_proof 13 = .ok (.iconst 1, 1) := by decide +kernel
theorem dL_proof_14 : decode cL_proof 14 = .ok (.ireturn, 1) := by decide +kernel
theorem dL_proof_15 : decode cL_proof 15 = .ok (.iconst 0, 1) := by decide +kernel
theorem dL_proof_16 : decode cL_proof 16 = .ok (.ireturn, 1) := by decide +kernel
set_option maxRecDepth 20000 in
theorem ggL_shortest_X7_shortest : GoodIn wsL_shortest wsX7_shortest := goodIn_ca (goodIn_ca (goodIn_r _ [7, 8, 9, 10, 11, 12, 13, 6, 14, 15, 16, 17, 18, 19, 20, 21, 22, 23, 24, 25, 26, 27, 28, 29, 30, 31, 32, 33, 34, 35, 36, 37, 38, 39, 40, 41, 42, 43, 44, 45, 46, 47, 48, 49, 50, 51, 52, 53, 54, 55, 56, 57, 58, 59, 60, 61, 62, 63, 64, 65, 66, 67, 68, 69, 70, 71, 72, 73, 74, 75, 76, 77, 78, 79, 80, 81, 82, 83, 84, 85, 86, 87, 88, 89, 90, 91, 92, 93, 94, 95, 96, 97, 98, 99, 100, 101, 102, 103, 104, 105, 106, 107, 108, 109, 110, 111, 112, 113, 114, 115, 116, 117, 118, 119, 120, 121, 122, 123, 124, 125, 126, 127, 128, 129, 130, 131] (by decide +kernel) (by decide +kernel)) (goodIn_sub (fun _ h => List.mem_cons_of_mem _ (List.mem_append_left _ (List.mem_append_right _ h))) (by decide +kernel))) (goodIn_sub (fun _ h => List.mem_cons_of_mem _ (List.mem_append_right _ h)) (by decide +kernel))
set_option maxRecDepth 20000 in
theorem gL_shortest_X7_shortest : GoodIn wsL_shortest (wsV RL 67 RX7 yX7_shortest wsX7_shortest) := goodIn_app (goodIn_of _ (by decide +kernel)) ggL_shortest_X7_shortest
theorem dL_shortest_0 : decode cL_shortest 0 = .ok (.aload_n 3, 1) := by decide +kernel
theorem dL_shortest_1 : decode cL_shortest 1 = .ok (.iconst 0, 1) := by decide +kernel
theorem dL_shortest_2 : decode cL_shortest 2 = .ok (.aload_n 0, 1) := by decide +kernel
theorem dL_shortest_3 : decode cL_shortest 3 = .ok (.iload_n 1, 1) := by decide +kernel
theorem dL_shortest_4 : decode cL_shortest 4 = .ok (.iload_n 2, 1) := by decide +kernel
theorem dL_shortest_5 : decode cL_shortest 5 = .ok (.invokevirtual 67, 3) := by decide +kernel
theorem dL_shortest_8 : decode cL_shortest 8 = .ok (.i2l, 1) := by decide +kernel
theorem dL_shortest_9 : decode cL_shortest 9 = .ok (.lastore, 1) := by decide +kernel
theorem dL_shortest_10 : decode cL_shortest 10 = .ok (.goto 11, 3) := by decide +kernel
theorem dL_shortest_13 : decode cL_shortest 13 = .ok (.astore 4, 2) := by decide +kernel
theorem dL_shortest_15 : decode cL_shortest 15 = .ok (.iconst 1, 1) := by decide +kernel
theorem dL_shortest_16 : decode cL_shortest 16 = .ok (.ireturn, 1) := by decide +kernel
theorem dL_shortest_17 : decode cL_shortest 17 = .ok (.astore 4, 2) := by decide +kernel
theorem dL_shortest_19 : decode cL_shortest 19 = .ok (.iconst 2, 1) := by decide +kernel
theorem dL_shortest_20 : decode cL_shortest 20 = .ok (.ireturn, 1) := by decide +kernel
theorem dL_shortest_21 : decode cL_shortest 21 = .ok (.iconst 0, 1) := by decide +kernel
theorem dL_shortest_22 : decode cL_shortest 22 = .ok (.ireturn, 1) := by decide +kernel
set_option maxRecDepth 20000 in
theorem ggL_reach_X7_reach : GoodIn wsL_reach wsX7_reach := goodIn_ca (goodIn_r _ [6, 7, 8, 9, 10, 5, 11, 12, 13, 14, 15, 16, 17, 18, 19, 20, 21, 22, 23, 24, 25, 26, 27, 28, 29, 30, 31, 32, 33, 34, 35, 36, 37, 38, 39, 40, 41, 42, 43, 44, 45, 46, 47, 48, 49, 50, 51, 52, 53, 54, 55, 56, 57, 58, 59, 60, 61, 62, 63, 64, 65, 66, 67, 68, 69, 70, 71, 72, 73, 74, 75, 76, 77, 78, 79, 80, 81, 82, 83, 84, 85, 86, 87, 88, 89, 90, 91, 92, 93, 94, 95, 96, 97, 98, 99, 100, 101, 102, 103, 104, 105, 106, 107, 108, 109, 110, 111, 112, 113, 114, 115, 116, 117, 118, 119, 120, 121, 122, 123, 124, 125, 126, 127, 128, 129, 130, 131, 132, 133, 134, 135, 136, 137, 138, 139, 140, 141, 142] (by decide +kernel) (by decide +kernel)) (goodIn_sub (fun _ h => List.mem_cons_of_mem _ (List.mem_append_right _ h)) (by decide +kernel))
set_option maxRecDepth 20000 in
theorem gL_reach_X7_reach : GoodIn wsL_reach (wsV RL 70 RX7 yX7_reach wsX7_reach) := goodIn_app (goodIn_of _ (by decide +kernel)) ggL_reach_X7_reach
theorem dL_reach_0 : decode cL_reach 0 = .ok (.aload_n 2, 1) := by decide +kernel
theorem dL_reach_1 : decode cL_reach 1 = .ok (.iconst 0, 1) := by decide +kernel
theorem dL_reach_2 : decode cL_reach 2 = .ok (.aload_n 0, 1) := by decide +kernel
theorem dL_reach_3 : decode cL_reach 3 = .ok (.iload_n 1, 1) := by decide +kernel
theorem dL_reach_4 : decode cL_reach 4 = .ok (.invokevirtual 70, 3) := by decide +kernel
theorem dL_reach_7 : decode cL_reach 7 = .ok (.i2l, 1) := by decide +kernel
theorem dL_reach_8 : decode cL_reach 8 = .ok (.lastore, 1) := by decide +kernel
theorem dL_reach_9 : decode cL_reach 9 = .ok (.goto 6, 3) := by decide +kernel
theorem dL_reach_12 : decode cL_reach 12 = .ok (.astore_n 3, 1) := by decide +kernel
theorem dL_reach_13 : decode cL_reach 13 = .ok (.iconst 1, 1) := by decide +kernel
theorem dL_reach_14 : decode cL_reach 14 = .ok (.ireturn, 1) := by decide +kernel
theorem dL_reach_15 : decode cL_reach 15 = .ok (.iconst 0, 1) := by decide +kernel
theorem dL_reach_16 : decode cL_reach 16 = .ok (.ireturn, 1) := by decide +kernel
set_option maxRecDepth 20000 in
theorem ggL_farthest_X7_farthest : GoodIn wsL_farthest wsX7_farthest := goodIn_ca (goodIn_r _ [6, 7, 8, 9, 10, 5, 11, 12, 13, 14, 15, 16, 17, 18, 19, 20, 21, 22, 23, 24, 25, 26, 27, 28, 29, 30, 31, 32, 33, 34, 35, 36, 37, 38, 39, 40, 41, 42, 43, 44, 45, 46, 47, 48, 49, 50, 51, 52, 53, 54, 55, 56, 57, 58, 59, 60, 61, 62, 63, 64, 65, 66, 67, 68, 69, 70, 71, 72, 73, 74, 75, 76, 77, 78, 79, 80, 81, 82, 83, 84, 85, 86, 87, 88, 89, 90, 91, 92, 93, 94, 95, 96, 97, 98, 99, 100, 101, 102, 103, 104, 105, 106, 107, 108, 109, 110, 111, 112, 113, 114, 115, 116, 117, 118, 119, 120, 121, 122, 123, 124, 125, 126, 127, 128, 129, 130, 131, 132, 133, 134, 135, 136, 137, 138, 139, 140, 141, 142] (by decide +kernel) (by decide +kernel)) (goodIn_sub (fun _ h => List.mem_cons_of_mem _ (List.mem_append_right _ h)) (by decide +kernel))
set_option maxRecDepth 20000 in
theorem gL_farthest_X7_farthest : GoodIn wsL_farthest (wsV RL 73 RX7 yX7_farthest wsX7_farthest) := goodIn_app (goodIn_of _ (by decide +kernel)) ggL_farthest_X7_farthest
theorem dL_farthest_0 : decode cL_farthest 0 = .ok (.aload_n 2, 1) := by decide +kernel
theorem dL_farthest_1 : decode cL_farthest 1 = .ok (.iconst 0, 1) := by decide +kernel
theorem dL_farthest_2 : decode cL_farthest 2 = .ok (.aload_n 0, 1) := by decide +kernel
theorem dL_farthest_3 : decode cL_farthest 3 = .ok (.iload_n 1, 1) := by decide +kernel
theorem dL_farthest_4 : decode cL_farthest 4 = .ok (.invokevirtual 73, 3) := by decide +kernel
theorem dL_farthest_7 : decode cL_farthest 7 = .ok (.i2l, 1) := by decide +kernel
theorem dL_farthest_8 : decode cL_farthest 8 = .ok (.lastore, 1) := by decide +kernel
theorem dL_farthest_9 : decode cL_farthest 9 = .ok (.goto 6, 3) := by decide +kernel
theorem dL_farthest_12 : decode cL_farthest 12 = .ok (.astore_n 3, 1) := by decide +kernel
theorem dL_farthest_13 : decode cL_farthest 13 = .ok (.iconst 1, 1) := by decide +kernel
theorem dL_farthest_14 : decode cL_farthest 14 = .ok (.ireturn, 1) := by decide +kernel
theorem dL_farthest_15 : decode cL_farthest 15 = .ok (.iconst 0, 1) := by decide +kernel
theorem dL_farthest_16 : decode cL_farthest 16 = .ok (.ireturn, 1) := by decide +kernel
set_option maxRecDepth 20000 in
theorem ggL_strength_X7_strength : GoodIn wsL_strength wsX7_strength := goodIn_ca (goodIn_r _ [6, 7, 8, 9, 5, 10, 11, 12, 13, 14, 15, 16, 17, 18, 19] (by decide +kernel) (by decide +kernel)) (goodIn_sub (fun _ h => List.mem_cons_of_mem _ (List.mem_append_right _ h)) (by decide +kernel))
set_option maxRecDepth 20000 in
theorem gL_strength_X7_strength : GoodIn wsL_strength (wsV RL 76 RX7 yX7_strength wsX7_strength) := goodIn_app (goodIn_of _ (by decide +kernel)) ggL_strength_X7_strength
theorem dL_strength_0 : decode cL_strength 0 = .ok (.aload_n 2, 1) := by decide +kernel
theorem dL_strength_1 : decode cL_strength 1 = .ok (.iconst 0, 1) := by decide +kernel
theorem dL_strength_2 : decode cL_strength 2 = .ok (.aload_n 0, 1) := by decide +kernel
theorem dL_strength_3 : decode cL_strength 3 = .ok (.iload_n 1, 1) := by decide +kernel
theorem dL_strength_4 : decode cL_strength 4 = .ok (.invokevirtual 76, 3) := by decide +kernel
theorem dL_strength_7 : decode cL_strength 7 = .ok (.i2l, 1) := by decide +kernel
theorem dL_strength_8 : decode cL_strength 8 = .ok (.lastore, 1) := by decide +kernel
theorem dL_strength_9 : decode cL_strength 9 = .ok (.goto 6, 3) := by decide +kernel
theorem dL_strength_12 : decode cL_strength 12 = .ok (.astore_n 3, 1) := by decide +kernel
theorem dL_strength_13 : decode cL_strength 13 = .ok (.iconst 1, 1) := by decide +kernel
theorem dL_strength_14 : decode cL_strength 14 = .ok (.ireturn, 1) := by decide +kernel
theorem dL_strength_15 : decode cL_strength 15 = .ok (.iconst 0, 1) := by decide +kernel
theorem dL_strength_16 : decode cL_strength 16 = .ok (.ireturn, 1) := by decide +kernel
set_option maxRecDepth 20000 in
theorem ggL_author_X7_author : GoodIn wsL_author wsX7_author := goodIn_ca (goodIn_r _ [6, 7, 8, 9, 5, 10, 11, 12, 13, 14, 15, 16, 17, 18, 19, 20, 21, 22, 23, 24, 25, 26, 27, 28] (by decide +kernel) (by decide +kernel)) (goodIn_sub (fun _ h => List.mem_cons_of_mem _ (List.mem_append_right _ h)) (by decide +kernel))
set_option maxRecDepth 20000 in
theorem gL_author_X7_author : GoodIn wsL_author (wsV RL 79 RX7 yX7_author wsX7_author) := goodIn_app (goodIn_of _ (by decide +kernel)) ggL_author_X7_author
theorem dL_author_0 : decode cL_author 0 = .ok (.aload_n 2, 1) := by decide +kernel
theorem dL_author_1 : decode cL_author 1 = .ok (.iconst 0, 1) := by decide +kernel
theorem dL_author_2 : decode cL_author 2 = .ok (.aload_n 0, 1) := by decide +kernel
theorem dL_author_3 : decode cL_author 3 = .ok (.iload_n 1, 1) := by decide +kernel
theorem dL_author_4 : decode cL_author 4 = .ok (.invokevirtual 79, 3) := by decide +kernel
theorem dL_author_7 : decode cL_author 7 = .ok (.i2l, 1) := by decide +kernel
theorem dL_author_8 : decode cL_author 8 = .ok (.lastore, 1) := by decide +kernel
theorem dL_author_9 : decode cL_author 9 = .ok (.goto 6, 3) := by decide +kernel
theorem dL_author_12 : decode cL_author 12 = .ok (.astore_n 3, 1) := by decide +kernel
theorem dL_author_13 : decode cL_author 13 = .ok (.iconst 1, 1) := by decide +kernel
theorem dL_author_14 : decode cL_author 14 = .ok (.ireturn, 1) := by decide +kernel
theorem dL_author_15 : decode cL_author 15 = .ok (.iconst 0, 1) := by decide +kernel
theorem dL_author_16 : decode cL_author 16 = .ok (.ireturn, 1) := by decide +kernel
set_option maxRecDepth 20000 in
theorem ggL_best_X7_best : GoodIn wsL_best wsX7_best := goodIn_ca (goodIn_r _ [6, 7, 8, 9, 5, 10, 11, 12, 13, 14, 15, 16, 17, 18, 19, 20, 21, 22, 23, 24, 25, 26, 27, 28] (by decide +kernel) (by decide +kernel)) (goodIn_sub (fun _ h => List.mem_cons_of_mem _ (List.mem_append_right _ h)) (by decide +kernel))
set_option maxRecDepth 20000 in
theorem gL_best_X7_best : GoodIn wsL_best (wsV RL 82 RX7 yX7_best wsX7_best) := goodIn_app (goodIn_of _ (by decide +kernel)) ggL_best_X7_best
theorem dL_best_0 : decode cL_best 0 = .ok (.aload_n 2, 1) := by decide +kernel
theorem dL_best_1 : decode cL_best 1 = .ok (.iconst 0, 1) := by decide +kernel
theorem dL_best_2 : decode cL_best 2 = .ok (.aload_n 0, 1) := by decide +kernel
theorem dL_best_3 : decode cL_best 3 = .ok (.iload_n 1, 1) := by decide +kernel
theorem dL_best_4 : decode cL_best 4 = .ok (.invokevirtual 82, 3) := by decide +kernel
theorem dL_best_7 : decode cL_best 7 = .ok (.i2l, 1) := by decide +kernel
theorem dL_best_8 : decode cL_best 8 = .ok (.lastore, 1) := by decide +kernel
theorem dL_best_9 : decode cL_best 9 = .ok (.goto 6, 3) := by decide +kernel
theorem dL_best_12 : decode cL_best 12 = .ok (.astore_n 3, 1) := by decide +kernel
theorem dL_best_13 : decode cL_best 13 = .ok (.iconst 1, 1) := by decide +kernel
theorem dL_best_14 : decode cL_best 14 = .ok (.ireturn, 1) := by decide +kernel
theorem dL_best_15 : decode cL_best 15 = .ok (.iconst 0, 1) := by decide +kernel
theorem dL_best_16 : decode cL_best 16 = .ok (.ireturn, 1) := by decide +kernel
set_option maxRecDepth 20000 in
theorem ggL_parent_X7_parent : GoodIn wsL_parent wsX7_parent := goodIn_ca (goodIn_r _ [6, 7, 8, 9, 5, 10, 11, 12, 13, 14, 15, 16, 17, 18, 19, 20, 21, 22, 23, 24, 25, 26, 27, 28] (by decide +kernel) (by decide +kernel)) (goodIn_sub (fun _ h => List.mem_cons_of_mem _ (List.mem_append_right _ h)) (by decide +kernel))
set_option maxRecDepth 20000 in
theorem gL_parent_X7_parent : GoodIn wsL_parent (wsV RL 85 RX7 yX7_parent wsX7_parent) := goodIn_app (goodIn_of _ (by decide +kernel)) ggL_parent_X7_parent
theorem dL_parent_0 : decode cL_parent 0 = .ok (.aload_n 2, 1) := by decide +kernel
theorem dL_parent_1 : decode cL_parent 1 = .ok (.iconst 0, 1) := by decide +kernel
theorem dL_parent_2 : decode cL_parent 2 = .ok (.aload_n 0, 1) := by decide +kernel
theorem dL_parent_3 : decode cL_parent 3 = .ok (.iload_n 1, 1) := by decide +kernel
theorem dL_parent_4 : decode cL_parent 4 = .ok (.invokevirtual 85, 3) := by decide +kernel
theorem dL_parent_7 : decode cL_parent 7 = .ok (.i2l, 1) := by decide +kernel
theorem dL_parent_8 : decode cL_parent 8 = .ok (.lastore, 1) := by decide +kernel
theorem dL_parent_9 : decode cL_parent 9 = .ok (.goto 6, 3) := by decide +kernel
theorem dL_parent_12 : decode cL_parent 12 = .ok (.astore_n 3, 1) := by decide +kernel
theorem dL_parent_13 : decode cL_parent 13 = .ok (.iconst 1, 1) := by decide +kernel
theorem dL_parent_14 : decode cL_parent 14 = .ok (.ireturn, 1) := by decide +kernel
theorem dL_parent_15 : decode cL_parent 15 = .ok (.iconst 0, 1) := by decide +kernel
theorem dL_parent_16 : decode cL_parent 16 = .ok (.ireturn, 1) := by decide +kernel
set_option maxRecDepth 20000 in
theorem ggL_line_X7_line : GoodIn wsL_line wsX7_line := goodIn_ca (goodIn_r _ [6, 7, 8, 9, 10, 5, 11, 12, 13, 14, 15, 16, 17, 18, 19, 20, 21, 22, 23, 24, 25, 26, 27, 28, 29, 30, 31, 32, 33, 34, 35] (by decide +kernel) (by decide +kernel)) (goodIn_sub (fun _ h => List.mem_cons_of_mem _ (List.mem_append_right _ h)) (by decide +kernel))
set_option maxRecDepth 20000 in
theorem gL_line_X7_line : GoodIn wsL_line (wsV RL 88 RX7 yX7_line wsX7_line) := goodIn_app (goodIn_of _ (by decide +kernel)) ggL_line_X7_line
theorem dL_line_0 : decode cL_line 0 = .ok (.aload_n 2, 1) := by decide +kernel
theorem dL_line_1 : decode cL_line 1 = .ok (.iconst 0, 1) := by decide +kernel
theorem dL_line_2 : decode cL_line 2 = .ok (.aload_n 0, 1) := by decide +kernel
theorem dL_line_3 : decode cL_line 3 = .ok (.iload_n 1, 1) := by decide +kernel
theorem dL_line_4 : decode cL_line 4 = .ok (.invokevirtual 88, 3) := by decide +kernel
theorem dL_line_7 : decode cL_line 7 = .ok (.i2l, 1) := by decide +kernel
theorem dL_line_8 : decode cL_line 8 = .ok (.lastore, 1) := by decide +kernel
theorem dL_line_9 : decode cL_line 9 = .ok (.goto 6, 3) := by decide +kernel
theorem dL_line_12 : decode cL_line 12 = .ok (.astore_n 3, 1) := by decide +kernel
theorem dL_line_13 : decode cL_line 13 = .ok (.iconst 1, 1) := by decide +kernel
theorem dL_line_14 : decode cL_line 14 = .ok (.ireturn, 1) := by decide +kernel
theorem dL_line_15 : decode cL_line 15 = .ok (.iconst 0, 1) := by decide +kernel
theorem dL_line_16 : decode cL_line 16 = .ok (.ireturn, 1) := by decide +kernel
set_option maxRecDepth 20000 in
theorem ggL_stars_X7_stars : GoodIn wsL_stars wsX7_stars := goodIn_ca (goodIn_r _ [6, 7, 8, 9, 5, 10, 11, 12, 13, 14, 15, 16, 17, 18, 19, 20, 21, 22, 23, 24, 25, 26, 27, 28, 29, 30, 31, 32, 33, 34] (by decide +kernel) (by decide +kernel)) (goodIn_sub (fun _ h => List.mem_cons_of_mem _ (List.mem_append_right _ h)) (by decide +kernel))
set_option maxRecDepth 20000 in
theorem gL_stars_X7_stars : GoodIn wsL_stars (wsV RL 91 RX7 yX7_stars wsX7_stars) := goodIn_app (goodIn_of _ (by decide +kernel)) ggL_stars_X7_stars
theorem dL_stars_0 : decode cL_stars 0 = .ok (.aload_n 2, 1) := by decide +kernel
theorem dL_stars_1 : decode cL_stars 1 = .ok (.iconst 0, 1) := by decide +kernel
theorem dL_stars_2 : decode cL_stars 2 = .ok (.aload_n 0, 1) := by decide +kernel
theorem dL_stars_3 : decode cL_stars 3 = .ok (.iload_n 1, 1) := by decide +kernel
theorem dL_stars_4 : decode cL_stars 4 = .ok (.invokevirtual 91, 3) := by decide +kernel
theorem dL_stars_7 : decode cL_stars 7 = .ok (.i2l, 1) := by decide +kernel
theorem dL_stars_8 : decode cL_stars 8 = .ok (.lastore, 1) := by decide +kernel
theorem dL_stars_9 : decode cL_stars 9 = .ok (.goto 6, 3) := by decide +kernel
theorem dL_stars_12 : decode cL_stars 12 = .ok (.astore_n 3, 1) := by decide +kernel
theorem dL_stars_13 : decode cL_stars 13 = .ok (.iconst 1, 1) := by decide +kernel
theorem dL_stars_14 : decode cL_stars 14 = .ok (.ireturn, 1) := by decide +kernel
theorem dL_stars_15 : decode cL_stars 15 = .ok (.iconst 0, 1) := by decide +kernel
theorem dL_stars_16 : decode cL_stars 16 = .ok (.ireturn, 1) := by decide +kernel
set_option maxRecDepth 20000 in
theorem ggL_credit_X7_credit : GoodIn wsL_credit wsX7_credit := goodIn_ca (goodIn_r _ [6, 7, 8, 9, 5, 10, 11, 12, 13, 14, 15, 16, 17, 18, 19, 20, 21, 22, 23, 24, 25, 26, 27, 28, 29, 30, 31, 32, 33, 34, 35, 36, 37, 38, 39, 40, 41, 42, 43, 44] (by decide +kernel) (by decide +kernel)) (goodIn_sub (fun _ h => List.mem_cons_of_mem _ (List.mem_append_right _ h)) (by decide +kernel))
set_option maxRecDepth 20000 in
theorem gL_credit_X7_credit : GoodIn wsL_credit (wsV RL 94 RX7 yX7_credit wsX7_credit) := goodIn_app (goodIn_of _ (by decide +kernel)) ggL_credit_X7_credit
theorem dL_credit_0 : decode cL_credit 0 = .ok (.aload_n 2, 1) := by decide +kernel
theorem dL_credit_1 : decode cL_credit 1 = .ok (.iconst 0, 1) := by decide +kernel
theorem dL_credit_2 : decode cL_credit 2 = .ok (.aload_n 0, 1) := by decide +kernel
theorem dL_credit_3 : decode cL_credit 3 = .ok (.iload_n 1, 1) := by decide +kernel
theorem dL_credit_4 : decode cL_credit 4 = .ok (.invokevirtual 94, 3) := by decide +kernel
theorem dL_credit_7 : decode cL_credit 7 = .ok (.i2l, 1) := by decide +kernel
theorem dL_credit_8 : decode cL_credit 8 = .ok (.lastore, 1) := by decide +kernel
theorem dL_credit_9 : decode cL_credit 9 = .ok (.goto 6, 3) := by decide +kernel
theorem dL_credit_12 : decode cL_credit 12 = .ok (.astore_n 3, 1) := by decide +kernel
theorem dL_credit_13 : decode cL_credit 13 = .ok (.iconst 1, 1) := by decide +kernel
theorem dL_credit_14 : decode cL_credit 14 = .ok (.ireturn, 1) := by decide +kernel
theorem dL_credit_15 : decode cL_credit 15 = .ok (.iconst 0, 1) := by decide +kernel
theorem dL_credit_16 : decode cL_credit 16 = .ok (.ireturn, 1) := by decide +kernel
set_option maxRecDepth 20000 in
theorem ggL_record_X7_record : GoodIn wsL_record wsX7_record := goodIn_ca (goodIn_r _ [6, 7, 8, 9, 5, 10, 11, 12, 13, 14, 15, 16, 17, 18, 19, 20, 21, 22, 23, 24, 25, 26, 27, 28] (by decide +kernel) (by decide +kernel)) (goodIn_sub (fun _ h => List.mem_cons_of_mem _ (List.mem_append_right _ h)) (by decide +kernel))
set_option maxRecDepth 20000 in
theorem gL_record_X7_record : GoodIn wsL_record (wsV RL 97 RX7 yX7_record wsX7_record) := goodIn_app (goodIn_of _ (by decide +kernel)) ggL_record_X7_record
theorem dL_record_0 : decode cL_record 0 = .ok (.aload_n 2, 1) := by decide +kernel
theorem dL_record_1 : decode cL_record 1 = .ok (.iconst 0, 1) := by decide +kernel
theorem dL_record_2 : decode cL_record 2 = .ok (.aload_n 0, 1) := by decide +kernel
theorem dL_record_3 : decode cL_record 3 = .ok (.iload_n 1, 1) := by decide +kernel
theorem dL_record_4 : decode cL_record 4 = .ok (.invokevirtual 97, 3) := by decide +kernel
theorem dL_record_7 : decode cL_record 7 = .ok (.i2l, 1) := by decide +kernel
theorem dL_record_8 : decode cL_record 8 = .ok (.lastore, 1) := by decide +kernel
theorem dL_record_9 : decode cL_record 9 = .ok (.goto 6, 3) := by decide +kernel
theorem dL_record_12 : decode cL_record 12 = .ok (.astore_n 3, 1) := by decide +kernel
theorem dL_record_13 : decode cL_record 13 = .ok (.iconst 1, 1) := by decide +kernel
theorem dL_record_14 : decode cL_record 14 = .ok (.ireturn, 1) := by decide +kernel
theorem dL_record_15 : decode cL_record 15 = .ok (.iconst 0, 1) := by decide +kernel
theorem dL_record_16 : decode cL_record 16 = .ok (.ireturn, 1) := by decide +kernel
set_option maxRecDepth 20000 in
theorem ggL_runState_X7_runState : GoodIn wsL_runState wsX7_runState := goodIn_ca (goodIn_r _ [6, 7, 8, 9, 5, 10, 11, 12, 13, 14, 15, 16, 17, 18, 19, 20, 21, 22, 23, 24] (by decide +kernel) (by decide +kernel)) (goodIn_sub (fun _ h => List.mem_cons_of_mem _ (List.mem_append_right _ h)) (by decide +kernel))
set_option maxRecDepth 20000 in
theorem gL_runState_X7_runState : GoodIn wsL_runState (wsV RL 100 RX7 yX7_runState wsX7_runState) := goodIn_app (goodIn_of _ (by decide +kernel)) ggL_runState_X7_runState
theorem dL_runState_0 : decode cL_runState 0 = .ok (.aload_n 2, 1) := by decide +kernel
theorem dL_runState_1 : decode cL_runState 1 = .ok (.iconst 0, 1) := by decide +kernel
theorem dL_runState_2 : decode cL_runState 2 = .ok (.aload_n 0, 1) := by decide +kernel
theorem dL_runState_3 : decode cL_runState 3 = .ok (.iload_n 1, 1) := by decide +kernel
theorem dL_runState_4 : decode cL_runState 4 = .ok (.invokevirtual 100, 3) := by decide +kernel
theorem dL_runState_7 : decode cL_runState 7 = .ok (.i2l, 1) := by decide +kernel
theorem dL_runState_8 : decode cL_runState 8 = .ok (.lastore, 1) := by decide +kernel
theorem dL_runState_9 : decode cL_runState 9 = .ok (.goto 6, 3) := by decide +kernel
theorem dL_runState_12 : decode cL_runState 12 = .ok (.astore_n 3, 1) := by decide +kernel
theorem dL_runState_13 : decode cL_runState 13 = .ok (.iconst 1, 1) := by decide +kernel
theorem dL_runState_14 : decode cL_runState 14 = .ok (.ireturn, 1) := by decide +kernel
theorem dL_runState_15 : decode cL_runState 15 = .ok (.iconst 0, 1) := by decide +kernel
theorem dL_runState_16 : decode cL_runState 16 = .ok (.ireturn, 1) := by decide +kernel
set_option maxRecDepth 20000 in
theorem ggL_body_X7_body : GoodIn wsL_body wsX7_body := goodIn_ca (goodIn_r _ [6, 7, 8, 9, 5, 10, 11, 12, 13, 14, 15, 16, 17, 18, 19, 20, 21, 22, 23, 24, 25, 26, 27, 28, 29] (by decide +kernel) (by decide +kernel)) (goodIn_sub (fun _ h => List.mem_cons_of_mem _ (List.mem_append_right _ h)) (by decide +kernel))
set_option maxRecDepth 20000 in
theorem gL_body_X7_body : GoodIn wsL_body (wsV RL 103 RX7 yX7_body wsX7_body) := goodIn_app (goodIn_of _ (by decide +kernel)) ggL_body_X7_body
theorem dL_body_0 : decode cL_body 0 = .ok (.aload_n 2, 1) := by decide +kernel
theorem dL_body_1 : decode cL_body 1 = .ok (.iconst 0, 1) := by decide +kernel
theorem dL_body_2 : decode cL_body 2 = .ok (.aload_n 0, 1) := by decide +kernel
theorem dL_body_3 : decode cL_body 3 = .ok (.iload_n 1, 1) := by decide +kernel
theorem dL_body_4 : decode cL_body 4 = .ok (.invokevirtual 103, 3) := by decide +kernel
theorem dL_body_7 : decode cL_body 7 = .ok (.i2l, 1) := by decide +kernel
theorem dL_body_8 : decode cL_body 8 = .ok (.lastore, 1) := by decide +kernel
theorem dL_body_9 : decode cL_body 9 = .ok (.goto 6, 3) := by decide +kernel
theorem dL_body_12 : decode cL_body 12 = .ok (.astore_n 3, 1) := by decide +kernel
theorem dL_body_13 : decode cL_body 13 = .ok (.iconst 1, 1) := by decide +kernel
theorem dL_body_14 : decode cL_body 14 = .ok (.ireturn, 1) := by decide +kernel
theorem dL_body_15 : decode cL_body 15 = .ok (.iconst 0, 1) := by decide +kernel
theorem dL_body_16 : decode cL_body 16 = .ok (.ireturn, 1) := by decide +kernel
set_option maxRecDepth 20000 in
theorem ggL_speed_X7_speed : GoodIn wsL_speed wsX7_speed := goodIn_ca (goodIn_r _ [6, 7, 8, 9, 5, 10, 11, 12, 13, 14, 15, 16, 17, 18, 19, 20, 21, 22, 23, 24, 25, 26, 27, 28, 29] (by decide +kernel) (by decide +kernel)) (goodIn_sub (fun _ h => List.mem_cons_of_mem _ (List.mem_append_right _ h)) (by decide +kernel))
set_option maxRecDepth 20000 in
theorem gL_speed_X7_speed : GoodIn wsL_speed (wsV RL 106 RX7 yX7_speed wsX7_speed) := goodIn_app (goodIn_of _ (by decide +kernel)) ggL_speed_X7_speed
theorem dL_speed_0 : decode cL_speed 0 = .ok (.aload_n 2, 1) := by decide +kernel
theorem dL_speed_1 : decode cL_speed 1 = .ok (.iconst 0, 1) := by decide +kernel
theorem dL_speed_2 : decode cL_speed 2 = .ok (.aload_n 0, 1) := by decide +kernel
theorem dL_speed_3 : decode cL_speed 3 = .ok (.iload_n 1, 1) := by decide +kernel
theorem dL_speed_4 : decode cL_speed 4 = .ok (.invokevirtual 106, 3) := by decide +kernel
theorem dL_speed_7 : decode cL_speed 7 = .ok (.i2l, 1) := by decide +kernel
theorem dL_speed_8 : decode cL_speed 8 = .ok (.lastore, 1) := by decide +kernel
theorem dL_speed_9 : decode cL_speed 9 = .ok (.goto 6, 3) := by decide +kernel
theorem dL_speed_12 : decode cL_speed 12 = .ok (.astore_n 3, 1) := by decide +kernel
theorem dL_speed_13 : decode cL_speed 13 = .ok (.iconst 1, 1) := by decide +kernel
theorem dL_speed_14 : decode cL_speed 14 = .ok (.ireturn, 1) := by decide +kernel
theorem dL_speed_15 : decode cL_speed 15 = .ok (.iconst 0, 1) := by decide +kernel
theorem dL_speed_16 : decode cL_speed 16 = .ok (.ireturn, 1) := by decide +kernel
set_option maxRecDepth 20000 in
theorem ggL_keys_X7_keys : GoodIn wsL_keys wsX7_keys := goodIn_ca (goodIn_r _ [6, 7, 8, 9, 5, 10, 11, 12, 13, 14, 15, 16, 17, 18, 19, 20, 21, 22, 23, 24, 25, 26, 27, 28, 29, 30, 31, 32, 33, 34, 35, 36] (by decide +kernel) (by decide +kernel)) (goodIn_sub (fun _ h => List.mem_cons_of_mem _ (List.mem_append_right _ h)) (by decide +kernel))
set_option maxRecDepth 20000 in
theorem gL_keys_X7_keys : GoodIn wsL_keys (wsV RL 109 RX7 yX7_keys wsX7_keys) := goodIn_app (goodIn_of _ (by decide +kernel)) ggL_keys_X7_keys
theorem dL_keys_0 : decode cL_keys 0 = .ok (.aload_n 2, 1) := by decide +kernel
theorem dL_keys_1 : decode cL_keys 1 = .ok (.iconst 0, 1) := by decide +kernel
theorem dL_keys_2 : decode cL_keys 2 = .ok (.aload_n 0, 1) := by decide +kernel
theorem dL_keys_3 : decode cL_keys 3 = .ok (.iload_n 1, 1) := by decide +kernel
theorem dL_keys_4 : decode cL_keys 4 = .ok (.invokevirtual 109, 3) := by decide +kernel
theorem dL_keys_7 : decode cL_keys 7 = .ok (.i2l, 1) := by decide +kernel
theorem dL_keys_8 : decode cL_keys 8 = .ok (.lastore, 1) := by decide +kernel
theorem dL_keys_9 : decode cL_keys 9 = .ok (.goto 6, 3) := by decide +kernel
theorem dL_keys_12 : decode cL_keys 12 = .ok (.astore_n 3, 1) := by decide +kernel
theorem dL_keys_13 : decode cL_keys 13 = .ok (.iconst 1, 1) := by decide +kernel
theorem dL_keys_14 : decode cL_keys 14 = .ok (.ireturn, 1) := by decide +kernel
theorem dL_keys_15 : decode cL_keys 15 = .ok (.iconst 0, 1) := by decide +kernel
theorem dL_keys_16 : decode cL_keys 16 = .ok (.ireturn, 1) := by decide +kernel
set_option maxRecDepth 20000 in
theorem ggL_stepsOf_X7_stepsOf : GoodIn wsL_stepsOf wsX7_stepsOf := goodIn_ca (goodIn_r _ [6, 7, 8, 9, 5, 10, 11, 12, 13, 14, 15, 16, 17, 18, 19, 20, 21, 22, 23, 24] (by decide +kernel) (by decide +kernel)) (goodIn_sub (fun _ h => List.mem_cons_of_mem _ (List.mem_append_right _ h)) (by decide +kernel))
set_option maxRecDepth 20000 in
theorem gL_stepsOf_X7_stepsOf : GoodIn wsL_stepsOf (wsV RL 112 RX7 yX7_stepsOf wsX7_stepsOf) := goodIn_app (goodIn_of _ (by decide +kernel)) ggL_stepsOf_X7_stepsOf
theorem dL_stepsOf_0 : decode cL_stepsOf 0 = .ok (.aload_n 2, 1) := by decide +kernel
theorem dL_stepsOf_1 : decode cL_stepsOf 1 = .ok (.iconst 0, 1) := by decide +kernel
theorem dL_stepsOf_2 : decode cL_stepsOf 2 = .ok (.aload_n 0, 1) := by decide +kernel
theorem dL_stepsOf_3 : decode cL_stepsOf 3 = .ok (.iload_n 1, 1) := by decide +kernel
theorem dL_stepsOf_4 : decode cL_stepsOf 4 = .ok (.invokevirtual 112, 3) := by decide +kernel
theorem dL_stepsOf_7 : decode cL_stepsOf 7 = .ok (.i2l, 1) := by decide +kernel
theorem dL_stepsOf_8 : decode cL_stepsOf 8 = .ok (.lastore, 1) := by decide +kernel
theorem dL_stepsOf_9 : decode cL_stepsOf 9 = .ok (.goto 6, 3) := by decide +kernel
theorem dL_stepsOf_12 : decode cL_stepsOf 12 = .ok (.astore_n 3, 1) := by decide +kernel
theorem dL_stepsOf_13 : decode cL_stepsOf 13 = .ok (.iconst 1, 1) := by decide +kernel
theorem dL_stepsOf_14 : decode cL_stepsOf 14 = .ok (.ireturn, 1) := by decide +kernel
theorem dL_stepsOf_15 : decode cL_stepsOf 15 = .ok (.iconst 0, 1) := by decide +kernel
theorem dL_stepsOf_16 : decode cL_stepsOf 16 = .ok (.ireturn, 1) := by decide +kernel
set_option maxRecDepth 20000 in
theorem ggL_law_X7_init : GoodIn wsL_law wsX7_init := goodIn_r _ [9, 10, 11, 12, 13, 14, 15, 16, 17, 18, 19, 20, 21, 22, 23, 24, 25, 26, 27, 28, 29, 30, 31, 32, 33, 34, 35, 36, 37, 38, 39, 40, 41, 42, 43, 44, 45, 46, 47, 48, 49, 50, 51, 52, 53, 54, 55, 56, 57, 58, 59, 60, 61, 62, 854, 855, 856, 857, 858, 859, 860, 899, 900, 901, 902, 903, 904, 905, 906, 907, 908, 909, 910, 911, 912, 913, 914] (by decide +kernel) (by decide +kernel)
set_option maxRecDepth 20000 in
theorem gL_law_X7_init : GoodIn wsL_law (wsX7_init) := ggL_law_X7_init
set_option maxRecDepth 20000 in
theorem ggL_law_X8_init : GoodIn wsL_law wsX8_init := goodIn_r _ [65, 66, 11, 12, 13, 67, 68, 69, 70, 71, 72, 73, 74, 75, 76, 77, 78, 79, 80, 81, 82, 83, 84, 85, 86, 87, 88, 89, 90, 91, 92, 93, 94, 95, 35, 96, 861, 862, 863, 864, 865, 866, 867, 868, 869, 870, 871, 872, 873, 874, 875, 876, 877, 878, 879, 880, 881, 882, 883, 884, 885, 886, 887, 888, 889, 890, 891, 892, 893, 894, 895, 896, 897, 898] (by decide +kernel) (by decide +kernel)
set_option maxRecDepth 20000 in
theorem gL_law_X8_init : GoodIn wsL_law (wsX8_init) := ggL_law_X8_init
set_option maxRecDepth 20000 in
theorem ggL_law_L_begin : GoodIn wsL_law wsL_begin := goodIn_ca (goodIn_ca (goodIn_r _ [100, 101, 102, 103, 104, 105, 2, 106, 25, 107, 108, 109, 110, 111, 112, 113, 114, 115, 116, 117, 16, 15, 118, 119, 120, 121, 122, 123, 11, 12, 124, 125, 126, 127, 128, 129, 130, 131, 132, 133, 134, 135, 136, 137, 138, 13, 139, 140, 141, 142, 143, 144, 145, 146, 147, 148, 149, 150, 151, 152, 153, 154, 155, 156, 157, 158, 159, 915, 916, 917, 918, 919, 920, 854, 855, 856, 857, 858, 859, 860, 921, 922, 923, 924, 925, 926, 927, 928] (by decide +kernel) (by decide +kernel)) (goodIn_sub (fun _ h => List.mem_append_left _ (List.mem_append_left _ (List.mem_append_right _ h))) (by decide +kernel))) (goodIn_sub (fun _ h => List.mem_append_left _ (List.mem_append_right _ h)) (by decide +kernel))
set_option maxRecDepth 20000 in
theorem gL_law_L_begin : GoodIn wsL_law (va_wsS RL 119 yL_begin wsL_begin) := goodIn_app (goodIn_of _ (by decide +kernel)) ggL_law_L_begin
set_option maxRecDepth 20000 in
theorem ggL_law_X8_begin : GoodIn wsL_law wsX8_begin := goodIn_r _ [163, 164, 165, 69, 166, 167, 5, 168, 169, 170, 171, 172, 173, 174, 175, 176, 177, 178, 179, 68, 70, 71, 72, 861, 862, 863, 864, 865, 866, 867, 868, 869, 870, 871, 872, 873, 874, 875, 876, 877, 878, 879, 880, 881, 882, 883, 884, 885, 886, 887, 888, 889, 890, 891, 892, 893, 894, 895, 896, 897, 898] (by decide +kernel) (by decide +kernel)
set_option maxRecDepth 20000 in
theorem gL_law_X8_begin : GoodIn wsL_law (wsV RL 124 RX8 yX8_begin wsX8_begin) := goodIn_app (goodIn_of _ (by decide +kernel)) ggL_law_X8_begin
set_option maxRecDepth 20000 in
theorem ggL_law_X8_thrown : GoodIn wsL_law wsX8_thrown := goodIn_r _ [183, 164, 861, 862, 863, 864, 865, 866, 867, 868, 869, 870, 871, 872, 873, 874, 875, 876, 877, 878, 879, 880, 881, 882, 883, 884, 885, 886, 887, 888, 889, 890, 891, 892, 893, 894, 895, 896, 897, 898] (by decide +kernel) (by decide +kernel)
set_option maxRecDepth 20000 in
theorem gL_law_X8_thrown : GoodIn wsL_law (wsV RL 125 RX8 yX8_thrown wsX8_thrown) := goodIn_app (goodIn_of _ (by decide +kernel)) ggL_law_X8_thrown
set_option maxRecDepth 20000 in
theorem ggL_law_L_set : GoodIn wsL_law wsL_set := goodIn_ca (goodIn_ca (goodIn_ca (goodIn_r _ [186, 101, 187, 102, 188, 189, 190, 2, 191, 192, 193, 116, 117, 194, 195, 196, 197, 110, 111, 16, 198, 199, 200, 201, 154, 155, 202, 203, 204, 126, 205, 139, 206, 207, 208, 209, 141, 210, 211, 212, 213, 214, 215, 216, 217, 218, 219, 130, 220, 148, 145, 146, 147, 149, 221, 222, 223, 224, 225, 226, 227, 119, 228, 127, 133, 229, 151, 152, 153, 156, 157, 158, 159, 140, 915, 916, 917, 918, 919, 920, 854, 855, 856, 857, 858, 859, 860, 921, 922, 923, 924, 925, 926, 927, 928] (by decide +kernel) (by decide +kernel)) (goodIn_sub (fun _ h => List.mem_append_right _ h) (by decide +kernel))) (goodIn_sub (fun _ h => List.mem_append_left _ (List.mem_append_right _ h)) (by decide +kernel))) (goodIn_sub (fun _ h => List.mem_append_left _ (List.mem_append_left _ (List.mem_append_right _ h))) (by decide +kernel))
set_option maxRecDepth 20000 in
theorem gL_law_L_set : GoodIn wsL_law (va_wsS RL 129 yL_set wsL_set) := goodIn_app (goodIn_of _ (by decide +kernel)) ggL_law_L_set
set_option maxRecDepth 20000 in
theorem ggL_law_X8_set : GoodIn wsL_law wsX8_set := goodIn_r _ [233, 164, 69, 76, 71, 234, 235, 236, 5, 237, 165, 169, 170, 171, 238, 239, 240, 172, 173, 174, 175, 241, 242, 243, 244, 245, 246, 247, 248, 73, 74, 75, 861, 862, 863, 864, 865, 866, 867, 868, 869, 870, 871, 872, 873, 874, 875, 876, 877, 878, 879, 880, 881, 882, 883, 884, 885, 886, 887, 888, 889, 890, 891, 892, 893, 894, 895, 896, 897, 898] (by decide +kernel) (by decide +kernel)
set_option maxRecDepth 20000 in
theorem gL_law_X8_set : GoodIn wsL_law (wsV RL 132 RX8 yX8_set wsX8_set) := goodIn_app (goodIn_of _ (by decide +kernel)) ggL_law_X8_set
set_option maxRecDepth 20000 in
theorem ggL_law_L_setStart : GoodIn wsL_law wsL_setStart := goodIn_ca (goodIn_r _ [251, 101, 252, 253, 254, 2, 255, 194, 195, 196, 197, 110, 111, 16, 198, 199, 200, 201, 154, 155, 915, 916, 917, 918, 919, 920, 854, 855, 856, 857, 858, 859, 860] (by decide +kernel) (by decide +kernel)) (goodIn_sub (fun _ h => List.mem_append_left _ (List.mem_append_left _ (List.mem_append_right _ h))) (by decide +kernel))
set_option maxRecDepth 20000 in
theorem gL_law_L_setStart : GoodIn wsL_law (va_wsS RL 133 yL_setStart wsL_setStart) := goodIn_app (goodIn_of _ (by decide +kernel)) ggL_law_L_setStart
set_option maxRecDepth 20000 in
theorem ggL_law_X8_setStart : GoodIn wsL_law wsX8_setStart := goodIn_r _ [259, 164, 70, 71, 234, 235, 236, 5, 237, 165, 169, 170, 171, 238, 239, 240, 172, 173, 174, 175, 861, 862, 863, 864, 865, 866, 867, 868, 869, 870, 871, 872, 873, 874, 875, 876, 877, 878, 879, 880, 881, 882, 883, 884, 885, 886, 887, 888, 889, 890, 891, 892, 893, 894, 895, 896, 897, 898] (by decide +kernel) (by decide +kernel)
set_option maxRecDepth 20000 in
theorem gL_law_X8_setStart : GoodIn wsL_law (wsV RL 136 RX8 yX8_setStart wsX8_setStart) := goodIn_app (goodIn_of _ (by decide +kernel)) ggL_law_X8_setStart
set_option maxRecDepth 20000 in
theorem ggL_law_L_undo : GoodIn wsL_law wsL_undo := goodIn_ca (goodIn_ca (goodIn_r _ [262, 101, 102, 263, 264, 265, 2, 266, 116, 117, 194, 195, 196, 197, 110, 111, 16, 267, 268, 269, 130, 270, 148, 149, 271, 272, 273, 274, 145, 275, 276, 277, 278, 279, 280, 281, 282, 146, 225, 226, 227, 119, 228, 127, 133, 229, 151, 152, 126, 153, 139, 154, 155, 156, 157, 158, 159, 140, 141, 915, 916, 917, 918, 919, 920, 924, 925, 926, 927, 928, 854, 855, 856, 857, 858, 859, 860, 921, 922, 923] (by decide +kernel) (by decide +kernel)) (goodIn_sub (fun _ h => List.mem_append_left _ (List.mem_append_right _ h)) (by decide +kernel))) (goodIn_sub (fun _ h => List.mem_append_left _ (List.mem_append_left _ (List.mem_append_right _ h))) (by decide +kernel))
set_option maxRecDepth 20000 in
theorem gL_law_L_undo : GoodIn wsL_law (va_wsS RL 137 yL_undo wsL_undo) := goodIn_app (goodIn_of _ (by decide +kernel)) ggL_law_L_undo
set_option maxRecDepth 20000 in
theorem ggL_law_X8_undo : GoodIn wsL_law wsX8_undo := goodIn_r _ [286, 164, 73, 77, 76, 74, 78, 75, 69, 71, 234, 235, 236, 5, 237, 165, 169, 170, 171, 172, 173, 174, 175, 861, 862, 863, 864, 865, 866, 867, 868, 869, 870, 871, 872, 873, 874, 875, 876, 877, 878, 879, 880, 881, 882, 883, 884, 885, 886, 887, 888, 889, 890, 891, 892, 893, 894, 895, 896, 897, 898] (by decide +kernel) (by decide +kernel)
set_option maxRecDepth 20000 in
theorem gL_law_X8_undo : GoodIn wsL_law (wsV RL 139 RX8 yX8_undo wsX8_undo) := goodIn_app (goodIn_of _ (by decide +kernel)) ggL_law_X8_undo
set_option maxRecDepth 20000 in
theorem ggL_law_L_redo : GoodIn wsL_law wsL_redo := goodIn_ca (goodIn_ca (goodIn_r _ [289, 101, 102, 290, 291, 292, 2, 293, 116, 117, 194, 195, 196, 197, 110, 111, 16, 271, 272, 273, 130, 274, 145, 148, 275, 276, 277, 278, 294, 295, 296, 297, 147, 225, 226, 227, 119, 228, 127, 133, 229, 151, 152, 126, 153, 139, 154, 155, 156, 157, 158, 159, 140, 141, 298, 299, 300, 301, 149, 915, 916, 917, 918, 919, 920, 924, 925, 926, 927, 928, 854, 855, 856, 857, 858, 859, 860, 921, 922, 923] (by decide +kernel) (by decide +kernel)) (goodIn_sub (fun _ h => List.mem_append_left _ (List.mem_append_right _ h)) (by decide +kernel))) (goodIn_sub (fun _ h => List.mem_append_left _ (List.mem_append_left _ (List.mem_append_right _ h))) (by decide +kernel))
set_option maxRecDepth 20000 in
theorem gL_law_L_redo : GoodIn wsL_law (va_wsS RL 140 yL_redo wsL_redo) := goodIn_app (goodIn_of _ (by decide +kernel)) ggL_law_L_redo
set_option maxRecDepth 20000 in
theorem ggL_law_X8_redo : GoodIn wsL_law wsX8_redo := goodIn_r _ [305, 164, 76, 77, 78, 69, 71, 234, 235, 236, 5, 237, 165, 169, 170, 171, 172, 173, 174, 175, 245, 246, 247, 248, 73, 74, 75, 861, 862, 863, 864, 865, 866, 867, 868, 869, 870, 871, 872, 873, 874, 875, 876, 877, 878, 879, 880, 881, 882, 883, 884, 885, 886, 887, 888, 889, 890, 891, 892, 893, 894, 895, 896, 897, 898] (by decide +kernel) (by decide +kernel)
set_option maxRecDepth 20000 in
theorem gL_law_X8_redo : GoodIn wsL_law (wsV RL 142 RX8 yX8_redo wsX8_redo) := goodIn_app (goodIn_of _ (by decide +kernel)) ggL_law_X8_redo
set_option maxRecDepth 20000 in
theorem ggL_law_L_setSpring : GoodIn wsL_law wsL_setSpring := goodIn_ca (goodIn_ca (goodIn_r _ [308, 101, 187, 309, 310, 311, 2, 312, 192, 193, 14, 26, 24, 313, 314, 315, 110, 111, 316, 317, 318, 319, 18, 320, 321, 322, 126, 323, 139, 324, 325, 326, 23, 327, 43, 38, 39, 328, 329, 330, 331, 37, 36, 332, 333, 334, 42, 335, 49, 50, 51, 336, 337, 338, 339, 48, 154, 155, 340, 203, 204, 205, 341, 342, 343, 344, 140, 345, 346, 347, 348, 349, 350, 351, 352, 353, 354, 355, 356, 34, 357, 358, 359, 360, 33, 361, 362, 363, 364, 365, 366, 367, 368, 369, 370, 371, 372, 373, 374, 375, 376, 377, 378, 379, 380, 381, 382, 383, 384, 385, 386, 387, 388, 389, 390, 391, 392, 393, 394, 395, 396, 397, 52, 398, 399, 400, 401, 402, 403, 404, 405, 20, 406, 407, 408, 409, 25, 194, 195, 196, 197, 16, 854, 855, 856, 857, 858, 859, 860, 929, 930, 931, 932, 933, 934, 935, 936, 921, 922, 923, 899, 900, 901, 902, 903, 904, 905, 910, 911, 912, 913, 914, 906, 907, 908, 909, 915, 916, 917, 918, 919, 920] (by decide +kernel) (by decide +kernel)) (goodIn_sub (fun _ h => List.mem_append_right _ h) (by decide +kernel))) (goodIn_sub (fun _ h => List.mem_append_left _ (List.mem_append_left _ (List.mem_append_right _ h))) (by decide +kernel))
set_option maxRecDepth 20000 in
theorem gL_law_L_setSpring : GoodIn wsL_law (va_wsS RL 143 yL_setSpring wsL_setSpring) := goodIn_app (goodIn_of _ (by decide +kernel)) ggL_law_L_setSpring
set_option maxRecDepth 20000 in
theorem ggL_law_X8_setSpring : GoodIn wsL_law wsX8_setSpring := goodIn_r _ [413, 164, 67, 165, 71, 414, 169, 170, 5, 171, 172, 173, 174, 175, 415, 416, 417, 418, 69, 419, 420, 421, 422, 80, 423, 424, 425, 426, 82, 81, 86, 87, 427, 428, 429, 430, 431, 92, 93, 432, 433, 434, 435, 95, 96, 436, 94, 437, 438, 439, 440, 441, 442, 443, 444, 445, 446, 447, 448, 449, 450, 451, 452, 453, 454, 455, 456, 457, 458, 459, 861, 862, 863, 864, 865, 866, 867, 868, 869, 870, 871, 872, 873, 874, 875, 876, 877, 878, 879, 880, 881, 882, 883, 884, 885, 886, 887, 888, 889, 890, 891, 892, 893, 894, 895, 896, 897, 898] (by decide +kernel) (by decide +kernel)
set_option maxRecDepth 20000 in
theorem gL_law_X8_setSpring : GoodIn wsL_law (wsV RL 145 RX8 yX8_setSpring wsX8_setSpring) := goodIn_app (goodIn_of _ (by decide +kernel)) ggL_law_X8_setSpring
set_option maxRecDepth 20000 in
theorem ggL_law_L_prove : GoodIn wsL_law wsL_prove := goodIn_ca (goodIn_r _ [462, 101, 463, 464, 465, 2, 466, 24, 194, 195, 196, 197, 110, 111, 16, 324, 325, 326, 23, 327, 43, 38, 39, 328, 329, 330, 331, 37, 36, 332, 333, 334, 42, 335, 49, 50, 51, 336, 337, 338, 339, 48, 154, 155, 340, 203, 204, 126, 205, 139, 341, 342, 343, 344, 140, 345, 346, 347, 348, 349, 350, 351, 352, 353, 354, 355, 356, 34, 357, 358, 359, 360, 33, 361, 362, 363, 364, 365, 366, 367, 368, 369, 370, 371, 372, 373, 374, 375, 376, 377, 378, 379, 380, 381, 382, 383, 384, 385, 386, 387, 388, 389, 390, 391, 392, 393, 394, 395, 396, 397, 52, 854, 855, 856, 857, 858, 859, 860, 915, 916, 917, 918, 919, 920, 899, 900, 901, 902, 903, 904, 905, 910, 911, 912, 913, 914, 921, 922, 923] (by decide +kernel) (by decide +kernel)) (goodIn_sub (fun _ h => List.mem_append_left _ (List.mem_append_left _ (List.mem_append_right _ h))) (by decide +kernel))
set_option maxRecDepth 20000 in
theorem gL_law_L_prove : GoodIn wsL_law (va_wsS RL 146 yL_prove wsL_prove) := goodIn_app (goodIn_of _ (by decide +kernel)) ggL_law_L_prove
set_option maxRecDepth 20000 in
theorem ggL_law_X8_prove : GoodIn wsL_law wsX8_prove := goodIn_r _ [470, 164, 71, 70, 234, 235, 236, 5, 237, 165, 169, 170, 171, 172, 173, 174, 175, 427, 428, 429, 430, 431, 92, 80, 69, 93, 432, 433, 434, 435, 95, 96, 436, 94, 437, 438, 439, 440, 441, 442, 443, 444, 445, 446, 447, 448, 449, 450, 451, 452, 453, 454, 455, 67, 456, 457, 458, 459, 861, 862, 863, 864, 865, 866, 867, 868, 869, 870, 871, 872, 873, 874, 875, 876, 877, 878, 879, 880, 881, 882, 883, 884, 885, 886, 887, 888, 889, 890, 891, 892, 893, 894, 895, 896, 897, 898] (by decide +kernel) (by decide +kernel)
set_option maxRecDepth 20000 in
theorem gL_law_X8_prove : GoodIn wsL_law (wsV RL 148 RX8 yX8_prove wsX8_prove) := goodIn_app (goodIn_of _ (by decide +kernel)) ggL_law_X8_prove
set_option maxRecDepth 20000 in
theorem ggL_law_L_offer : GoodIn wsL_law wsL_offer := goodIn_ca (goodIn_ca (goodIn_r _ [473, 101, 102, 474, 475, 476, 2, 477, 116, 117, 26, 18, 17, 478, 479, 194, 195, 196, 197, 110, 111, 16, 480, 481, 482, 483, 11, 12, 484, 125, 126, 485, 13, 486, 487, 488, 489, 490, 491, 492, 136, 137, 138, 139, 140, 141, 493, 494, 495, 496, 497, 203, 204, 205, 498, 151, 152, 153, 154, 155, 156, 157, 158, 159, 915, 916, 917, 918, 919, 920, 854, 855, 856, 857, 858, 859, 860, 929, 930, 931, 932, 933, 934, 935, 936, 921, 922, 923] (by decide +kernel) (by decide +kernel)) (goodIn_sub (fun _ h => List.mem_append_left _ (List.mem_append_right _ h)) (by decide +kernel))) (goodIn_sub (fun _ h => List.mem_append_left _ (List.mem_append_left _ (List.mem_append_right _ h))) (by decide +kernel))
set_option maxRecDepth 20000 in
theorem gL_law_L_offer : GoodIn wsL_law (va_wsS RL 149 yL_offer wsL_offer) := goodIn_app (goodIn_of _ (by decide +kernel)) ggL_law_L_offer
set_option maxRecDepth 20000 in
theorem ggL_law_X8_offer : GoodIn wsL_law wsX8_offer := goodIn_r _ [502, 164, 71, 414, 80, 69, 79, 68, 81, 70, 82, 83, 72, 84, 234, 235, 236, 5, 237, 165, 169, 170, 171, 172, 173, 174, 175, 861, 862, 863, 864, 865, 866, 867, 868, 869, 870, 871, 872, 873, 874, 875, 876, 877, 878, 879, 880, 881, 882, 883, 884, 885, 886, 887, 888, 889, 890, 891, 892, 893, 894, 895, 896, 897, 898] (by decide +kernel) (by decide +kernel)
set_option maxRecDepth 20000 in
theorem gL_law_X8_offer : GoodIn wsL_law (wsV RL 151 RX8 yX8_offer wsX8_offer) := goodIn_app (goodIn_of _ (by decide +kernel)) ggL_law_X8_offer
set_option maxRecDepth 20000 in
theorem ggL_law_L_copy : GoodIn wsL_law wsL_copy := goodIn_ca (goodIn_ca (goodIn_r _ [505, 101, 102, 506, 507, 508, 2, 509, 25, 316, 317, 318, 319, 110, 111, 18, 107, 108, 109, 510, 511, 512, 116, 117, 112, 113, 114, 115, 16, 15, 118, 119, 120, 121, 122, 123, 11, 12, 124, 125, 126, 127, 128, 129, 130, 131, 132, 133, 134, 135, 136, 137, 138, 13, 139, 140, 141, 142, 143, 144, 145, 146, 147, 148, 149, 513, 494, 495, 496, 497, 203, 204, 205, 498, 151, 152, 153, 154, 155, 156, 157, 158, 159, 915, 916, 917, 918, 919, 920, 929, 930, 931, 932, 933, 934, 935, 936, 854, 855, 856, 857, 858, 859, 860, 921, 922, 923, 924, 925, 926, 927, 928] (by decide +kernel) (by decide +kernel)) (goodIn_sub (fun _ h => List.mem_append_left _ (List.mem_append_left _ (List.mem_append_right _ h))) (by decide +kernel))) (goodIn_sub (fun _ h => List.mem_append_left _ (List.mem_append_right _ h)) (by decide +kernel))
set_option maxRecDepth 20000 in
theorem gL_law_L_copy : GoodIn wsL_law (va_wsS RL 152 yL_copy wsL_copy) := goodIn_app (goodIn_of _ (by decide +kernel)) ggL_law_L_copy
set_option maxRecDepth 20000 in
theorem ggL_law_X8_copy : GoodIn wsL_law wsX8_copy := goodIn_r _ [517, 164, 82, 165, 69, 80, 81, 518, 519, 520, 5, 521, 414, 169, 170, 171, 166, 167, 168, 172, 173, 174, 175, 176, 177, 178, 179, 68, 70, 71, 72, 861, 862, 863, 864, 865, 866, 867, 868, 869, 870, 871, 872, 873, 874, 875, 876, 877, 878, 879, 880, 881, 882, 883, 884, 885, 886, 887, 888, 889, 890, 891, 892, 893, 894, 895, 896, 897, 898] (by decide +kernel) (by decide +kernel)
set_option maxRecDepth 20000 in
theorem gL_law_X8_copy : GoodIn wsL_law (wsV RL 154 RX8 yX8_copy wsX8_copy) := goodIn_app (goodIn_of _ (by decide +kernel)) ggL_law_X8_copy
set_option maxRecDepth 20000 in
theorem ggL_law_L_star : GoodIn wsL_law wsL_star := goodIn_ca (goodIn_ca (goodIn_ca (goodIn_r _ [524, 101, 187, 102, 525, 526, 527, 2, 528, 192, 193, 116, 117, 316, 317, 318, 319, 110, 111, 18, 107, 108, 109, 510, 511, 512, 929, 930, 931, 932, 933, 934, 935, 936, 854, 855, 856, 857, 858, 859, 860] (by decide +kernel) (by decide +kernel)) (goodIn_sub (fun _ h => List.mem_append_right _ h) (by decide +kernel))) (goodIn_sub (fun _ h => List.mem_append_left _ (List.mem_append_right _ h)) (by decide +kernel))) (goodIn_sub (fun _ h => List.mem_append_left _ (List.mem_append_left _ (List.mem_append_right _ h))) (by decide +kernel))
set_option maxRecDepth 20000 in
theorem gL_law_L_star : GoodIn wsL_law (va_wsS RL 155 yL_star wsL_star) := goodIn_app (goodIn_of _ (by decide +kernel)) ggL_law_L_star
set_option maxRecDepth 20000 in
theorem ggL_law_X8_star : GoodIn wsL_law wsX8_star := goodIn_r _ [532, 164, 82, 79, 85, 518, 519, 520, 5, 521, 414, 169, 170, 171, 166, 167, 168, 172, 173, 174, 175, 861, 862, 863, 864, 865, 866, 867, 868, 869, 870, 871, 872, 873, 874, 875, 876, 877, 878, 879, 880, 881, 882, 883, 884, 885, 886, 887, 888, 889, 890, 891, 892, 893, 894, 895, 896, 897, 898] (by decide +kernel) (by decide +kernel)
set_option maxRecDepth 20000 in
theorem gL_law_X8_star : GoodIn wsL_law (wsV RL 157 RX8 yX8_star wsX8_star) := goodIn_app (goodIn_of _ (by decide +kernel)) ggL_law_X8_star
set_option maxRecDepth 20000 in
theorem ggL_law_L_run : GoodIn wsL_law wsL_run := goodIn_ca (goodIn_ca (goodIn_r _ [535, 101, 102, 536, 537, 538, 2, 539, 402, 403, 404, 405, 110, 111, 20, 316, 317, 318, 319, 18, 510, 511, 512, 116, 117, 540, 541, 542, 28, 543, 57, 59, 61, 544, 333, 334, 42, 335, 49, 50, 51, 336, 337, 338, 339, 48, 154, 155, 340, 203, 204, 126, 205, 139, 341, 342, 343, 344, 140, 545, 546, 547, 548, 58, 549, 550, 551, 479, 552, 487, 553, 554, 555, 556, 854, 855, 856, 857, 858, 859, 860, 929, 930, 931, 932, 933, 934, 935, 936, 906, 907, 908, 909, 910, 911, 912, 913, 914, 921, 922, 923] (by decide +kernel) (by decide +kernel)) (goodIn_sub (fun _ h => List.mem_append_left _ (List.mem_append_left _ (List.mem_append_right _ h))) (by decide +kernel))) (goodIn_sub (fun _ h => List.mem_append_left _ (List.mem_append_right _ h)) (by decide +kernel))
set_option maxRecDepth 20000 in
theorem gL_law_L_run : GoodIn wsL_law (va_wsS RL 158 yL_run wsL_run) := goodIn_app (goodIn_of _ (by decide +kernel)) ggL_law_L_run
set_option maxRecDepth 20000 in
theorem ggL_law_X8_run : GoodIn wsL_law wsX8_run := goodIn_r _ [560, 164, 82, 87, 91, 81, 166, 167, 5, 168, 169, 170, 171, 518, 519, 520, 521, 414, 172, 173, 174, 175, 427, 428, 429, 430, 431, 92, 80, 69, 93, 440, 441, 442, 443, 438, 439, 444, 445, 446, 447, 436, 437, 561, 562, 563, 564, 88, 89, 90, 86, 84, 861, 862, 863, 864, 865, 866, 867, 868, 869, 870, 871, 872, 873, 874, 875, 876, 877, 878, 879, 880, 881, 882, 883, 884, 885, 886, 887, 888, 889, 890, 891, 892, 893, 894, 895, 896, 897, 898] (by decide +kernel) (by decide +kernel)
set_option maxRecDepth 20000 in
theorem gL_law_X8_run : GoodIn wsL_law (wsV RL 160 RX8 yX8_run wsX8_run) := goodIn_app (goodIn_of _ (by decide +kernel)) ggL_law_X8_run
set_option maxRecDepth 20000 in
theorem ggL_law_L_step : GoodIn wsL_law wsL_step := goodIn_ca (goodIn_ca (goodIn_ca (goodIn_r _ [567, 101, 187, 102, 568, 569, 570, 2, 571, 192, 193, 116, 117, 402, 403, 404, 405, 110, 111, 20, 572, 573, 574, 28, 575, 57, 59, 61, 576, 382, 383, 42, 384, 49, 51, 385, 374, 375, 376, 48, 377, 378, 379, 380, 50, 340, 203, 204, 126, 205, 139, 386, 387, 388, 389, 336, 337, 338, 339, 154, 155, 341, 342, 343, 344, 140, 390, 391, 392, 393, 394, 395, 396, 397, 52, 545, 546, 547, 548, 58, 549, 550, 551, 479, 552, 487, 553, 554, 555, 556, 906, 907, 908, 909, 854, 855, 856, 857, 858, 859, 860, 929, 930, 931, 932, 933, 934, 935, 936, 910, 911, 912, 913, 914, 921, 922, 923] (by decide +kernel) (by decide +kernel)) (goodIn_sub (fun _ h => List.mem_append_right _ h) (by decide +kernel))) (goodIn_sub (fun _ h => List.mem_append_left _ (List.mem_append_right _ h)) (by decide +kernel))) (goodIn_sub (fun _ h => List.mem_append_left _ (List.mem_append_left _ (List.mem_append_right _ h))) (by decide +kernel))
set_option maxRecDepth 20000 in
theorem gL_law_L_step : GoodIn wsL_law (va_wsS RL 161 yL_step wsL_step) := goodIn_app (goodIn_of _ (by decide +kernel)) ggL_law_L_step
set_option maxRecDepth 20000 in
theorem ggL_law_X8_step : GoodIn wsL_law wsX8_step := goodIn_r _ [580, 164, 86, 91, 87, 88, 437, 89, 438, 90, 439, 436, 166, 167, 5, 168, 169, 170, 171, 172, 173, 174, 175, 427, 428, 429, 430, 431, 92, 80, 69, 93, 452, 453, 454, 455, 67, 456, 457, 458, 459, 444, 445, 446, 447, 561, 562, 563, 564, 84, 861, 862, 863, 864, 865, 866, 867, 868, 869, 870, 871, 872, 873, 874, 875, 876, 877, 878, 879, 880, 881, 882, 883, 884, 885, 886, 887, 888, 889, 890, 891, 892, 893, 894, 895, 896, 897, 898] (by decide +kernel) (by decide +kernel)
set_option maxRecDepth 20000 in
theorem gL_law_X8_step : GoodIn wsL_law (wsV RL 163 RX8 yX8_step wsX8_step) := goodIn_app (goodIn_of _ (by decide +kernel)) ggL_law_X8_step
set_option maxRecDepth 20000 in
theorem ggL_law_X7_levels : GoodIn wsL_law wsX7_levels := goodIn_r _ [584, 25, 854, 855, 856, 857, 858, 859, 860] (by decide +kernel) (by decide +kernel)
set_option maxRecDepth 20000 in
theorem gL_law_X7_levels : GoodIn wsL_law (wsV RL 164 RX7 yX7_levels wsX7_levels) := goodIn_app (goodIn_of _ (by decide +kernel)) ggL_law_X7_levels
set_option maxRecDepth 20000 in
theorem ggL_law_X8_levels : GoodIn wsL_law wsX8_levels := goodIn_r _ [588, 164, 165, 861, 862, 863, 864, 865, 866, 867, 868, 869, 870, 871, 872, 873, 874, 875, 876, 877, 878, 879, 880, 881, 882, 883, 884, 885, 886, 887, 888, 889, 890, 891, 892, 893, 894, 895, 896, 897, 898] (by decide +kernel) (by decide +kernel)
set_option maxRecDepth 20000 in
theorem gL_law_X8_levels : GoodIn wsL_law (wsV RL 167 RX8 yX8_levels wsX8_levels) := goodIn_app (goodIn_of _ (by decide +kernel)) ggL_law_X8_levels
set_option maxRecDepth 20000 in
theorem ggL_law_L_at : GoodIn wsL_law wsL_at := goodIn_ca (goodIn_r _ [591, 101, 592, 593, 594, 2, 595, 194, 195, 196, 197, 110, 111, 16, 198, 199, 200, 201, 154, 155, 202, 203, 204, 126, 205, 139, 915, 916, 917, 918, 919, 920, 854, 855, 856, 857, 858, 859, 860, 921, 922, 923] (by decide +kernel) (by decide +kernel)) (goodIn_sub (fun _ h => List.mem_append_left _ (List.mem_append_left _ (List.mem_append_right _ h))) (by decide +kernel))
set_option maxRecDepth 20000 in
theorem gL_law_L_at : GoodIn wsL_law (va_wsS RL 168 yL_at wsL_at) := goodIn_app (goodIn_of _ (by decide +kernel)) ggL_law_L_at
set_option maxRecDepth 20000 in
theorem ggL_law_X8_at : GoodIn wsL_law wsX8_at := goodIn_r _ [599, 164, 69, 234, 235, 236, 5, 237, 165, 169, 170, 171, 238, 239, 240, 172, 173, 174, 175, 861, 862, 863, 864, 865, 866, 867, 868, 869, 870, 871, 872, 873, 874, 875, 876, 877, 878, 879, 880, 881, 882, 883, 884, 885, 886, 887, 888, 889, 890, 891, 892, 893, 894, 895, 896, 897, 898] (by decide +kernel) (by decide +kernel)
set_option maxRecDepth 20000 in
theorem gL_law_X8_at : GoodIn wsL_law (wsV RL 170 RX8 yX8_at wsX8_at) := goodIn_app (goodIn_of _ (by decide +kernel)) ggL_law_X8_at
set_option maxRecDepth 20000 in
theorem ggL_law_L_start : GoodIn wsL_law wsL_start := goodIn_ca (goodIn_r _ [602, 101, 603, 604, 605, 2, 606, 194, 195, 196, 197, 110, 111, 16, 915, 916, 917, 918, 919, 920, 854, 855, 856, 857, 858, 859, 860] (by decide +kernel) (by decide +kernel)) (goodIn_sub (fun _ h => List.mem_append_left _ (List.mem_append_left _ (List.mem_append_right _ h))) (by decide +kernel))
set_option maxRecDepth 20000 in
theorem gL_law_L_start : GoodIn wsL_law (va_wsS RL 171 yL_start wsL_start) := goodIn_app (goodIn_of _ (by decide +kernel)) ggL_law_L_start
set_option maxRecDepth 20000 in
theorem ggL_law_X8_start : GoodIn wsL_law wsX8_start := goodIn_r _ [610, 164, 70, 234, 235, 236, 5, 237, 165, 169, 170, 171, 172, 173, 174, 175, 861, 862, 863, 864, 865, 866, 867, 868, 869, 870, 871, 872, 873, 874, 875, 876, 877, 878, 879, 880, 881, 882, 883, 884, 885, 886, 887, 888, 889, 890, 891, 892, 893, 894, 895, 896, 897, 898] (by decide +kernel) (by decide +kernel)
set_option maxRecDepth 20000 in
theorem gL_law_X8_start : GoodIn wsL_law (wsV RL 173 RX8 yX8_start wsX8_start) := goodIn_app (goodIn_of _ (by decide +kernel)) ggL_law_X8_start
set_option maxRecDepth 20000 in
theorem ggL_law_L_edits : GoodIn wsL_law wsL_edits := goodIn_ca (goodIn_r _ [613, 101, 614, 615, 616, 2, 617, 194, 195, 196, 197, 110, 111, 16, 915, 916, 917, 918, 919, 920, 924, 925, 926, 927, 928, 854, 855, 856, 857, 858, 859, 860] (by decide +kernel) (by decide +kernel)) (goodIn_sub (fun _ h => List.mem_append_left _ (List.mem_append_left _ (List.mem_append_right _ h))) (by decide +kernel))
set_option maxRecDepth 20000 in
theorem gL_law_L_edits : GoodIn wsL_law (va_wsS RL 174 yL_edits wsL_edits) := goodIn_app (goodIn_of _ (by decide +kernel)) ggL_law_L_edits
set_option maxRecDepth 20000 in
theorem ggL_law_X8_edits : GoodIn wsL_law wsX8_edits := goodIn_r _ [621, 164, 73, 76, 234, 235, 236, 5, 237, 165, 169, 170, 171, 172, 173, 174, 175, 861, 862, 863, 864, 865, 866, 867, 868, 869, 870, 871, 872, 873, 874, 875, 876, 877, 878, 879, 880, 881, 882, 883, 884, 885, 886, 887, 888, 889, 890, 891, 892, 893, 894, 895, 896, 897, 898] (by decide +kernel) (by decide +kernel)
set_option maxRecDepth 20000 in
theorem gL_law_X8_edits : GoodIn wsL_law (wsV RL 177 RX8 yX8_edits wsX8_edits) := goodIn_app (goodIn_of _ (by decide +kernel)) ggL_law_X8_edits
set_option maxRecDepth 20000 in
theorem ggL_law_L_proof : GoodIn wsL_law wsL_proof := goodIn_ca (goodIn_r _ [624, 101, 625, 626, 627, 2, 628, 194, 195, 196, 197, 110, 111, 16, 915, 916, 917, 918, 919, 920, 854, 855, 856, 857, 858, 859, 860] (by decide +kernel) (by decide +kernel)) (goodIn_sub (fun _ h => List.mem_append_left _ (List.mem_append_left _ (List.mem_append_right _ h))) (by decide +kernel))
set_option maxRecDepth 20000 in
theorem gL_law_L_proof : GoodIn wsL_law (va_wsS RL 178 yL_proof wsL_proof) := goodIn_app (goodIn_of _ (by decide +kernel)) ggL_law_L_proof
set_option maxRecDepth 20000 in
theorem ggL_law_X8_proof : GoodIn wsL_law wsX8_proof := goodIn_r _ [632, 164, 71, 234, 235, 236, 5, 237, 165, 169, 170, 171, 172, 173, 174, 175, 861, 862, 863, 864, 865, 866, 867, 868, 869, 870, 871, 872, 873, 874, 875, 876, 877, 878, 879, 880, 881, 882, 883, 884, 885, 886, 887, 888, 889, 890, 891, 892, 893, 894, 895, 896, 897, 898] (by decide +kernel) (by decide +kernel)
set_option maxRecDepth 20000 in
theorem gL_law_X8_proof : GoodIn wsL_law (wsV RL 180 RX8 yX8_proof wsX8_proof) := goodIn_app (goodIn_of _ (by decide +kernel)) ggL_law_X8_proof
set_option maxRecDepth 20000 in
theorem ggL_law_L_shortest : GoodIn wsL_law wsL_shortest := goodIn_ca (goodIn_ca (goodIn_r _ [635, 101, 187, 636, 637, 638, 2, 639, 192, 193, 24, 194, 195, 196, 197, 110, 111, 16, 640, 641, 642, 23, 643, 43, 38, 328, 329, 330, 331, 37, 39, 36, 332, 333, 334, 42, 335, 49, 50, 51, 336, 337, 338, 339, 48, 154, 155, 340, 203, 204, 126, 205, 139, 341, 342, 343, 344, 140, 349, 350, 351, 352, 357, 358, 359, 360, 33, 361, 362, 363, 364, 644, 645, 646, 647, 369, 370, 371, 372, 381, 382, 383, 384, 385, 374, 375, 376, 377, 378, 379, 380, 386, 387, 388, 389, 390, 391, 392, 393, 394, 395, 396, 397, 52, 854, 855, 856, 857, 858, 859, 860, 915, 916, 917, 918, 919, 920, 899, 900, 901, 902, 903, 904, 905, 910, 911, 912, 913, 914, 921, 922, 923] (by decide +kernel) (by decide +kernel)) (goodIn_sub (fun _ h => List.mem_append_right _ h) (by decide +kernel))) (goodIn_sub (fun _ h => List.mem_append_left _ (List.mem_append_left _ (List.mem_append_right _ h))) (by decide +kernel))
set_option maxRecDepth 20000 in
theorem gL_law_L_shortest : GoodIn wsL_law (va_wsS RL 181 yL_shortest wsL_shortest) := goodIn_app (goodIn_of _ (by decide +kernel)) ggL_law_L_shortest
set_option maxRecDepth 20000 in
theorem ggL_law_X8_shortest : GoodIn wsL_law wsX8_shortest := goodIn_r _ [651, 164, 70, 234, 235, 236, 5, 237, 165, 169, 170, 171, 172, 173, 174, 175, 427, 428, 429, 430, 431, 92, 80, 69, 93, 432, 433, 434, 435, 95, 96, 436, 94, 437, 438, 439, 440, 441, 442, 443, 444, 445, 446, 447, 448, 449, 450, 451, 452, 453, 454, 455, 67, 456, 457, 458, 459, 861, 862, 863, 864, 865, 866, 867, 868, 869, 870, 871, 872, 873, 874, 875, 876, 877, 878, 879, 880, 881, 882, 883, 884, 885, 886, 887, 888, 889, 890, 891, 892, 893, 894, 895, 896, 897, 898] (by decide +kernel) (by decide +kernel)
set_option maxRecDepth 20000 in
theorem gL_law_X8_shortest : GoodIn wsL_law (wsV RL 183 RX8 yX8_shortest wsX8_shortest) := goodIn_app (goodIn_of _ (by decide +kernel)) ggL_law_X8_shortest
set_option maxRecDepth 20000 in
theorem ggL_law_L_reach : GoodIn wsL_law wsL_reach := goodIn_ca (goodIn_r _ [654, 101, 655, 656, 657, 2, 658, 24, 194, 195, 196, 197, 110, 111, 16, 324, 325, 326, 23, 327, 43, 38, 39, 328, 329, 330, 331, 37, 36, 332, 333, 334, 42, 335, 49, 50, 51, 336, 337, 338, 339, 48, 154, 155, 340, 203, 204, 126, 205, 139, 341, 342, 343, 344, 140, 345, 346, 347, 348, 349, 350, 351, 352, 353, 354, 355, 356, 34, 357, 358, 359, 360, 33, 361, 362, 363, 364, 365, 366, 367, 368, 369, 370, 371, 372, 373, 374, 375, 376, 377, 378, 379, 380, 381, 382, 383, 384, 385, 386, 387, 388, 389, 390, 391, 392, 393, 394, 395, 396, 397, 52, 659, 660, 661, 662, 854, 855, 856, 857, 858, 859, 860, 915, 916, 917, 918, 919, 920, 899, 900, 901, 902, 903, 904, 905, 910, 911, 912, 913, 914, 921, 922, 923] (by decide +kernel) (by decide +kernel)) (goodIn_sub (fun _ h => List.mem_append_left _ (List.mem_append_left _ (List.mem_append_right _ h))) (by decide +kernel))
set_option maxRecDepth 20000 in
theorem gL_law_L_reach : GoodIn wsL_law (va_wsS RL 184 yL_reach wsL_reach) := goodIn_app (goodIn_of _ (by decide +kernel)) ggL_law_L_reach
set_option maxRecDepth 20000 in
theorem ggL_law_X8_reach : GoodIn wsL_law wsX8_reach := goodIn_r _ [666, 164, 70, 96, 234, 235, 236, 5, 237, 165, 169, 170, 171, 172, 173, 174, 175, 427, 428, 429, 430, 431, 92, 80, 69, 93, 432, 433, 434, 435, 95, 436, 94, 437, 438, 439, 440, 441, 442, 443, 444, 445, 446, 447, 448, 449, 450, 451, 452, 453, 454, 455, 67, 456, 457, 458, 459, 861, 862, 863, 864, 865, 866, 867, 868, 869, 870, 871, 872, 873, 874, 875, 876, 877, 878, 879, 880, 881, 882, 883, 884, 885, 886, 887, 888, 889, 890, 891, 892, 893, 894, 895, 896, 897, 898] (by decide +kernel) (by decide +kernel)
set_option maxRecDepth 20000 in
theorem gL_law_X8_reach : GoodIn wsL_law (wsV RL 186 RX8 yX8_reach wsX8_reach) := goodIn_app (goodIn_of _ (by decide +kernel)) ggL_law_X8_reach
set_option maxRecDepth 20000 in
theorem ggL_law_L_farthest : GoodIn wsL_law wsL_farthest := goodIn_ca (goodIn_r _ [669, 101, 670, 671, 672, 2, 673, 24, 194, 195, 196, 197, 110, 111, 16, 324, 325, 326, 23, 327, 43, 38, 39, 328, 329, 330, 331, 37, 36, 332, 333, 334, 42, 335, 49, 50, 51, 336, 337, 338, 339, 48, 154, 155, 340, 203, 204, 126, 205, 139, 341, 342, 343, 344, 140, 345, 346, 347, 348, 349, 350, 351, 352, 353, 354, 355, 356, 34, 357, 358, 359, 360, 33, 361, 362, 363, 364, 365, 366, 367, 368, 369, 370, 371, 372, 373, 374, 375, 376, 377, 378, 379, 380, 381, 382, 383, 384, 385, 386, 387, 388, 389, 390, 391, 392, 393, 394, 395, 396, 397, 52, 674, 675, 676, 677, 854, 855, 856, 857, 858, 859, 860, 915, 916, 917, 918, 919, 920, 899, 900, 901, 902, 903, 904, 905, 910, 911, 912, 913, 914, 921, 922, 923] (by decide +kernel) (by decide +kernel)) (goodIn_sub (fun _ h => List.mem_append_left _ (List.mem_append_left _ (List.mem_append_right _ h))) (by decide +kernel))
set_option maxRecDepth 20000 in
theorem gL_law_L_farthest : GoodIn wsL_law (va_wsS RL 187 yL_farthest wsL_farthest) := goodIn_app (goodIn_of _ (by decide +kernel)) ggL_law_L_farthest
set_option maxRecDepth 20000 in
theorem ggL_law_X8_farthest : GoodIn wsL_law wsX8_farthest := goodIn_r _ [681, 164, 70, 96, 234, 235, 236, 5, 237, 165, 169, 170, 171, 172, 173, 174, 175, 427, 428, 429, 430, 431, 92, 80, 69, 93, 432, 433, 434, 435, 95, 436, 94, 437, 438, 439, 440, 441, 442, 443, 444, 445, 446, 447, 448, 449, 450, 451, 452, 453, 454, 455, 67, 456, 457, 458, 459, 861, 862, 863, 864, 865, 866, 867, 868, 869, 870, 871, 872, 873, 874, 875, 876, 877, 878, 879, 880, 881, 882, 883, 884, 885, 886, 887, 888, 889, 890, 891, 892, 893, 894, 895, 896, 897, 898] (by decide +kernel) (by decide +kernel)
set_option maxRecDepth 20000 in
theorem gL_law_X8_farthest : GoodIn wsL_law (wsV RL 189 RX8 yX8_farthest wsX8_farthest) := goodIn_app (goodIn_of _ (by decide +kernel)) ggL_law_X8_farthest
set_option maxRecDepth 20000 in
theorem ggL_law_L_strength : GoodIn wsL_law wsL_strength := goodIn_ca (goodIn_r _ [684, 101, 685, 686, 687, 2, 688, 14, 313, 314, 315, 110, 111, 854, 855, 856, 857, 858, 859, 860] (by decide +kernel) (by decide +kernel)) (goodIn_sub (fun _ h => List.mem_append_left _ (List.mem_append_left _ (List.mem_append_right _ h))) (by decide +kernel))
set_option maxRecDepth 20000 in
theorem gL_law_L_strength : GoodIn wsL_law (va_wsS RL 190 yL_strength wsL_strength) := goodIn_app (goodIn_of _ (by decide +kernel)) ggL_law_L_strength
set_option maxRecDepth 20000 in
theorem ggL_law_X8_strength : GoodIn wsL_law wsX8_strength := goodIn_r _ [692, 164, 67, 169, 170, 5, 171, 172, 173, 174, 175, 861, 862, 863, 864, 865, 866, 867, 868, 869, 870, 871, 872, 873, 874, 875, 876, 877, 878, 879, 880, 881, 882, 883, 884, 885, 886, 887, 888, 889, 890, 891, 892, 893, 894, 895, 896, 897, 898] (by decide +kernel) (by decide +kernel)
set_option maxRecDepth 20000 in
theorem gL_law_X8_strength : GoodIn wsL_law (wsV RL 192 RX8 yX8_strength wsX8_strength) := goodIn_app (goodIn_of _ (by decide +kernel)) ggL_law_X8_strength
set_option maxRecDepth 20000 in
theorem ggL_law_X7_works : GoodIn wsL_law wsX7_works := goodIn_r _ [696, 26, 854, 855, 856, 857, 858, 859, 860] (by decide +kernel) (by decide +kernel)
set_option maxRecDepth 20000 in
theorem gL_law_X7_works : GoodIn wsL_law (wsV RL 193 RX7 yX7_works wsX7_works) := goodIn_app (goodIn_of _ (by decide +kernel)) ggL_law_X7_works
set_option maxRecDepth 20000 in
theorem ggL_law_X8_works : GoodIn wsL_law wsX8_works := goodIn_r _ [700, 164, 414, 861, 862, 863, 864, 865, 866, 867, 868, 869, 870, 871, 872, 873, 874, 875, 876, 877, 878, 879, 880, 881, 882, 883, 884, 885, 886, 887, 888, 889, 890, 891, 892, 893, 894, 895, 896, 897, 898] (by decide +kernel) (by decide +kernel)
set_option maxRecDepth 20000 in
theorem gL_law_X8_works : GoodIn wsL_law (wsV RL 196 RX8 yX8_works wsX8_works) := goodIn_app (goodIn_of _ (by decide +kernel)) ggL_law_X8_works
set_option maxRecDepth 20000 in
theorem ggL_law_L_author : GoodIn wsL_law wsL_author := goodIn_ca (goodIn_r _ [703, 101, 704, 705, 706, 2, 707, 316, 317, 318, 319, 110, 111, 18, 929, 930, 931, 932, 933, 934, 935, 936, 854, 855, 856, 857, 858, 859, 860] (by decide +kernel) (by decide +kernel)) (goodIn_sub (fun _ h => List.mem_append_left _ (List.mem_append_left _ (List.mem_append_right _ h))) (by decide +kernel))
set_option maxRecDepth 20000 in
theorem gL_law_L_author : GoodIn wsL_law (va_wsS RL 197 yL_author wsL_author) := goodIn_app (goodIn_of _ (by decide +kernel)) ggL_law_L_author
set_option maxRecDepth 20000 in
theorem ggL_law_X8_author : GoodIn wsL_law wsX8_author := goodIn_r _ [711, 164, 79, 518, 519, 520, 5, 521, 414, 169, 170, 171, 172, 173, 174, 175, 861, 862, 863, 864, 865, 866, 867, 868, 869, 870, 871, 872, 873, 874, 875, 876, 877, 878, 879, 880, 881, 882, 883, 884, 885, 886, 887, 888, 889, 890, 891, 892, 893, 894, 895, 896, 897, 898] (by decide +kernel) (by decide +kernel)
set_option maxRecDepth 20000 in
theorem gL_law_X8_author : GoodIn wsL_law (wsV RL 199 RX8 yX8_author wsX8_author) := goodIn_app (goodIn_of _ (by decide +kernel)) ggL_law_X8_author
set_option maxRecDepth 20000 in
theorem ggL_law_L_best : GoodIn wsL_law wsL_best := goodIn_ca (goodIn_r _ [714, 101, 715, 716, 717, 2, 718, 316, 317, 318, 319, 110, 111, 18, 929, 930, 931, 932, 933, 934, 935, 936, 854, 855, 856, 857, 858, 859, 860] (by decide +kernel) (by decide +kernel)) (goodIn_sub (fun _ h => List.mem_append_left _ (List.mem_append_left _ (List.mem_append_right _ h))) (by decide +kernel))
set_option maxRecDepth 20000 in
theorem gL_law_L_best : GoodIn wsL_law (va_wsS RL 200 yL_best wsL_best) := goodIn_app (goodIn_of _ (by decide +kernel)) ggL_law_L_best
set_option maxRecDepth 20000 in
theorem ggL_law_X8_best : GoodIn wsL_law wsX8_best := goodIn_r _ [722, 164, 82, 518, 519, 520, 5, 521, 414, 169, 170, 171, 172, 173, 174, 175, 861, 862, 863, 864, 865, 866, 867, 868, 869, 870, 871, 872, 873, 874, 875, 876, 877, 878, 879, 880, 881, 882, 883, 884, 885, 886, 887, 888, 889, 890, 891, 892, 893, 894, 895, 896, 897, 898] (by decide +kernel) (by decide +kernel)
set_option maxRecDepth 20000 in
theorem gL_law_X8_best : GoodIn wsL_law (wsV RL 202 RX8 yX8_best wsX8_best) := goodIn_app (goodIn_of _ (by decide +kernel)) ggL_law_X8_best
set_option maxRecDepth 20000 in
theorem ggL_law_L_parent : GoodIn wsL_law wsL_parent := goodIn_ca (goodIn_r _ [725, 101, 726, 727, 728, 2, 729, 316, 317, 318, 319, 110, 111, 18, 929, 930, 931, 932, 933, 934, 935, 936, 854, 855, 856, 857, 858, 859, 860] (by decide +kernel) (by decide +kernel)) (goodIn_sub (fun _ h => List.mem_append_left _ (List.mem_append_left _ (List.mem_append_right _ h))) (by decide +kernel))
set_option maxRecDepth 20000 in
theorem gL_law_L_parent : GoodIn wsL_law (va_wsS RL 203 yL_parent wsL_parent) := goodIn_app (goodIn_of _ (by decide +kernel)) ggL_law_L_parent
set_option maxRecDepth 20000 in
theorem ggL_law_X8_parent : GoodIn wsL_law wsX8_parent := goodIn_r _ [733, 164, 83, 518, 519, 520, 5, 521, 414, 169, 170, 171, 172, 173, 174, 175, 861, 862, 863, 864, 865, 866, 867, 868, 869, 870, 871, 872, 873, 874, 875, 876, 877, 878, 879, 880, 881, 882, 883, 884, 885, 886, 887, 888, 889, 890, 891, 892, 893, 894, 895, 896, 897, 898] (by decide +kernel) (by decide +kernel)
set_option maxRecDepth 20000 in
theorem gL_law_X8_parent : GoodIn wsL_law (wsV RL 205 RX8 yX8_parent wsX8_parent) := goodIn_app (goodIn_of _ (by decide +kernel)) ggL_law_X8_parent
set_option maxRecDepth 20000 in
theorem ggL_law_L_line : GoodIn wsL_law wsL_line := goodIn_ca (goodIn_r _ [736, 101, 737, 738, 739, 2, 740, 26, 316, 317, 318, 319, 110, 111, 18, 741, 742, 743, 479, 744, 490, 854, 855, 856, 857, 858, 859, 860, 929, 930, 931, 932, 933, 934, 935, 936] (by decide +kernel) (by decide +kernel)) (goodIn_sub (fun _ h => List.mem_append_left _ (List.mem_append_left _ (List.mem_append_right _ h))) (by decide +kernel))
set_option maxRecDepth 20000 in
theorem gL_law_L_line : GoodIn wsL_law (va_wsS RL 206 yL_line wsL_line) := goodIn_app (goodIn_of _ (by decide +kernel)) ggL_law_L_line
set_option maxRecDepth 20000 in
theorem ggL_law_X8_line : GoodIn wsL_law wsX8_line := goodIn_r _ [748, 164, 414, 518, 519, 520, 5, 521, 169, 170, 171, 172, 173, 174, 175, 749, 750, 751, 752, 83, 861, 862, 863, 864, 865, 866, 867, 868, 869, 870, 871, 872, 873, 874, 875, 876, 877, 878, 879, 880, 881, 882, 883, 884, 885, 886, 887, 888, 889, 890, 891, 892, 893, 894, 895, 896, 897, 898] (by decide +kernel) (by decide +kernel)
set_option maxRecDepth 20000 in
theorem gL_law_X8_line : GoodIn wsL_law (wsV RL 208 RX8 yX8_line wsX8_line) := goodIn_app (goodIn_of _ (by decide +kernel)) ggL_law_X8_line
set_option maxRecDepth 20000 in
theorem ggL_law_L_stars : GoodIn wsL_law wsL_stars := goodIn_ca (goodIn_r _ [755, 101, 756, 757, 758, 2, 759, 316, 317, 318, 319, 110, 111, 18, 760, 761, 762, 479, 763, 486, 854, 855, 856, 857, 858, 859, 860, 929, 930, 931, 932, 933, 934, 935, 936] (by decide +kernel) (by decide +kernel)) (goodIn_sub (fun _ h => List.mem_append_left _ (List.mem_append_left _ (List.mem_append_right _ h))) (by decide +kernel))
set_option maxRecDepth 20000 in
theorem gL_law_L_stars : GoodIn wsL_law (va_wsS RL 209 yL_stars wsL_stars) := goodIn_app (goodIn_of _ (by decide +kernel)) ggL_law_L_stars
set_option maxRecDepth 20000 in
theorem ggL_law_X8_stars : GoodIn wsL_law wsX8_stars := goodIn_r _ [767, 164, 518, 519, 520, 5, 521, 414, 169, 170, 171, 768, 769, 770, 771, 85, 172, 173, 174, 175, 861, 862, 863, 864, 865, 866, 867, 868, 869, 870, 871, 872, 873, 874, 875, 876, 877, 878, 879, 880, 881, 882, 883, 884, 885, 886, 887, 888, 889, 890, 891, 892, 893, 894, 895, 896, 897, 898] (by decide +kernel) (by decide +kernel)
set_option maxRecDepth 20000 in
theorem gL_law_X8_stars : GoodIn wsL_law (wsV RL 211 RX8 yX8_stars wsX8_stars) := goodIn_app (goodIn_of _ (by decide +kernel)) ggL_law_X8_stars
set_option maxRecDepth 20000 in
theorem ggL_law_L_credit : GoodIn wsL_law wsL_credit := goodIn_ca (goodIn_r _ [774, 101, 775, 776, 777, 2, 778, 26, 107, 108, 109, 110, 111, 316, 317, 318, 319, 18, 779, 780, 781, 479, 782, 489, 490, 760, 761, 762, 763, 486, 854, 855, 856, 857, 858, 859, 860, 929, 930, 931, 932, 933, 934, 935, 936] (by decide +kernel) (by decide +kernel)) (goodIn_sub (fun _ h => List.mem_append_left _ (List.mem_append_left _ (List.mem_append_right _ h))) (by decide +kernel))
set_option maxRecDepth 20000 in
theorem gL_law_L_credit : GoodIn wsL_law (va_wsS RL 212 yL_credit wsL_credit) := goodIn_app (goodIn_of _ (by decide +kernel)) ggL_law_L_credit
set_option maxRecDepth 20000 in
theorem ggL_law_X8_credit : GoodIn wsL_law wsX8_credit := goodIn_r _ [786, 164, 414, 79, 83, 166, 167, 5, 168, 169, 170, 171, 172, 173, 174, 175, 768, 769, 770, 771, 85, 861, 862, 863, 864, 865, 866, 867, 868, 869, 870, 871, 872, 873, 874, 875, 876, 877, 878, 879, 880, 881, 882, 883, 884, 885, 886, 887, 888, 889, 890, 891, 892, 893, 894, 895, 896, 897, 898] (by decide +kernel) (by decide +kernel)
set_option maxRecDepth 20000 in
theorem gL_law_X8_credit : GoodIn wsL_law (wsV RL 214 RX8 yX8_credit wsX8_credit) := goodIn_app (goodIn_of _ (by decide +kernel)) ggL_law_X8_credit
set_option maxRecDepth 20000 in
theorem ggL_law_L_record : GoodIn wsL_law wsL_record := goodIn_ca (goodIn_r _ [789, 101, 790, 791, 792, 2, 793, 316, 317, 318, 319, 110, 111, 18, 929, 930, 931, 932, 933, 934, 935, 936, 854, 855, 856, 857, 858, 859, 860] (by decide +kernel) (by decide +kernel)) (goodIn_sub (fun _ h => List.mem_append_left _ (List.mem_append_left _ (List.mem_append_right _ h))) (by decide +kernel))
set_option maxRecDepth 20000 in
theorem gL_law_L_record : GoodIn wsL_law (va_wsS RL 215 yL_record wsL_record) := goodIn_app (goodIn_of _ (by decide +kernel)) ggL_law_L_record
set_option maxRecDepth 20000 in
theorem ggL_law_X8_record : GoodIn wsL_law wsX8_record := goodIn_r _ [797, 164, 84, 518, 519, 520, 5, 521, 414, 169, 170, 171, 172, 173, 174, 175, 861, 862, 863, 864, 865, 866, 867, 868, 869, 870, 871, 872, 873, 874, 875, 876, 877, 878, 879, 880, 881, 882, 883, 884, 885, 886, 887, 888, 889, 890, 891, 892, 893, 894, 895, 896, 897, 898] (by decide +kernel) (by decide +kernel)
set_option maxRecDepth 20000 in
theorem gL_law_X8_record : GoodIn wsL_law (wsV RL 217 RX8 yX8_record wsX8_record) := goodIn_app (goodIn_of _ (by decide +kernel)) ggL_law_X8_record
set_option maxRecDepth 20000 in
theorem ggL_law_L_runState : GoodIn wsL_law wsL_runState := goodIn_ca (goodIn_r _ [800, 101, 801, 802, 803, 2, 804, 402, 403, 404, 405, 110, 111, 20, 906, 907, 908, 909, 854, 855, 856, 857, 858, 859, 860] (by decide +kernel) (by decide +kernel)) (goodIn_sub (fun _ h => List.mem_append_left _ (List.mem_append_left _ (List.mem_append_right _ h))) (by decide +kernel))
set_option maxRecDepth 20000 in
theorem gL_law_L_runState : GoodIn wsL_law (va_wsS RL 218 yL_runState wsL_runState) := goodIn_app (goodIn_of _ (by decide +kernel)) ggL_law_L_runState
set_option maxRecDepth 20000 in
theorem ggL_law_X8_runState : GoodIn wsL_law wsX8_runState := goodIn_r _ [808, 164, 86, 166, 167, 5, 168, 169, 170, 171, 172, 173, 174, 175, 861, 862, 863, 864, 865, 866, 867, 868, 869, 870, 871, 872, 873, 874, 875, 876, 877, 878, 879, 880, 881, 882, 883, 884, 885, 886, 887, 888, 889, 890, 891, 892, 893, 894, 895, 896, 897, 898] (by decide +kernel) (by decide +kernel)
set_option maxRecDepth 20000 in
theorem gL_law_X8_runState : GoodIn wsL_law (wsV RL 220 RX8 yX8_runState wsX8_runState) := goodIn_app (goodIn_of _ (by decide +kernel)) ggL_law_X8_runState
set_option maxRecDepth 20000 in
theorem ggL_law_L_body : GoodIn wsL_law wsL_body := goodIn_ca (goodIn_r _ [811, 101, 812, 813, 814, 2, 815, 402, 403, 404, 405, 110, 111, 20, 906, 907, 908, 909, 910, 911, 912, 913, 914, 854, 855, 856, 857, 858, 859, 860] (by decide +kernel) (by decide +kernel)) (goodIn_sub (fun _ h => List.mem_append_left _ (List.mem_append_left _ (List.mem_append_right _ h))) (by decide +kernel))
set_option maxRecDepth 20000 in
theorem gL_law_L_body : GoodIn wsL_law (va_wsS RL 221 yL_body wsL_body) := goodIn_app (goodIn_of _ (by decide +kernel)) ggL_law_L_body
set_option maxRecDepth 20000 in
theorem ggL_law_X8_body : GoodIn wsL_law wsX8_body := goodIn_r _ [819, 164, 86, 88, 166, 167, 5, 168, 169, 170, 171, 172, 173, 174, 175, 861, 862, 863, 864, 865, 866, 867, 868, 869, 870, 871, 872, 873, 874, 875, 876, 877, 878, 879, 880, 881, 882, 883, 884, 885, 886, 887, 888, 889, 890, 891, 892, 893, 894, 895, 896, 897, 898] (by decide +kernel) (by decide +kernel)
set_option maxRecDepth 20000 in
theorem gL_law_X8_body : GoodIn wsL_law (wsV RL 223 RX8 yX8_body wsX8_body) := goodIn_app (goodIn_of _ (by decide +kernel)) ggL_law_X8_body
set_option maxRecDepth 20000 in
theorem ggL_law_L_speed : GoodIn wsL_law wsL_speed := goodIn_ca (goodIn_r _ [822, 101, 823, 824, 825, 2, 826, 402, 403, 404, 405, 110, 111, 20, 906, 907, 908, 909, 910, 911, 912, 913, 914, 854, 855, 856, 857, 858, 859, 860] (by decide +kernel) (by decide +kernel)) (goodIn_sub (fun _ h => List.mem_append_left _ (List.mem_append_left _ (List.mem_append_right _ h))) (by decide +kernel))
set_option maxRecDepth 20000 in
theorem gL_law_L_speed : GoodIn wsL_law (va_wsS RL 224 yL_speed wsL_speed) := goodIn_app (goodIn_of _ (by decide +kernel)) ggL_law_L_speed
set_option maxRecDepth 20000 in
theorem ggL_law_X8_speed : GoodIn wsL_law wsX8_speed := goodIn_r _ [830, 164, 89, 166, 167, 5, 168, 169, 170, 171, 172, 173, 174, 175, 861, 862, 863, 864, 865, 866, 867, 868, 869, 870, 871, 872, 873, 874, 875, 876, 877, 878, 879, 880, 881, 882, 883, 884, 885, 886, 887, 888, 889, 890, 891, 892, 893, 894, 895, 896, 897, 898] (by decide +kernel) (by decide +kernel)
set_option maxRecDepth 20000 in
theorem gL_law_X8_speed : GoodIn wsL_law (wsV RL 226 RX8 yX8_speed wsX8_speed) := goodIn_app (goodIn_of _ (by decide +kernel)) ggL_law_X8_speed
set_option maxRecDepth 20000 in
theorem ggL_law_L_keys : GoodIn wsL_law wsL_keys := goodIn_ca (goodIn_r _ [833, 101, 834, 835, 836, 2, 837, 402, 403, 404, 405, 110, 111, 20, 838, 211, 212, 213, 214, 215, 216, 906, 907, 908, 909, 910, 911, 912, 913, 914, 854, 855, 856, 857, 858, 859, 860] (by decide +kernel) (by decide +kernel)) (goodIn_sub (fun _ h => List.mem_append_left _ (List.mem_append_left _ (List.mem_append_right _ h))) (by decide +kernel))
set_option maxRecDepth 20000 in
theorem gL_law_L_keys : GoodIn wsL_law (va_wsS RL 227 yL_keys wsL_keys) := goodIn_app (goodIn_of _ (by decide +kernel)) ggL_law_L_keys
set_option maxRecDepth 20000 in
theorem ggL_law_X8_keys : GoodIn wsL_law wsX8_keys := goodIn_r _ [842, 164, 90, 166, 167, 5, 168, 169, 170, 171, 172, 173, 174, 175, 861, 862, 863, 864, 865, 866, 867, 868, 869, 870, 871, 872, 873, 874, 875, 876, 877, 878, 879, 880, 881, 882, 883, 884, 885, 886, 887, 888, 889, 890, 891, 892, 893, 894, 895, 896, 897, 898] (by decide +kernel) (by decide +kernel)
set_option maxRecDepth 20000 in
theorem gL_law_X8_keys : GoodIn wsL_law (wsV RL 229 RX8 yX8_keys wsX8_keys) := goodIn_app (goodIn_of _ (by decide +kernel)) ggL_law_X8_keys
set_option maxRecDepth 20000 in
theorem ggL_law_L_stepsOf : GoodIn wsL_law wsL_stepsOf := goodIn_ca (goodIn_r _ [845, 101, 846, 847, 848, 2, 849, 402, 403, 404, 405, 110, 111, 20, 906, 907, 908, 909, 854, 855, 856, 857, 858, 859, 860] (by decide +kernel) (by decide +kernel)) (goodIn_sub (fun _ h => List.mem_append_left _ (List.mem_append_left _ (List.mem_append_right _ h))) (by decide +kernel))
set_option maxRecDepth 20000 in
theorem gL_law_L_stepsOf : GoodIn wsL_law (va_wsS RL 230 yL_stepsOf wsL_stepsOf) := goodIn_app (goodIn_of _ (by decide +kernel)) ggL_law_L_stepsOf
set_option maxRecDepth 20000 in
theorem ggL_law_X8_stepsOf : GoodIn wsL_law wsX8_stepsOf := goodIn_r _ [853, 164, 91, 166, 167, 5, 168, 169, 170, 171, 172, 173, 174, 175, 861, 862, 863, 864, 865, 866, 867, 868, 869, 870, 871, 872, 873, 874, 875, 876, 877, 878, 879, 880, 881, 882, 883, 884, 885, 886, 887, 888, 889, 890, 891, 892, 893, 894, 895, 896, 897, 898] (by decide +kernel) (by decide +kernel)
set_option maxRecDepth 20000 in
theorem gL_law_X8_stepsOf : GoodIn wsL_law (wsV RL 232 RX8 yX8_stepsOf wsX8_stepsOf) := goodIn_app (goodIn_of _ (by decide +kernel)) ggL_law_X8_stepsOf
abbrev vwCl : List vw_C := [(RX0, TX0, 5), (RX1, TX1, 3), (RX2, TX2, 5), (RX3, TX3, 6), (RX4, TX4, 4), (RX5, TX5, 7), (RX6, TX6, 8), (RX7, TX7, 7), (RX8, TX8, 38)]
