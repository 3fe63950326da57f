def RX0 : String := "Sowingcourt$Board"
def TX0 : u_T := fun k => match k with
  | 0 => ("Sowingcourt$Board", "kind", "LSowingcourt$Kind;", true)
  | 1 => ("Sowingcourt$Board", "cells", "[I", true)
  | 2 => ("Sowingcourt$Board", "lapCount", "I", false)
  | _ => ("Sowingcourt$Board", "last", "I", false)
def tyX0 : Nat → FieldType := fun k => match k with
  | 0 => .object "Sowingcourt$Kind"
  | 1 => .array .int
  | 2 => .int
  | _ => .int
abbrev wsX00 : List Cond := u_ws RX0 TX0 4
theorem nmX0 : ∀ a, a < 4 → ∀ b, b < 4 → a ≠ b → (TX0 a).2.1 ≠ (TX0 b).2.1 := by decide +kernel
theorem tyX0_ok : ∀ k, k < 4 → parseFieldDescriptor (TX0 k).2.2.1 = some (tyX0 k) := by decide +kernel
abbrev cX0_init : ByteArray := prog_2_method_1_code
def yX0_init : MethodName := ⟨RX0, "<init>", "(LSowingcourt$Kind;)V"⟩
def RX1 : String := "Sowingcourt$Game"
def TX1 : u_T := fun k => match k with
  | 0 => ("Sowingcourt$Game", "kind", "LSowingcourt$Kind;", true)
  | 1 => ("Sowingcourt$Game", "now", "LSowingcourt$Board;", true)
  | 2 => ("Sowingcourt$Game", "next", "LSowingcourt$Board;", true)
  | 3 => ("Sowingcourt$Game", "past", "[I", true)
  | 4 => ("Sowingcourt$Game", "played", "[I", true)
  | 5 => ("Sowingcourt$Game", "lapsOf", "[I", true)
  | 6 => ("Sowingcourt$Game", "count", "I", false)
  | 7 => ("Sowingcourt$Game", "begun", "Z", false)
  | 8 => ("Sowingcourt$Game", "over", "Z", false)
  | _ => ("Sowingcourt$Game", "wasMoved", "Z", false)
def tyX1 : Nat → FieldType := fun k => match k with
  | 0 => .object "Sowingcourt$Kind"
  | 1 => .object "Sowingcourt$Board"
  | 2 => .object "Sowingcourt$Board"
  | 3 => .array .int
  | 4 => .array .int
  | 5 => .array .int
  | 6 => .int
  | 7 => .boolean
  | 8 => .boolean
  | _ => .boolean
abbrev wsX10 : List Cond := u_ws RX1 TX1 10
theorem nmX1 : ∀ a, a < 10 → ∀ b, b < 10 → a ≠ b → (TX1 a).2.1 ≠ (TX1 b).2.1 := by decide +kernel
theorem tyX1_ok : ∀ k, k < 10 → parseFieldDescriptor (TX1 k).2.2.1 = some (tyX1 k) := by decide +kernel
abbrev cX1_init : ByteArray := prog_3_method_1_code
def yX1_init : MethodName := ⟨RX1, "<init>", "()V"⟩
def RX2 : String := "Sowingcourt$Kind"
def TX2 : u_T := fun k => match k with
  | 0 => ("Sowingcourt$Kind", "holesEach", "I", false)
  | 1 => ("Sowingcourt$Kind", "seedsEach", "I", false)
  | 2 => ("Sowingcourt$Kind", "lap", "C", false)
  | 3 => ("Sowingcourt$Kind", "capture", "C", false)
  | _ => ("Sowingcourt$Kind", "rules", "[Z", true)
def tyX2 : Nat → FieldType := fun k => match k with
  | 0 => .int
  | 1 => .int
  | 2 => .char
  | 3 => .char
  | _ => .array .boolean
abbrev wsX20 : List Cond := u_ws RX2 TX2 5
theorem nmX2 : ∀ a, a < 5 → ∀ b, b < 5 → a ≠ b → (TX2 a).2.1 ≠ (TX2 b).2.1 := by decide +kernel
theorem tyX2_ok : ∀ k, k < 5 → parseFieldDescriptor (TX2 k).2.2.1 = some (tyX2 k) := by decide +kernel
abbrev cX2_init : ByteArray := prog_4_method_1_code
def yX2_init : MethodName := ⟨RX2, "<init>", "()V"⟩
abbrev cX2_isLap : ByteArray := prog_4_method_2_code
def yX2_isLap : MethodName := ⟨RX2, "isLap", "(C)Z"⟩
abbrev cX2_isCapture : ByteArray := prog_4_method_3_code
def yX2_isCapture : MethodName := ⟨RX2, "isCapture", "(C)Z"⟩
def RX3 : String := "Sowingcourt$Rows"
def TX3 : u_T := fun k => match k with
  | _ => ("Sowingcourt$Rows", "ways", "[[J", true)
def tyX3 : Nat → FieldType := fun k => match k with
  | _ => .array (.array .long)
abbrev wsX30 : List Cond := u_ws RX3 TX3 1
theorem nmX3 : ∀ a, a < 1 → ∀ b, b < 1 → a ≠ b → (TX3 a).2.1 ≠ (TX3 b).2.1 := by decide +kernel
theorem tyX3_ok : ∀ k, k < 1 → parseFieldDescriptor (TX3 k).2.2.1 = some (tyX3 k) := by decide +kernel
abbrev cX3_init : ByteArray := prog_5_method_1_code
def yX3_init : MethodName := ⟨RX3, "<init>", "()V"⟩
abbrev cX3_seedsAt : ByteArray := prog_5_method_3_code
def yX3_seedsAt : MethodName := ⟨RX3, "seedsAt", "(IIJI)I"⟩
def RX4 : String := "Sowingcourt$Search"
def TX4 : u_T := fun k => match k with
  | 0 => ("Sowingcourt$Search", "levels", "[LSowingcourt$Board;", true)
  | 1 => ("Sowingcourt$Search", "free", "[Z", true)
  | 2 => ("Sowingcourt$Search", "worth", "[I", true)
  | 3 => ("Sowingcourt$Search", "top", "I", false)
  | 4 => ("Sowingcourt$Search", "firstTop", "I", false)
  | _ => ("Sowingcourt$Search", "topCount", "I", false)
def tyX4 : Nat → FieldType := fun k => match k with
  | 0 => .array (.object "Sowingcourt$Board")
  | 1 => .array .boolean
  | 2 => .array .int
  | 3 => .int
  | 4 => .int
  | _ => .int
abbrev wsX40 : List Cond := u_ws RX4 TX4 6
theorem nmX4 : ∀ a, a < 6 → ∀ b, b < 6 → a ≠ b → (TX4 a).2.1 ≠ (TX4 b).2.1 := by decide +kernel
theorem tyX4_ok : ∀ k, k < 6 → parseFieldDescriptor (TX4 k).2.2.1 = some (tyX4 k) := by decide +kernel
abbrev cX4_init : ByteArray := prog_6_method_1_code
def yX4_init : MethodName := ⟨RX4, "<init>", "(LSowingcourt$Kind;)V"⟩
def RX5 : String := "Sowingcourt"
def TX5 : u_T := fun k => match k with
  | 0 => ("Sowingcourt", "kinds", "[LSowingcourt$Kind;", true)
  | 1 => ("Sowingcourt", "kindCount", "I", false)
  | 2 => ("Sowingcourt", "game", "LSowingcourt$Game;", true)
  | 3 => ("Sowingcourt", "trial", "LSowingcourt$Game;", true)
  | 4 => ("Sowingcourt", "search", "LSowingcourt$Search;", true)
  | 5 => ("Sowingcourt", "rows", "LSowingcourt$Rows;", true)
  | 6 => ("Sowingcourt", "typed", "[I", true)
  | 7 => ("Sowingcourt", "typedCount", "I", false)
  | _ => ("Sowingcourt", "text", "Ljava/lang/StringBuilder;", true)
def tyX5 : Nat → FieldType := fun k => match k with
  | 0 => .array (.object "Sowingcourt$Kind")
  | 1 => .int
  | 2 => .object "Sowingcourt$Game"
  | 3 => .object "Sowingcourt$Game"
  | 4 => .object "Sowingcourt$Search"
  | 5 => .object "Sowingcourt$Rows"
  | 6 => .array .int
  | 7 => .int
  | _ => .object "java/lang/StringBuilder"
abbrev wsX50 : List Cond := u_ws RX5 TX5 9
theorem nmX5 : ∀ a, a < 9 → ∀ b, b < 9 → a ≠ b → (TX5 a).2.1 ≠ (TX5 b).2.1 := by decide +kernel
theorem tyX5_ok : ∀ k, k < 9 → parseFieldDescriptor (TX5 k).2.2.1 = some (tyX5 k) := by decide +kernel
abbrev cX5_init : ByteArray := prog_1_method_1_code
def yX5_init : MethodName := ⟨RX5, "<init>", "()V"⟩
abbrev cX5_kind : ByteArray := prog_1_method_2_code
def yX5_kind : MethodName := ⟨RX5, "kind", "(IICC)I"⟩
abbrev cX5_rule : ByteArray := prog_1_method_3_code
def yX5_rule : MethodName := ⟨RX5, "rule", "(ICZ)Z"⟩
abbrev cX5_holds : ByteArray := prog_1_method_4_code
def yX5_holds : MethodName := ⟨RX5, "holds", "(IC)Z"⟩
abbrev cX5_copy : ByteArray := prog_1_method_5_code
def yX5_copy : MethodName := ⟨RX5, "copy", "(I)I"⟩
abbrev cX5_unlike : ByteArray := prog_1_method_6_code
def yX5_unlike : MethodName := ⟨RX5, "unlike", "(II)I"⟩
abbrev cX5_parent : ByteArray := prog_1_method_7_code
def yX5_parent : MethodName := ⟨RX5, "parent", "(I)I"⟩
abbrev cX5_start : ByteArray := prog_1_method_8_code
def yX5_start : MethodName := ⟨RX5, "start", "(I)I"⟩
abbrev cX5_give : ByteArray := prog_1_method_9_code
def yX5_give : MethodName := ⟨RX5, "give", "(II)I"⟩
abbrev cX5_move : ByteArray := prog_1_method_10_code
def yX5_move : MethodName := ⟨RX5, "move", "(I)I"⟩
abbrev cX5_barred : ByteArray := prog_1_method_11_code
def yX5_barred : MethodName := ⟨RX5, "barred", "(I)C"⟩
abbrev cX5_moves : ByteArray := prog_1_method_12_code
def yX5_moves : MethodName := ⟨RX5, "moves", "()I"⟩
abbrev cX5_undo : ByteArray := prog_1_method_13_code
def yX5_undo : MethodName := ⟨RX5, "undo", "()I"⟩
abbrev cX5_seeds : ByteArray := prog_1_method_14_code
def yX5_seeds : MethodName := ⟨RX5, "seeds", "(I)I"⟩
abbrev cX5_store : ByteArray := prog_1_method_15_code
def yX5_store : MethodName := ⟨RX5, "store", "(I)I"⟩
abbrev cX5_turn : ByteArray := prog_1_method_16_code
def yX5_turn : MethodName := ⟨RX5, "turn", "()I"⟩
abbrev cX5_isOver : ByteArray := prog_1_method_17_code
def yX5_isOver : MethodName := ⟨RX5, "isOver", "()Z"⟩
abbrev cX5_winner : ByteArray := prog_1_method_18_code
def yX5_winner : MethodName := ⟨RX5, "winner", "()I"⟩
abbrev cX5_laps : ByteArray := prog_1_method_19_code
def yX5_laps : MethodName := ⟨RX5, "laps", "()I"⟩
abbrev cX5_length : ByteArray := prog_1_method_20_code
def yX5_length : MethodName := ⟨RX5, "length", "()I"⟩
abbrev cX5_times : ByteArray := prog_1_method_21_code
def yX5_times : MethodName := ⟨RX5, "times", "()I"⟩
abbrev cX5_many : ByteArray := prog_1_method_22_code
def yX5_many : MethodName := ⟨RX5, "many", "(II)J"⟩
abbrev cX5_number : ByteArray := prog_1_method_23_code
def yX5_number : MethodName := ⟨RX5, "number", "()J"⟩
abbrev cX5_inRow : ByteArray := prog_1_method_24_code
def yX5_inRow : MethodName := ⟨RX5, "inRow", "(IIJI)I"⟩
abbrev cX5_value : ByteArray := prog_1_method_25_code
def yX5_value : MethodName := ⟨RX5, "value", "(I)I"⟩
abbrev cX5_best : ByteArray := prog_1_method_26_code
def yX5_best : MethodName := ⟨RX5, "best", "(I)I"⟩
abbrev cX5_blunder : ByteArray := prog_1_method_27_code
def yX5_blunder : MethodName := ⟨RX5, "blunder", "(II)I"⟩
abbrev cX5_isPuzzle : ByteArray := prog_1_method_28_code
def yX5_isPuzzle : MethodName := ⟨RX5, "isPuzzle", "(I)Z"⟩
abbrev cX5_play : ByteArray := prog_1_method_29_code
def yX5_play : MethodName := ⟨RX5, "play", "(IC)I"⟩
abbrev cX5_type : ByteArray := prog_1_method_30_code
def yX5_type : MethodName := ⟨RX5, "type", "(I)I"⟩
abbrev cX5_wipe : ByteArray := prog_1_method_31_code
def yX5_wipe : MethodName := ⟨RX5, "wipe", "()I"⟩
abbrev cX5_explains : ByteArray := prog_1_method_32_code
def yX5_explains : MethodName := ⟨RX5, "explains", "(I)I"⟩
abbrev cX5_explainer : ByteArray := prog_1_method_33_code
def yX5_explainer : MethodName := ⟨RX5, "explainer", "()I"⟩
abbrev cX5_line : ByteArray := prog_1_method_34_code
def yX5_line : MethodName := ⟨RX5, "line", "()I"⟩
abbrev cX5_sign : ByteArray := prog_1_method_35_code
def yX5_sign : MethodName := ⟨RX5, "sign", "(I)C"⟩
abbrev cX5_checksum : ByteArray := prog_1_method_36_code
def yX5_checksum : MethodName := ⟨RX5, "checksum", "()J"⟩
abbrev cX5_freeShare : ByteArray := prog_1_method_37_code
def yX5_freeShare : MethodName := ⟨RX5, "freeShare", "()F"⟩
abbrev cX5_meanUnlike : ByteArray := prog_1_method_38_code
def yX5_meanUnlike : MethodName := ⟨RX5, "meanUnlike", "()D"⟩
abbrev cX5_isSound : ByteArray := prog_1_method_39_code
def yX5_isSound : MethodName := ⟨RX5, "isSound", "()Z"⟩
abbrev cX5_isWithin : ByteArray := prog_1_method_40_code
def yX5_isWithin : MethodName := ⟨RX5, "isWithin", "(III)Z"⟩
abbrev cX5_needKind : ByteArray := prog_1_method_42_code
def yX5_needKind : MethodName := ⟨RX5, "needKind", "(I)V"⟩
abbrev cX5_needRoomForKind : ByteArray := prog_1_method_43_code
def yX5_needRoomForKind : MethodName := ⟨RX5, "needRoomForKind", "()V"⟩
abbrev cX5_needBegun : ByteArray := prog_1_method_44_code
def yX5_needBegun : MethodName := ⟨RX5, "needBegun", "()V"⟩
abbrev cX5_needGameOn : ByteArray := prog_1_method_45_code
def yX5_needGameOn : MethodName := ⟨RX5, "needGameOn", "()V"⟩
abbrev cX5_needRows : ByteArray := prog_1_method_48_code
def yX5_needRows : MethodName := ⟨RX5, "needRows", "(II)V"⟩
def RX6 : String := "SowingcourtModel$Game"
def TX6 : u_T := fun k => match k with
  | 0 => ("SowingcourtModel$Game", "path", "Ljava/util/List;", true)
  | 1 => ("SowingcourtModel$Game", "now", "LSowingcourtModel$Position;", false)
  | _ => ("SowingcourtModel$Game", "moved", "Z", false)
def tyX6 : Nat → FieldType := fun k => match k with
  | 0 => .object "java/util/List"
  | 1 => .object "SowingcourtModel$Position"
  | _ => .boolean
abbrev wsX60 : List Cond := u_ws RX6 TX6 3
theorem nmX6 : ∀ a, a < 3 → ∀ b, b < 3 → a ≠ b → (TX6 a).2.1 ≠ (TX6 b).2.1 := by decide +kernel
theorem tyX6_ok : ∀ k, k < 3 → parseFieldDescriptor (TX6 k).2.2.1 = some (tyX6 k) := by decide +kernel
def RX7 : String := "SowingcourtModel$Kind"
def TX7 : u_T := fun k => match k with
  | 0 => ("SowingcourtModel$Kind", "holes", "I", false)
  | 1 => ("SowingcourtModel$Kind", "seeds", "I", false)
  | 2 => ("SowingcourtModel$Kind", "lap", "C", false)
  | 3 => ("SowingcourtModel$Kind", "capture", "C", false)
  | _ => ("SowingcourtModel$Kind", "things", "I", false)
def tyX7 : Nat → FieldType := fun k => match k with
  | 0 => .int
  | 1 => .int
  | 2 => .char
  | 3 => .char
  | _ => .int
abbrev wsX70 : List Cond := u_ws RX7 TX7 5
theorem nmX7 : ∀ a, a < 5 → ∀ b, b < 5 → a ≠ b → (TX7 a).2.1 ≠ (TX7 b).2.1 := by decide +kernel
theorem tyX7_ok : ∀ k, k < 5 → parseFieldDescriptor (TX7 k).2.2.1 = some (tyX7 k) := by decide +kernel
abbrev cX7_init : ByteArray := prog_10_method_1_code
def yX7_init : MethodName := ⟨RX7, "<init>", "()V"⟩
def RX8 : String := "SowingcourtModel$Position"
def TX8 : u_T := fun k => match k with
  | 0 => ("SowingcourtModel$Position", "kind", "LSowingcourtModel$Kind;", true)
  | 1 => ("SowingcourtModel$Position", "holes", "[I", true)
  | 2 => ("SowingcourtModel$Position", "stores", "[I", true)
  | 3 => ("SowingcourtModel$Position", "turn", "I", false)
  | 4 => ("SowingcourtModel$Position", "hole", "I", false)
  | 5 => ("SowingcourtModel$Position", "laps", "I", false)
  | 6 => ("SowingcourtModel$Position", "gain", "I", false)
  | _ => ("SowingcourtModel$Position", "over", "Z", false)
def tyX8 : Nat → FieldType := fun k => match k with
  | 0 => .object "SowingcourtModel$Kind"
  | 1 => .array .int
  | 2 => .array .int
  | 3 => .int
  | 4 => .int
  | 5 => .int
  | 6 => .int
  | _ => .boolean
abbrev wsX80 : List Cond := u_ws RX8 TX8 8
theorem nmX8 : ∀ a, a < 8 → ∀ b, b < 8 → a ≠ b → (TX8 a).2.1 ≠ (TX8 b).2.1 := by decide +kernel
theorem tyX8_ok : ∀ k, k < 8 → parseFieldDescriptor (TX8 k).2.2.1 = some (tyX8 k) := by decide +kernel
def RX9 : String := "SowingcourtModel"
def TX9 : u_T := fun k => match k with
  | 0 => ("SowingcourtModel", "thrown", "I", false)
  | 1 => ("SowingcourtModel", "kinds", "Ljava/util/List;", true)
  | 2 => ("SowingcourtModel", "game", "LSowingcourtModel$Game;", false)
  | _ => ("SowingcourtModel", "typed", "Ljava/util/List;", true)
def tyX9 : Nat → FieldType := fun k => match k with
  | 0 => .int
  | 1 => .object "java/util/List"
  | 2 => .object "SowingcourtModel$Game"
  | _ => .object "java/util/List"
abbrev wsX90 : List Cond := u_ws RX9 TX9 4
theorem nmX9 : ∀ a, a < 4 → ∀ b, b < 4 → a ≠ b → (TX9 a).2.1 ≠ (TX9 b).2.1 := by decide +kernel
theorem tyX9_ok : ∀ k, k < 4 → parseFieldDescriptor (TX9 k).2.2.1 = some (tyX9 k) := by decide +kernel
abbrev cX9_init : ByteArray := prog_8_method_1_code
def yX9_init : MethodName := ⟨RX9, "<init>", "()V"⟩
abbrev cX9_thrown : ByteArray := prog_8_method_2_code
def yX9_thrown : MethodName := ⟨RX9, "thrown", "()I"⟩
abbrev cX9_in : ByteArray := prog_8_method_3_code
def yX9_in : MethodName := ⟨RX9, "in", "(JJJ)Z"⟩
abbrev cX9_isOf : ByteArray := prog_8_method_4_code
def yX9_isOf : MethodName := ⟨RX9, "isOf", "(Ljava/util/List;I)Z"⟩
abbrev cX9_fails : ByteArray := prog_8_method_5_code
def yX9_fails : MethodName := ⟨RX9, "fails", "(ZI)Z"⟩
abbrev cX9_begins : ByteArray := prog_8_method_6_code
def yX9_begins : MethodName := ⟨RX9, "begins", "()V"⟩
abbrev cX9_kind : ByteArray := prog_8_method_7_code
def yX9_kind : MethodName := ⟨RX9, "kind", "(IICC)I"⟩
abbrev cX9_noThing : ByteArray := prog_8_method_8_code
def yX9_noThing : MethodName := ⟨RX9, "noThing", "(IC)Z"⟩
abbrev cX9_rule : ByteArray := prog_8_method_9_code
def yX9_rule : MethodName := ⟨RX9, "rule", "(ICZ)Z"⟩
abbrev cX9_holds : ByteArray := prog_8_method_10_code
def yX9_holds : MethodName := ⟨RX9, "holds", "(IC)Z"⟩
abbrev cX9_copy : ByteArray := prog_8_method_11_code
def yX9_copy : MethodName := ⟨RX9, "copy", "(I)I"⟩
abbrev cX9_unlike : ByteArray := prog_8_method_12_code
def yX9_unlike : MethodName := ⟨RX9, "unlike", "(II)I"⟩
abbrev cX9_parent : ByteArray := prog_8_method_14_code
def yX9_parent : MethodName := ⟨RX9, "parent", "(I)I"⟩
abbrev cX9_noGame : ByteArray := prog_8_method_15_code
def yX9_noGame : MethodName := ⟨RX9, "noGame", "()Z"⟩
abbrev cX9_notOn : ByteArray := prog_8_method_16_code
def yX9_notOn : MethodName := ⟨RX9, "notOn", "()Z"⟩
abbrev cX9_start : ByteArray := prog_8_method_18_code
def yX9_start : MethodName := ⟨RX9, "start", "(I)I"⟩
abbrev cX9_give : ByteArray := prog_8_method_19_code
def yX9_give : MethodName := ⟨RX9, "give", "(II)I"⟩
abbrev cX9_move : ByteArray := prog_8_method_20_code
def yX9_move : MethodName := ⟨RX9, "move", "(I)I"⟩
abbrev cX9_barred : ByteArray := prog_8_method_21_code
def yX9_barred : MethodName := ⟨RX9, "barred", "(I)C"⟩
abbrev cX9_moves : ByteArray := prog_8_method_22_code
def yX9_moves : MethodName := ⟨RX9, "moves", "()I"⟩
abbrev cX9_undo : ByteArray := prog_8_method_23_code
def yX9_undo : MethodName := ⟨RX9, "undo", "()I"⟩
abbrev cX9_seeds : ByteArray := prog_8_method_24_code
def yX9_seeds : MethodName := ⟨RX9, "seeds", "(I)I"⟩
abbrev cX9_store : ByteArray := prog_8_method_25_code
def yX9_store : MethodName := ⟨RX9, "store", "(I)I"⟩
abbrev cX9_turn : ByteArray := prog_8_method_26_code
def yX9_turn : MethodName := ⟨RX9, "turn", "()I"⟩
abbrev cX9_isOver : ByteArray := prog_8_method_27_code
def yX9_isOver : MethodName := ⟨RX9, "isOver", "()Z"⟩
abbrev cX9_winner : ByteArray := prog_8_method_28_code
def yX9_winner : MethodName := ⟨RX9, "winner", "()I"⟩
abbrev cX9_laps : ByteArray := prog_8_method_29_code
def yX9_laps : MethodName := ⟨RX9, "laps", "()I"⟩
abbrev cX9_length : ByteArray := prog_8_method_30_code
def yX9_length : MethodName := ⟨RX9, "length", "()I"⟩
abbrev cX9_times : ByteArray := prog_8_method_31_code
def yX9_times : MethodName := ⟨RX9, "times", "()I"⟩
abbrev cX9_rows : ByteArray := prog_8_method_32_code
def yX9_rows : MethodName := ⟨RX9, "rows", "(II)J"⟩
abbrev cX9_many : ByteArray := prog_8_method_33_code
def yX9_many : MethodName := ⟨RX9, "many", "(II)J"⟩
abbrev cX9_number : ByteArray := prog_8_method_34_code
def yX9_number : MethodName := ⟨RX9, "number", "()J"⟩
abbrev cX9_inRow : ByteArray := prog_8_method_35_code
def yX9_inRow : MethodName := ⟨RX9, "inRow", "(IIJI)I"⟩
abbrev cX9_value : ByteArray := prog_8_method_38_code
def yX9_value : MethodName := ⟨RX9, "value", "(I)I"⟩
abbrev cX9_best : ByteArray := prog_8_method_39_code
def yX9_best : MethodName := ⟨RX9, "best", "(I)I"⟩
abbrev cX9_blunder : ByteArray := prog_8_method_40_code
def yX9_blunder : MethodName := ⟨RX9, "blunder", "(II)I"⟩
abbrev cX9_isPuzzle : ByteArray := prog_8_method_41_code
def yX9_isPuzzle : MethodName := ⟨RX9, "isPuzzle", "(I)Z"⟩
abbrev cX9_play : ByteArray := prog_8_method_42_code
def yX9_play : MethodName := ⟨RX9, "play", "(IC)I"⟩
abbrev cX9_type : ByteArray := prog_8_method_43_code
def yX9_type : MethodName := ⟨RX9, "type", "(I)I"⟩
abbrev cX9_wipe : ByteArray := prog_8_method_44_code
def yX9_wipe : MethodName := ⟨RX9, "wipe", "()I"⟩
abbrev cX9_explains : ByteArray := prog_8_method_46_code
def yX9_explains : MethodName := ⟨RX9, "explains", "(I)I"⟩
abbrev cX9_explainer : ByteArray := prog_8_method_47_code
def yX9_explainer : MethodName := ⟨RX9, "explainer", "()I"⟩
abbrev cX9_line : ByteArray := prog_8_method_49_code
def yX9_line : MethodName := ⟨RX9, "line", "()I"⟩
abbrev cX9_sign : ByteArray := prog_8_method_50_code
def yX9_sign : MethodName := ⟨RX9, "sign", "(I)C"⟩
abbrev cX9_checksum : ByteArray := prog_8_method_51_code
def yX9_checksum : MethodName := ⟨RX9, "checksum", "()J"⟩
abbrev cX9_freeShare : ByteArray := prog_8_method_52_code
def yX9_freeShare : MethodName := ⟨RX9, "freeShare", "()F"⟩
abbrev cX9_meanUnlike : ByteArray := prog_8_method_53_code
def yX9_meanUnlike : MethodName := ⟨RX9, "meanUnlike", "()D"⟩
abbrev cX9_isSound : ByteArray := prog_8_method_54_code
def yX9_isSound : MethodName := ⟨RX9, "isSound", "()Z"⟩
def RJ5 : String := "java/lang/AbstractStringBuilder"
abbrev cJ5_init_d00df : ByteArray := prog_13_method_2_code
def yJ5_init_d00df : MethodName := ⟨RJ5, "<init>", "(I)V"⟩
def RJx00060 : String := "java/lang/ArrayIndexOutOfBoundsException"
def TJx00060 : u_T := fun k => match k with
  | 0 => ("java/lang/Throwable", "backtrace", "Ljava/lang/Object;", false)
  | 1 => ("java/lang/Throwable", "detailMessage", "Ljava/lang/String;", false)
  | 2 => ("java/lang/Throwable", "cause", "Ljava/lang/Throwable;", false)
  | 3 => ("java/lang/Throwable", "stackTrace", "[Ljava/lang/StackTraceElement;", false)
  | 4 => ("java/lang/Throwable", "depth", "I", false)
  | _ => ("java/lang/Throwable", "suppressedExceptions", "Ljava/util/List;", false)
def RJ6 : String := "java/lang/Integer"
def TJ6 : u_T := fun k => match k with
  | _ => ("java/lang/Integer", "value", "I", true)
def tyJ6 : Nat → FieldType := fun k => match k with
  | _ => .int
abbrev wsJ60 : List Cond := u_ws RJ6 TJ6 1
theorem nmJ6 : ∀ a, a < 1 → ∀ b, b < 1 → a ≠ b → (TJ6 a).2.1 ≠ (TJ6 b).2.1 := by decide +kernel
theorem tyJ6_ok : ∀ k, k < 1 → parseFieldDescriptor (TJ6 k).2.2.1 = some (tyJ6 k) := by decide +kernel
abbrev cJ6_valueOf_2dffe : ByteArray := prog_25_method_22_code
def yJ6_valueOf_2dffe : MethodName := ⟨RJ6, "valueOf", "(I)Ljava/lang/Integer;"⟩
def RJ9 : String := "java/lang/Math"
abbrev cJ9_max_7cf53 : ByteArray := prog_28_method_65_code
def yJ9_max_7cf53 : MethodName := ⟨RJ9, "max", "(II)I"⟩
abbrev cJ9_min_7cf53 : ByteArray := prog_28_method_69_code
def yJ9_min_7cf53 : MethodName := ⟨RJ9, "min", "(II)I"⟩
def RJ0 : String := "java/lang/String"
def TJ0 : u_T := fun k => match k with
  | 0 => ("java/lang/String", "value", "[B", true)
  | 1 => ("java/lang/String", "coder", "B", true)
  | 2 => ("java/lang/String", "hash", "I", false)
  | _ => ("java/lang/String", "hashIsZero", "Z", false)
def tyJ0 : Nat → FieldType := fun k => match k with
  | 0 => .array .byte
  | 1 => .byte
  | 2 => .int
  | _ => .boolean
abbrev wsJ00 : List Cond := u_ws RJ0 TJ0 4
theorem nmJ0 : ∀ a, a < 4 → ∀ b, b < 4 → a ≠ b → (TJ0 a).2.1 ≠ (TJ0 b).2.1 := by decide +kernel
theorem tyJ0_ok : ∀ k, k < 4 → parseFieldDescriptor (TJ0 k).2.2.1 = some (tyJ0 k) := by decide +kernel
abbrev cJ0_length_8abf5 : ByteArray := prog_31_method_54_code
def yJ0_length_8abf5 : MethodName := ⟨RJ0, "length", "()I"⟩
abbrev cJ0_indexOf_0f7a4 : ByteArray := prog_31_method_79_code
def yJ0_indexOf_0f7a4 : MethodName := ⟨RJ0, "indexOf", "(I)I"⟩
abbrev cJ0_indexOf_7cf53 : ByteArray := prog_31_method_80_code
def yJ0_indexOf_7cf53 : MethodName := ⟨RJ0, "indexOf", "(II)I"⟩
abbrev cJ0_coder_7d493 : ByteArray := prog_31_method_152_code
def yJ0_coder_7d493 : MethodName := ⟨RJ0, "coder", "()B"⟩
abbrev cJ0_isLatin1_aae02 : ByteArray := prog_31_method_154_code
def yJ0_isLatin1_aae02 : MethodName := ⟨RJ0, "isLatin1", "()Z"⟩
def RJ4 : String := "java/lang/StringBuilder"
def TJ4 : u_T := fun k => match k with
  | 0 => ("java/lang/AbstractStringBuilder", "value", "[B", false)
  | 1 => ("java/lang/AbstractStringBuilder", "coder", "B", false)
  | 2 => ("java/lang/AbstractStringBuilder", "maybeLatin1", "Z", false)
  | _ => ("java/lang/AbstractStringBuilder", "count", "I", false)
def tyJ4 : Nat → FieldType := fun k => match k with
  | 0 => .array .byte
  | 1 => .byte
  | 2 => .boolean
  | _ => .int
abbrev wsJ40 : List Cond := u_ws RJ4 TJ4 4
theorem nmJ4 : ∀ a, a < 4 → ∀ b, b < 4 → a ≠ b → (TJ4 a).2.1 ≠ (TJ4 b).2.1 := by decide +kernel
theorem tyJ4_ok : ∀ k, k < 4 → parseFieldDescriptor (TJ4 k).2.2.1 = some (tyJ4 k) := by decide +kernel
abbrev cJ4_init_da8c8 : ByteArray := prog_32_method_1_code
def yJ4_init_da8c8 : MethodName := ⟨RJ4, "<init>", "()V"⟩
def RJx7c733 : String := "java/lang/StringIndexOutOfBoundsException"
def TJx7c733 : u_T := fun k => match k with
  | 0 => ("java/lang/Throwable", "backtrace", "Ljava/lang/Object;", false)
  | 1 => ("java/lang/Throwable", "detailMessage", "Ljava/lang/String;", false)
  | 2 => ("java/lang/Throwable", "cause", "Ljava/lang/Throwable;", false)
  | 3 => ("java/lang/Throwable", "stackTrace", "[Ljava/lang/StackTraceElement;", false)
  | 4 => ("java/lang/Throwable", "depth", "I", false)
  | _ => ("java/lang/Throwable", "suppressedExceptions", "Ljava/util/List;", false)
def RJ1 : String := "java/lang/StringLatin1"
abbrev cJ1_canEncode_9a6ad : ByteArray := prog_34_method_4_code
def yJ1_canEncode_9a6ad : MethodName := ⟨RJ1, "canEncode", "(I)Z"⟩
abbrev cJ1_indexOf_4cfef : ByteArray := prog_34_method_22_code
def yJ1_indexOf_4cfef : MethodName := ⟨RJ1, "indexOf", "([BIII)I"⟩
abbrev cJ1_indexOfChar_4cfef : ByteArray := prog_34_method_23_code
def yJ1_indexOfChar_4cfef : MethodName := ⟨RJ1, "indexOfChar", "([BIII)I"⟩
def RJxa1e45 : String := "java/util/AbstractCollection"
abbrev cJxa1e45_init_da8c8 : ByteArray := prog_41_method_1_code
def yJxa1e45_init_da8c8 : MethodName := ⟨RJxa1e45, "<init>", "()V"⟩
def RJxc12de : String := "java/util/AbstractList"
abbrev cJxc12de_init_da8c8 : ByteArray := prog_42_method_1_code
def yJxc12de_init_da8c8 : MethodName := ⟨RJxc12de, "<init>", "()V"⟩
def RJx35411 : String := "java/util/ArrayList$Itr"
def TJx35411 : u_T := fun k => match k with
  | 0 => ("java/util/ArrayList$Itr", "cursor", "I", false)
  | 1 => ("java/util/ArrayList$Itr", "lastRet", "I", false)
  | 2 => ("java/util/ArrayList$Itr", "expectedModCount", "I", false)
  | _ => ("java/util/ArrayList$Itr", "this$0", "Ljava/util/ArrayList;", true)
def RJx4a65c : String := "java/util/ArrayList"
def TJx4a65c : u_T := fun k => match k with
  | 0 => ("java/util/AbstractList", "modCount", "I", false)
  | 1 => ("java/util/ArrayList", "elementData", "[Ljava/lang/Object;", false)
  | _ => ("java/util/ArrayList", "size", "I", false)
def tyJx4a65c : Nat → FieldType := fun k => match k with
  | 0 => .int
  | 1 => .array (.object "java/lang/Object")
  | _ => .int
abbrev wsJx4a65c0 : List Cond := u_ws RJx4a65c TJx4a65c 3
theorem nmJx4a65c : ∀ a, a < 3 → ∀ b, b < 3 → a ≠ b → (TJx4a65c a).2.1 ≠ (TJx4a65c b).2.1 := by decide +kernel
theorem tyJx4a65c_ok : ∀ k, k < 3 → parseFieldDescriptor (TJx4a65c k).2.2.1 = some (tyJx4a65c k) := by decide +kernel
abbrev cJx4a65c_init_da8c8 : ByteArray := prog_43_method_2_code
def yJx4a65c_init_da8c8 : MethodName := ⟨RJx4a65c, "<init>", "()V"⟩
abbrev cJx4a65c_grow_92f84 : ByteArray := prog_43_method_6_code
def yJx4a65c_grow_92f84 : MethodName := ⟨RJx4a65c, "grow", "(I)[Ljava/lang/Object;"⟩
abbrev cJx4a65c_grow_d5877 : ByteArray := prog_43_method_7_code
def yJx4a65c_grow_d5877 : MethodName := ⟨RJx4a65c, "grow", "()[Ljava/lang/Object;"⟩
abbrev cJx4a65c_size_8abf5 : ByteArray := prog_43_method_8_code
def yJx4a65c_size_8abf5 : MethodName := ⟨RJx4a65c, "size", "()I"⟩
abbrev cJx4a65c_isEmpty_aae02 : ByteArray := prog_43_method_9_code
def yJx4a65c_isEmpty_aae02 : MethodName := ⟨RJx4a65c, "isEmpty", "()Z"⟩
abbrev cJx4a65c_add_72be8 : ByteArray := prog_43_method_24_code
def yJx4a65c_add_72be8 : MethodName := ⟨RJx4a65c, "add", "(Ljava/lang/Object;[Ljava/lang/Object;I)V"⟩
abbrev cJx4a65c_add_9ea2d : ByteArray := prog_43_method_25_code
def yJx4a65c_add_9ea2d : MethodName := ⟨RJx4a65c, "add", "(Ljava/lang/Object;)Z"⟩
abbrev cJx4a65c_clear_da8c8 : ByteArray := prog_43_method_40_code
def yJx4a65c_clear_da8c8 : MethodName := ⟨RJx4a65c, "clear", "()V"⟩
def RL : String := "SowingcourtLaw"
abbrev cL_kind : ByteArray := method_3_code
def yL_kind : MethodName := ⟨RL, "kind", "(LSowingcourt;IICC[J)I"⟩
abbrev cL_rule : ByteArray := method_4_code
def yL_rule : MethodName := ⟨RL, "rule", "(LSowingcourt;ICZ[J)I"⟩
abbrev cL_holds : ByteArray := method_5_code
def yL_holds : MethodName := ⟨RL, "holds", "(LSowingcourt;IC[J)I"⟩
abbrev cL_copy : ByteArray := method_6_code
def yL_copy : MethodName := ⟨RL, "copy", "(LSowingcourt;I[J)I"⟩
abbrev cL_unlike : ByteArray := method_7_code
def yL_unlike : MethodName := ⟨RL, "unlike", "(LSowingcourt;II[J)I"⟩
abbrev cL_parent : ByteArray := method_8_code
def yL_parent : MethodName := ⟨RL, "parent", "(LSowingcourt;I[J)I"⟩
abbrev cL_start : ByteArray := method_9_code
def yL_start : MethodName := ⟨RL, "start", "(LSowingcourt;I[J)I"⟩
abbrev cL_give : ByteArray := method_10_code
def yL_give : MethodName := ⟨RL, "give", "(LSowingcourt;II[J)I"⟩
abbrev cL_move : ByteArray := method_11_code
def yL_move : MethodName := ⟨RL, "move", "(LSowingcourt;I[J)I"⟩
abbrev cL_barred : ByteArray := method_12_code
def yL_barred : MethodName := ⟨RL, "barred", "(LSowingcourt;I[J)I"⟩
abbrev cL_moves : ByteArray := method_13_code
def yL_moves : MethodName := ⟨RL, "moves", "(LSowingcourt;[J)I"⟩
abbrev cL_undo : ByteArray := method_14_code
def yL_undo : MethodName := ⟨RL, "undo", "(LSowingcourt;[J)I"⟩
abbrev cL_seeds : ByteArray := method_15_code
def yL_seeds : MethodName := ⟨RL, "seeds", "(LSowingcourt;I[J)I"⟩
abbrev cL_store : ByteArray := method_16_code
def yL_store : MethodName := ⟨RL, "store", "(LSowingcourt;I[J)I"⟩
abbrev cL_turn : ByteArray := method_17_code
def yL_turn : MethodName := ⟨RL, "turn", "(LSowingcourt;[J)I"⟩
abbrev cL_isOver : ByteArray := method_18_code
def yL_isOver : MethodName := ⟨RL, "isOver", "(LSowingcourt;[J)I"⟩
abbrev cL_winner : ByteArray := method_19_code
def yL_winner : MethodName := ⟨RL, "winner", "(LSowingcourt;[J)I"⟩
abbrev cL_laps : ByteArray := method_20_code
def yL_laps : MethodName := ⟨RL, "laps", "(LSowingcourt;[J)I"⟩
abbrev cL_length : ByteArray := method_21_code
def yL_length : MethodName := ⟨RL, "length", "(LSowingcourt;[J)I"⟩
abbrev cL_times : ByteArray := method_22_code
def yL_times : MethodName := ⟨RL, "times", "(LSowingcourt;[J)I"⟩
abbrev cL_many : ByteArray := method_23_code
def yL_many : MethodName := ⟨RL, "many", "(LSowingcourt;II[J)I"⟩
abbrev cL_number : ByteArray := method_24_code
def yL_number : MethodName := ⟨RL, "number", "(LSowingcourt;[J)I"⟩
abbrev cL_inRow : ByteArray := method_25_code
def yL_inRow : MethodName := ⟨RL, "inRow", "(LSowingcourt;IIJI[J)I"⟩
abbrev cL_value : ByteArray := method_26_code
def yL_value : MethodName := ⟨RL, "value", "(LSowingcourt;I[J)I"⟩
abbrev cL_best : ByteArray := method_27_code
def yL_best : MethodName := ⟨RL, "best", "(LSowingcourt;I[J)I"⟩
abbrev cL_blunder : ByteArray := method_28_code
def yL_blunder : MethodName := ⟨RL, "blunder", "(LSowingcourt;II[J)I"⟩
abbrev cL_isPuzzle : ByteArray := method_29_code
def yL_isPuzzle : MethodName := ⟨RL, "isPuzzle", "(LSowingcourt;I[J)I"⟩
abbrev cL_play : ByteArray := method_30_code
def yL_play : MethodName := ⟨RL, "play", "(LSowingcourt;IC[J)I"⟩
abbrev cL_type : ByteArray := method_31_code
def yL_type : MethodName := ⟨RL, "type", "(LSowingcourt;I[J)I"⟩
abbrev cL_explains : ByteArray := method_32_code
def yL_explains : MethodName := ⟨RL, "explains", "(LSowingcourt;I[J)I"⟩
abbrev cL_explainer : ByteArray := method_33_code
def yL_explainer : MethodName := ⟨RL, "explainer", "(LSowingcourt;[J)I"⟩
abbrev cL_line : ByteArray := method_34_code
def yL_line : MethodName := ⟨RL, "line", "(LSowingcourt;[J)I"⟩
abbrev cL_sign : ByteArray := method_35_code
def yL_sign : MethodName := ⟨RL, "sign", "(LSowingcourt;I[J)I"⟩
abbrev cL_freeShare : ByteArray := method_36_code
def yL_freeShare : MethodName := ⟨RL, "freeShare", "(LSowingcourt;[D)I"⟩
abbrev cL_meanUnlike : ByteArray := method_37_code
def yL_meanUnlike : MethodName := ⟨RL, "meanUnlike", "(LSowingcourt;[D)I"⟩
abbrev cL_law : ByteArray := code
def yL_law : MethodName := ⟨RL, "law", "([I)Z"⟩
theorem dX0_init_0 : decode cX0_init 0 = .ok (.aload_n 0, 1) := by decide +kernel
theorem dX0_init_1 : decode cX0_init 1 = .ok (.invokespecial 3, 3) := by decide +kernel
theorem dX0_init_4 : decode cX0_init 4 = .ok (.aload_n 0, 1) := by decide +kernel
theorem dX0_init_5 : decode cX0_init 5 = .ok (.bipush 13, 2) := by decide +kernel
theorem dX0_init_7 : decode cX0_init 7 = .ok (.newarray .int, 2) := by decide +kernel
theorem dX0_init_9 : decode cX0_init 9 = .ok (.putfield 11, 3) := by decide +kernel
theorem dX0_init_12 : decode cX0_init 12 = .ok (.aload_n 0, 1) := by decide +kernel
theorem dX0_init_13 : decode cX0_init 13 = .ok (.aload_n 1, 1) := by decide +kernel
theorem dX0_init_14 : decode cX0_init 14 = .ok (.putfield 15, 3) := by decide +kernel
theorem dX0_init_17 : decode cX0_init 17 = .ok (.return_, 1) := by decide +kernel
theorem dX1_init_0 : decode cX1_init 0 = .ok (.aload_n 0, 1) := by decide +kernel
theorem dX1_init_1 : decode cX1_init 1 = .ok (.invokespecial 3, 3) := by decide +kernel
theorem dX1_init_4 : decode cX1_init 4 = .ok (.aload_n 0, 1) := by decide +kernel
theorem dX1_init_5 : decode cX1_init 5 = .ok (.new 9, 3) := by decide +kernel
theorem dX1_init_8 : decode cX1_init 8 = .ok (.dup, 1) := by decide +kernel
theorem dX1_init_9 : decode cX1_init 9 = .ok (.invokespecial 11, 3) := by decide +kernel
theorem dX1_init_12 : decode cX1_init 12 = .ok (.putfield 12, 3) := by decide +kernel
theorem dX1_init_15 : decode cX1_init 15 = .ok (.aload_n 0, 1) := by decide +kernel
theorem dX1_init_16 : decode cX1_init 16 = .ok (.new 18, 3) := by decide +kernel
theorem dX1_init_19 : decode cX1_init 19 = .ok (.dup, 1) := by decide +kernel
theorem dX1_init_20 : decode cX1_init 20 = .ok (.aload_n 0, 1) := by decide +kernel
theorem dX1_init_21 : decode cX1_init 21 = .ok (.getfield 12, 3) := by decide +kernel
theorem dX1_init_24 : decode cX1_init 24 = .ok (.invokespecial 20, 3) := by decide +kernel
theorem dX1_init_27 : decode cX1_init 27 = .ok (.putfield 23, 3) := by decide +kernel
theorem dX1_init_30 : decode cX1_init 30 = .ok (.aload_n 0, 1) := by decide +kernel
theorem dX1_init_31 : decode cX1_init 31 = .ok (.new 18, 3) := by decide +kernel
theorem dX1_init_34 : decode cX1_init 34 = .ok (.dup, 1) := by decide +kernel
theorem dX1_init_35 : decode cX1_init 35 = .ok (.aload_n 0, 1) := by decide +kernel
theorem dX1_init_36 : decode cX1_init 36 = .ok (.getfield 12, 3) := by decide +kernel
theorem dX1_init_39 : decode cX1_init 39 = .ok (.invokespecial 20, 3) := by decide +kernel
theorem dX1_init_42 : decode cX1_init 42 = .ok (.putfield 27, 3) := by decide +kernel
theorem dX1_init_45 : decode cX1_init 45 = .ok (.aload_n 0, 1) := by decide +kernel
theorem dX1_init_46 : decode cX1_init 46 = .ok (.sipush 6669, 3) := by decide +kernel
theorem dX1_init_49 : decode cX1_init 49 = .ok (.newarray .int, 2) := by decide +kernel
theorem dX1_init_51 : decode cX1_init 51 = .ok (.putfield 30, 3) := by decide +kernel
theorem dX1_init_54 : decode cX1_init 54 = .ok (.aload_n 0, 1) := by decide +kernel
theorem dX1_init_55 : decode cX1_init 55 = .ok (.sipush 512, 3) := by decide +kernel
theorem dX1_init_58 : decode cX1_init 58 = .ok (.newarray .int, 2) := by decide +kernel
theorem dX1_init_60 : decode cX1_init 60 = .ok (.putfield 34, 3) := by decide +kernel
theorem dX1_init_63 : decode cX1_init 63 = .ok (.aload_n 0, 1) := by decide +kernel
theorem dX1_init_64 : decode cX1_init 64 = .ok (.sipush 512, 3) := by decide +kernel
theorem dX1_init_67 : decode cX1_init 67 = .ok (.newarray .int, 2) := by decide +kernel
theorem dX1_init_69 : decode cX1_init 69 = .ok (.putfield 37, 3) := by decide +kernel
theorem dX1_init_72 : decode cX1_init 72 = .ok (.return_, 1) := by decide +kernel
theorem dX2_init_0 : decode cX2_init 0 = .ok (.aload_n 0, 1) := by decide +kernel
theorem dX2_init_1 : decode cX2_init 1 = .ok (.invokespecial 3, 3) := by decide +kernel
theorem dX2_init_4 : decode cX2_init 4 = .ok (.aload_n 0, 1) := by decide +kernel
theorem dX2_init_5 : decode cX2_init 5 = .ok (.iconst 2, 1) := by decide +kernel
theorem dX2_init_6 : decode cX2_init 6 = .ok (.putfield 9, 3) := by decide +kernel
theorem dX2_init_9 : decode cX2_init 9 = .ok (.aload_n 0, 1) := by decide +kernel
theorem dX2_init_10 : decode cX2_init 10 = .ok (.iconst 1, 1) := by decide +kernel
theorem dX2_init_11 : decode cX2_init 11 = .ok (.putfield 15, 3) := by decide +kernel
theorem dX2_init_14 : decode cX2_init 14 = .ok (.aload_n 0, 1) := by decide +kernel
theorem dX2_init_15 : decode cX2_init 15 = .ok (.bipush 115, 2) := by decide +kernel
theorem dX2_init_17 : decode cX2_init 17 = .ok (.putfield 18, 3) := by decide +kernel
theorem dX2_init_20 : decode cX2_init 20 = .ok (.aload_n 0, 1) := by decide +kernel
theorem dX2_init_21 : decode cX2_init 21 = .ok (.bipush 110, 2) := by decide +kernel
theorem dX2_init_23 : decode cX2_init 23 = .ok (.putfield 22, 3) := by decide +kernel
theorem dX2_init_26 : decode cX2_init 26 = .ok (.aload_n 0, 1) := by decide +kernel
theorem dX2_init_27 : decode cX2_init 27 = .ok (.iconst 5, 1) := by decide +kernel
theorem dX2_init_28 : decode cX2_init 28 = .ok (.newarray .boolean, 2) := by decide +kernel
theorem dX2_init_30 : decode cX2_init 30 = .ok (.putfield 25, 3) := by decide +kernel
theorem dX2_init_33 : decode cX2_init 33 = .ok (.return_, 1) := by decide +kernel
theorem dX2_isLap_0 : decode cX2_isLap 0 = .ok (.iload_n 0, 1) := by decide +kernel
theorem dX2_isLap_1 : decode cX2_isLap 1 = .ok (.bipush 115, 2) := by decide +kernel
theorem dX2_isLap_3 : decode cX2_isLap 3 = .ok (.if_icmp .eq 15, 3) := by decide +kernel
theorem dX2_isLap_6 : decode cX2_isLap 6 = .ok (.iload_n 0, 1) := by decide +kernel
theorem dX2_isLap_7 : decode cX2_isLap 7 = .ok (.bipush 114, 2) := by decide +kernel
theorem dX2_isLap_9 : decode cX2_isLap 9 = .ok (.if_icmp .eq 9, 3) := by decide +kernel
theorem dX2_isLap_12 : decode cX2_isLap 12 = .ok (.iload_n 0, 1) := by decide +kernel
theorem dX2_isLap_13 : decode cX2_isLap 13 = .ok (.bipush 112, 2) := by decide +kernel
theorem dX2_isLap_15 : decode cX2_isLap 15 = .ok (.if_icmp .ne 7, 3) := by decide +kernel
theorem dX2_isLap_18 : decode cX2_isLap 18 = .ok (.iconst 1, 1) := by decide +kernel
theorem dX2_isLap_19 : decode cX2_isLap 19 = .ok (.goto 4, 3) := by decide +kernel
theorem dX2_isLap_22 : decode cX2_isLap 22 = .ok (.iconst 0, 1) := by decide +kernel
theorem dX2_isLap_23 : decode cX2_isLap 23 = .ok (.ireturn, 1) := by decide +kernel
theorem dX2_isCapture_0 : decode cX2_isCapture 0 = .ok (.iload_n 0, 1) := by decide +kernel
theorem dX2_isCapture_1 : decode cX2_isCapture 1 = .ok (.bipush 110, 2) := by decide +kernel
theorem dX2_isCapture_3 : decode cX2_isCapture 3 = .ok (.if_icmp .eq 21, 3) := by decide +kernel
theorem dX2_isCapture_6 : decode cX2_isCapture 6 = .ok (.iload_n 0, 1) := by decide +kernel
theorem dX2_isCapture_7 : decode cX2_isCapture 7 = .ok (.bipush 111, 2) := by decide +kernel
theorem dX2_isCapture_9 : decode cX2_isCapture 9 = .ok (.if_icmp .eq 15, 3) := by decide +kernel
theorem dX2_isCapture_12 : decode cX2_isCapture 12 = .ok (.iload_n 0, 1) := by decide +kernel
theorem dX2_isCapture_13 : decode cX2_isCapture 13 = .ok (.bipush 99, 2) := by decide +kernel
theorem dX2_isCapture_15 : decode cX2_isCapture 15 = .ok (.if_icmp .eq 9, 3) := by decide +kernel
theorem dX2_isCapture_18 : decode cX2_isCapture 18 = .ok (.iload_n 0, 1) := by decide +kernel
theorem dX2_isCapture_19 : decode cX2_isCapture 19 = .ok (.bipush 101, 2) := by decide +kernel
theorem dX2_isCapture_21 : decode cX2_isCapture 21 = .ok (.if_icmp .ne 7, 3) := by decide +kernel
theorem dX2_isCapture_24 : decode cX2_isCapture 24 = .ok (.iconst 1, 1) := by decide +kernel
theorem dX2_isCapture_25 : decode cX2_isCapture 25 = .ok (.goto 4, 3) := by decide +kernel
theorem dX2_isCapture_28 : decode cX2_isCapture 28 = .ok (.iconst 0, 1) := by decide +kernel
theorem dX2_isCapture_29 : decode cX2_isCapture 29 = .ok (.ireturn, 1) := by decide +kernel
theorem dX3_init_0 : decode cX3_init 0 = .ok (.aload_n 0, 1) := by decide +kernel
theorem dX3_init_1 : decode cX3_init 1 = .ok (.invokespecial 3, 3) := by decide +kernel
theorem dX3_init_4 : decode cX3_init 4 = .ok (.aload_n 0, 1) := by decide +kernel
theorem dX3_init_5 : decode cX3_init 5 = .ok (.bipush 11, 2) := by decide +kernel
theorem dX3_init_7 : decode cX3_init 7 = .ok (.bipush 91, 2) := by decide +kernel
theorem dX3_init_9 : decode cX3_init 9 = .ok (.multianewarray 9 2, 4) := by decide +kernel
theorem dX3_init_13 : decode cX3_init 13 = .ok (.putfield 11, 3) := by decide +kernel
theorem dX3_init_16 : decode cX3_init 16 = .ok (.aload_n 0, 1) := by decide +kernel
theorem dX3_init_17 : decode cX3_init 17 = .ok (.getfield 11, 3) := by decide +kernel
theorem dX3_init_20 : decode cX3_init 20 = .ok (.iconst 0, 1) := by decide +kernel
theorem dX3_init_21 : decode cX3_init 21 = .ok (.aaload, 1) := by decide +kernel
theorem dX3_init_22 : decode cX3_init 22 = .ok (.iconst 0, 1) := by decide +kernel
theorem dX3_init_23 : decode cX3_init 23 = .ok (.lconst 1, 1) := by decide +kernel
theorem dX3_init_24 : decode cX3_init 24 = .ok (.lastore, 1) := by decide +kernel
theorem dX3_init_25 : decode cX3_init 25 = .ok (.iconst 1, 1) := by decide +kernel
theorem dX3_init_26 : decode cX3_init 26 = .ok (.istore_n 1, 1) := by decide +kernel
theorem dX3_init_27 : decode cX3_init 27 = .ok (.iload_n 1, 1) := by decide +kernel
theorem dX3_init_28 : decode cX3_init 28 = .ok (.bipush 10, 2) := by decide +kernel
theorem dX3_init_30 : decode cX3_init 30 = .ok (.if_icmp .gt 70, 3) := by decide +kernel
theorem dX3_init_33 : decode cX3_init 33 = .ok (.aload_n 0, 1) := by decide +kernel
theorem dX3_init_34 : decode cX3_init 34 = .ok (.getfield 11, 3) := by decide +kernel
theorem dX3_init_37 : decode cX3_init 37 = .ok (.iload_n 1, 1) := by decide +kernel
theorem dX3_init_38 : decode cX3_init 38 = .ok (.aaload, 1) := by decide +kernel
theorem dX3_init_39 : decode cX3_init 39 = .ok (.iconst 0, 1) := by decide +kernel
theorem dX3_init_40 : decode cX3_init 40 = .ok (.aload_n 0, 1) := by decide +kernel
theorem dX3_init_41 : decode cX3_init 41 = .ok (.getfield 11, 3) := by decide +kernel
theorem dX3_init_44 : decode cX3_init 44 = .ok (.iload_n 1, 1) := by decide +kernel
theorem dX3_init_45 : decode cX3_init 45 = .ok (.iconst 1, 1) := by decide +kernel
theorem dX3_init_46 : decode cX3_init 46 = .ok (.isub, 1) := by decide +kernel
theorem dX3_init_47 : decode cX3_init 47 = .ok (.aaload, 1) := by decide +kernel
theorem dX3_init_48 : decode cX3_init 48 = .ok (.iconst 0, 1) := by decide +kernel
theorem dX3_init_49 : decode cX3_init 49 = .ok (.laload, 1) := by decide +kernel
theorem dX3_init_50 : decode cX3_init 50 = .ok (.lastore, 1) := by decide +kernel
theorem dX3_init_51 : decode cX3_init 51 = .ok (.iconst 1, 1) := by decide +kernel
theorem dX3_init_52 : decode cX3_init 52 = .ok (.istore_n 2, 1) := by decide +kernel
theorem dX3_init_53 : decode cX3_init 53 = .ok (.iload_n 2, 1) := by decide +kernel
theorem dX3_init_54 : decode cX3_init 54 = .ok (.bipush 90, 2) := by decide +kernel
theorem dX3_init_56 : decode cX3_init 56 = .ok (.if_icmp .gt 38, 3) := by decide +kernel
theorem dX3_init_59 : decode cX3_init 59 = .ok (.aload_n 0, 1) := by decide +kernel
theorem dX3_init_60 : decode cX3_init 60 = .ok (.getfield 11, 3) := by decide +kernel
theorem dX3_init_63 : decode cX3_init 63 = .ok (.iload_n 1, 1) := by decide +kernel
theorem dX3_init_64 : decode cX3_init 64 = .ok (.aaload, 1) := by decide +kernel
theorem dX3_init_65 : decode cX3_init 65 = .ok (.iload_n 2, 1) := by decide +kernel
theorem dX3_init_66 : decode cX3_init 66 = .ok (.aload_n 0, 1) := by decide +kernel
theorem dX3_init_67 : decode cX3_init 67 = .ok (.getfield 11, 3) := by decide +kernel
theorem dX3_init_70 : decode cX3_init 70 = .ok (.iload_n 1, 1) := by decide +kernel
theorem dX3_init_71 : decode cX3_init 71 = .ok (.aaload, 1) := by decide +kernel
theorem dX3_init_72 : decode cX3_init 72 = .ok (.iload_n 2, 1) := by decide +kernel
theorem dX3_init_73 : decode cX3_init 73 = .ok (.iconst 1, 1) := by decide +kernel
theorem dX3_init_74 : decode cX3_init 74 = .ok (.isub, 1) := by decide +kernel
theorem dX3_init_75 : decode cX3_init 75 = .ok (.laload, 1) := by decide +kernel
theorem dX3_init_76 : decode cX3_init 76 = .ok (.aload_n 0, 1) := by decide +kernel
theorem dX3_init_77 : decode cX3_init 77 = .ok (.getfield 11, 3) := by decide +kernel
theorem dX3_init_80 : decode cX3_init 80 = .ok (.iload_n 1, 1) := by decide +kernel
theorem dX3_init_81 : decode cX3_init 81 = .ok (.iconst 1, 1) := by decide +kernel
theorem dX3_init_82 : decode cX3_init 82 = .ok (.isub, 1) := by decide +kernel
theorem dX3_init_83 : decode cX3_init 83 = .ok (.aaload, 1) := by decide +kernel
theorem dX3_init_84 : decode cX3_init 84 = .ok (.iload_n 2, 1) := by decide +kernel
theorem dX3_init_85 : decode cX3_init 85 = .ok (.laload, 1) := by decide +kernel
theorem dX3_init_86 : decode cX3_init 86 = .ok (.ladd, 1) := by decide +kernel
theorem dX3_init_87 : decode cX3_init 87 = .ok (.lastore, 1) := by decide +kernel
theorem dX3_init_88 : decode cX3_init 88 = .ok (.iinc 2 1, 3) := by decide +kernel
theorem dX3_init_91 : decode cX3_init 91 = .ok (.goto (-38), 3) := by decide +kernel
theorem dX3_init_94 : decode cX3_init 94 = .ok (.iinc 1 1, 3) := by decide +kernel
theorem dX3_init_97 : decode cX3_init 97 = .ok (.goto (-70), 3) := by decide +kernel
theorem dX3_init_100 : decode cX3_init 100 = .ok (.return_, 1) := by decide +kernel
theorem dX3_seedsAt_0 : decode cX3_seedsAt 0 = .ok (.lload_n 3, 1) := by decide +kernel
theorem dX3_seedsAt_1 : decode cX3_seedsAt 1 = .ok (.lstore 6, 2) := by decide +kernel
theorem dX3_seedsAt_3 : decode cX3_seedsAt 3 = .ok (.iload_n 2, 1) := by decide +kernel
theorem dX3_seedsAt_4 : decode cX3_seedsAt 4 = .ok (.istore 8, 2) := by decide +kernel
theorem dX3_seedsAt_6 : decode cX3_seedsAt 6 = .ok (.iconst 0, 1) := by decide +kernel
theorem dX3_seedsAt_7 : decode cX3_seedsAt 7 = .ok (.istore 9, 2) := by decide +kernel
theorem dX3_seedsAt_9 : decode cX3_seedsAt 9 = .ok (.iconst 0, 1) := by decide +kernel
theorem dX3_seedsAt_10 : decode cX3_seedsAt 10 = .ok (.istore 10, 2) := by decide +kernel
theorem dX3_seedsAt_12 : decode cX3_seedsAt 12 = .ok (.iload 10, 2) := by decide +kernel
theorem dX3_seedsAt_14 : decode cX3_seedsAt 14 = .ok (.iload 5, 2) := by decide +kernel
theorem dX3_seedsAt_16 : decode cX3_seedsAt 16 = .ok (.if_icmp .gt 77, 3) := by decide +kernel
theorem dX3_seedsAt_19 : decode cX3_seedsAt 19 = .ok (.iload 8, 2) := by decide +kernel
theorem dX3_seedsAt_21 : decode cX3_seedsAt 21 = .ok (.iload 9, 2) := by decide +kernel
theorem dX3_seedsAt_23 : decode cX3_seedsAt 23 = .ok (.isub, 1) := by decide +kernel
theorem dX3_seedsAt_24 : decode cX3_seedsAt 24 = .ok (.istore 8, 2) := by decide +kernel
theorem dX3_seedsAt_26 : decode cX3_seedsAt 26 = .ok (.iconst 0, 1) := by decide +kernel
theorem dX3_seedsAt_27 : decode cX3_seedsAt 27 = .ok (.istore 9, 2) := by decide +kernel
theorem dX3_seedsAt_29 : decode cX3_seedsAt 29 = .ok (.iload 9, 2) := by decide +kernel
theorem dX3_seedsAt_31 : decode cX3_seedsAt 31 = .ok (.iload 8, 2) := by decide +kernel
theorem dX3_seedsAt_33 : decode cX3_seedsAt 33 = .ok (.if_icmp .ge 54, 3) := by decide +kernel
theorem dX3_seedsAt_36 : decode cX3_seedsAt 36 = .ok (.lload 6, 2) := by decide +kernel
theorem dX3_seedsAt_38 : decode cX3_seedsAt 38 = .ok (.aload_n 0, 1) := by decide +kernel
theorem dX3_seedsAt_39 : decode cX3_seedsAt 39 = .ok (.getfield 11, 3) := by decide +kernel
theorem dX3_seedsAt_42 : decode cX3_seedsAt 42 = .ok (.iload_n 1, 1) := by decide +kernel
theorem dX3_seedsAt_43 : decode cX3_seedsAt 43 = .ok (.iconst 1, 1) := by decide +kernel
theorem dX3_seedsAt_44 : decode cX3_seedsAt 44 = .ok (.isub, 1) := by decide +kernel
theorem dX3_seedsAt_45 : decode cX3_seedsAt 45 = .ok (.iload 10, 2) := by decide +kernel
theorem dX3_seedsAt_47 : decode cX3_seedsAt 47 = .ok (.isub, 1) := by decide +kernel
theorem dX3_seedsAt_48 : decode cX3_seedsAt 48 = .ok (.aaload, 1) := by decide +kernel
theorem dX3_seedsAt_49 : decode cX3_seedsAt 49 = .ok (.iload 8, 2) := by decide +kernel
theorem dX3_seedsAt_51 : decode cX3_seedsAt 51 = .ok (.iload 9, 2) := by decide +kernel
theorem dX3_seedsAt_53 : decode cX3_seedsAt 53 = .ok (.isub, 1) := by decide +kernel
theorem dX3_seedsAt_54 : decode cX3_seedsAt 54 = .ok (.laload, 1) := by decide +kernel
theorem dX3_seedsAt_55 : decode cX3_seedsAt 55 = .ok (.lcmp, 1) := by decide +kernel
theorem dX3_seedsAt_56 : decode cX3_seedsAt 56 = .ok (.ifCond .lt 31, 3) := by decide +kernel
theorem dX3_seedsAt_59 : decode cX3_seedsAt 59 = .ok (.lload 6, 2) := by decide +kernel
theorem dX3_seedsAt_61 : decode cX3_seedsAt 61 = .ok (.aload_n 0, 1) := by decide +kernel
theorem dX3_seedsAt_62 : decode cX3_seedsAt 62 = .ok (.getfield 11, 3) := by decide +kernel
theorem dX3_seedsAt_65 : decode cX3_seedsAt 65 = .ok (.iload_n 1, 1) := by decide +kernel
theorem dX3_seedsAt_66 : decode cX3_seedsAt 66 = .ok (.iconst 1, 1) := by decide +kernel
theorem dX3_seedsAt_67 : decode cX3_seedsAt 67 = .ok (.isub, 1) := by decide +kernel
theorem dX3_seedsAt_68 : decode cX3_seedsAt 68 = .ok (.iload 10, 2) := by decide +kernel
theorem dX3_seedsAt_70 : decode cX3_seedsAt 70 = .ok (.isub, 1) := by decide +kernel
theorem dX3_seedsAt_71 : decode cX3_seedsAt 71 = .ok (.aaload, 1) := by decide +kernel
theorem dX3_seedsAt_72 : decode cX3_seedsAt 72 = .ok (.iload 8, 2) := by decide +kernel
theorem dX3_seedsAt_74 : decode cX3_seedsAt 74 = .ok (.iload 9, 2) := by decide +kernel
theorem dX3_seedsAt_76 : decode cX3_seedsAt 76 = .ok (.isub, 1) := by decide +kernel
theorem dX3_seedsAt_77 : decode cX3_seedsAt 77 = .ok (.laload, 1) := by decide +kernel
theorem dX3_seedsAt_78 : decode cX3_seedsAt 78 = .ok (.lsub, 1) := by decide +kernel
theorem dX3_seedsAt_79 : decode cX3_seedsAt 79 = .ok (.lstore 6, 2) := by decide +kernel
theorem dX3_seedsAt_81 : decode cX3_seedsAt 81 = .ok (.iinc 9 1, 3) := by decide +kernel
theorem dX3_seedsAt_84 : decode cX3_seedsAt 84 = .ok (.goto (-55), 3) := by decide +kernel
theorem dX3_seedsAt_87 : decode cX3_seedsAt 87 = .ok (.iinc 10 1, 3) := by decide +kernel
theorem dX3_seedsAt_90 : decode cX3_seedsAt 90 = .ok (.goto (-78), 3) := by decide +kernel
theorem dX3_seedsAt_93 : decode cX3_seedsAt 93 = .ok (.iload 9, 2) := by decide +kernel
theorem dX3_seedsAt_95 : decode cX3_seedsAt 95 = .ok (.ireturn, 1) := by decide +kernel
theorem dX4_init_0 : decode cX4_init 0 = .ok (.aload_n 0, 1) := by decide +kernel
theorem dX4_init_1 : decode cX4_init 1 = .ok (.invokespecial 3, 3) := by decide +kernel
theorem dX4_init_4 : decode cX4_init 4 = .ok (.aload_n 0, 1) := by decide +kernel
theorem dX4_init_5 : decode cX4_init 5 = .ok (.bipush 6, 2) := by decide +kernel
theorem dX4_init_7 : decode cX4_init 7 = .ok (.anewarray 9, 3) := by decide +kernel
theorem dX4_init_10 : decode cX4_init 10 = .ok (.putfield 11, 3) := by decide +kernel
theorem dX4_init_13 : decode cX4_init 13 = .ok (.aload_n 0, 1) := by decide +kernel
theorem dX4_init_14 : decode cX4_init 14 = .ok (.bipush 10, 2) := by decide +kernel
theorem dX4_init_16 : decode cX4_init 16 = .ok (.newarray .boolean, 2) := by decide +kernel
theorem dX4_init_18 : decode cX4_init 18 = .ok (.putfield 17, 3) := by decide +kernel
theorem dX4_init_21 : decode cX4_init 21 = .ok (.aload_n 0, 1) := by decide +kernel
theorem dX4_init_22 : decode cX4_init 22 = .ok (.bipush 10, 2) := by decide +kernel
theorem dX4_init_24 : decode cX4_init 24 = .ok (.newarray .int, 2) := by decide +kernel
theorem dX4_init_26 : decode cX4_init 26 = .ok (.putfield 21, 3) := by decide +kernel
theorem dX4_init_29 : decode cX4_init 29 = .ok (.iconst 0, 1) := by decide +kernel
theorem dX4_init_30 : decode cX4_init 30 = .ok (.istore_n 2, 1) := by decide +kernel
theorem dX4_init_31 : decode cX4_init 31 = .ok (.iload_n 2, 1) := by decide +kernel
theorem dX4_init_32 : decode cX4_init 32 = .ok (.iconst 5, 1) := by decide +kernel
theorem dX4_init_33 : decode cX4_init 33 = .ok (.if_icmp .gt 23, 3) := by decide +kernel
theorem dX4_init_36 : decode cX4_init 36 = .ok (.aload_n 0, 1) := by decide +kernel
theorem dX4_init_37 : decode cX4_init 37 = .ok (.getfield 11, 3) := by decide +kernel
theorem dX4_init_40 : decode cX4_init 40 = .ok (.iload_n 2, 1) := by decide +kernel
theorem dX4_init_41 : decode cX4_init 41 = .ok (.new 9, 3) := by decide +kernel
theorem dX4_init_44 : decode cX4_init 44 = .ok (.dup, 1) := by decide +kernel
theorem dX4_init_45 : decode cX4_init 45 = .ok (.aload_n 1, 1) := by decide +kernel
theorem dX4_init_46 : decode cX4_init 46 = .ok (.invokespecial 25, 3) := by decide +kernel
theorem dX4_init_49 : decode cX4_init 49 = .ok (.aastore, 1) := by decide +kernel
theorem dX4_init_50 : decode cX4_init 50 = .ok (.iinc 2 1, 3) := by decide +kernel
theorem dX4_init_53 : decode cX4_init 53 = .ok (.goto (-22), 3) := by decide +kernel
theorem dX4_init_56 : decode cX4_init 56 = .ok (.return_, 1) := by decide +kernel
theorem dX5_init_0 : decode cX5_init 0 = .ok (.aload_n 0, 1) := by decide +kernel
theorem dX5_init_1 : decode cX5_init 1 = .ok (.invokespecial 1, 3) := by decide +kernel
theorem dX5_init_4 : decode cX5_init 4 = .ok (.aload_n 0, 1) := by decide +kernel
theorem dX5_init_5 : decode cX5_init 5 = .ok (.bipush 6, 2) := by decide +kernel
theorem dX5_init_7 : decode cX5_init 7 = .ok (.anewarray 9, 3) := by decide +kernel
theorem dX5_init_10 : decode cX5_init 10 = .ok (.putfield 11, 3) := by decide +kernel
theorem dX5_init_13 : decode cX5_init 13 = .ok (.iconst 0, 1) := by decide +kernel
theorem dX5_init_14 : decode cX5_init 14 = .ok (.istore_n 1, 1) := by decide +kernel
theorem dX5_init_15 : decode cX5_init 15 = .ok (.iload_n 1, 1) := by decide +kernel
theorem dX5_init_16 : decode cX5_init 16 = .ok (.bipush 6, 2) := by decide +kernel
theorem dX5_init_18 : decode cX5_init 18 = .ok (.if_icmp .ge 22, 3) := by decide +kernel
theorem dX5_init_21 : decode cX5_init 21 = .ok (.aload_n 0, 1) := by decide +kernel
theorem dX5_init_22 : decode cX5_init 22 = .ok (.getfield 11, 3) := by decide +kernel
theorem dX5_init_25 : decode cX5_init 25 = .ok (.iload_n 1, 1) := by decide +kernel
theorem dX5_init_26 : decode cX5_init 26 = .ok (.new 9, 3) := by decide +kernel
theorem dX5_init_29 : decode cX5_init 29 = .ok (.dup, 1) := by decide +kernel
theorem dX5_init_30 : decode cX5_init 30 = .ok (.invokespecial 15, 3) := by decide +kernel
theorem dX5_init_33 : decode cX5_init 33 = .ok (.aastore, 1) := by decide +kernel
theorem dX5_init_34 : decode cX5_init 34 = .ok (.iinc 1 1, 3) := by decide +kernel
theorem dX5_init_37 : decode cX5_init 37 = .ok (.goto (-22), 3) := by decide +kernel
theorem dX5_init_40 : decode cX5_init 40 = .ok (.aload_n 0, 1) := by decide +kernel
theorem dX5_init_41 : decode cX5_init 41 = .ok (.new 16, 3) := by decide +kernel
theorem dX5_init_44 : decode cX5_init 44 = .ok (.dup, 1) := by decide +kernel
theorem dX5_init_45 : decode cX5_init 45 = .ok (.invokespecial 18, 3) := by decide +kernel
theorem dX5_init_48 : decode cX5_init 48 = .ok (.putfield 19, 3) := by decide +kernel
theorem dX5_init_51 : decode cX5_init 51 = .ok (.aload_n 0, 1) := by decide +kernel
theorem dX5_init_52 : decode cX5_init 52 = .ok (.new 16, 3) := by decide +kernel
theorem dX5_init_55 : decode cX5_init 55 = .ok (.dup, 1) := by decide +kernel
theorem dX5_init_56 : decode cX5_init 56 = .ok (.invokespecial 18, 3) := by decide +kernel
theorem dX5_init_59 : decode cX5_init 59 = .ok (.putfield 23, 3) := by decide +kernel
theorem dX5_init_62 : decode cX5_init 62 = .ok (.aload_n 0, 1) := by decide +kernel
theorem dX5_init_63 : decode cX5_init 63 = .ok (.new 26, 3) := by decide +kernel
theorem dX5_init_66 : decode cX5_init 66 = .ok (.dup, 1) := by decide +kernel
theorem dX5_init_67 : decode cX5_init 67 = .ok (.aload_n 0, 1) := by decide +kernel
theorem dX5_init_68 : decode cX5_init 68 = .ok (.getfield 19, 3) := by decide +kernel
theorem dX5_init_71 : decode cX5_init 71 = .ok (.getfield 28, 3) := by decide +kernel
theorem dX5_init_74 : decode cX5_init 74 = .ok (.invokespecial 32, 3) := by decide +kernel
theorem dX5_init_77 : decode cX5_init 77 = .ok (.putfield 35, 3) := by decide +kernel
theorem dX5_init_80 : decode cX5_init 80 = .ok (.aload_n 0, 1) := by decide +kernel
theorem dX5_init_81 : decode cX5_init 81 = .ok (.new 39, 3) := by decide +kernel
theorem dX5_init_84 : decode cX5_init 84 = .ok (.dup, 1) := by decide +kernel
theorem dX5_init_85 : decode cX5_init 85 = .ok (.invokespecial 41, 3) := by decide +kernel
theorem dX5_init_88 : decode cX5_init 88 = .ok (.putfield 42, 3) := by decide +kernel
theorem dX5_init_91 : decode cX5_init 91 = .ok (.aload_n 0, 1) := by decide +kernel
theorem dX5_init_92 : decode cX5_init 92 = .ok (.bipush 60, 2) := by decide +kernel
theorem dX5_init_94 : decode cX5_init 94 = .ok (.newarray .int, 2) := by decide +kernel
theorem dX5_init_96 : decode cX5_init 96 = .ok (.putfield 46, 3) := by decide +kernel
theorem dX5_init_99 : decode cX5_init 99 = .ok (.aload_n 0, 1) := by decide +kernel
theorem dX5_init_100 : decode cX5_init 100 = .ok (.new 50, 3) := by decide +kernel
theorem dX5_init_103 : decode cX5_init 103 = .ok (.dup, 1) := by decide +kernel
theorem dX5_init_104 : decode cX5_init 104 = .ok (.invokespecial 52, 3) := by decide +kernel
theorem dX5_init_107 : decode cX5_init 107 = .ok (.putfield 53, 3) := by decide +kernel
theorem dX5_init_110 : decode cX5_init 110 = .ok (.return_, 1) := by decide +kernel
theorem dX5_kind_0 : decode cX5_kind 0 = .ok (.iload_n 1, 1) := by decide +kernel
theorem dX5_kind_1 : decode cX5_kind 1 = .ok (.iconst 2, 1) := by decide +kernel
theorem dX5_kind_2 : decode cX5_kind 2 = .ok (.iconst 5, 1) := by decide +kernel
theorem dX5_kind_3 : decode cX5_kind 3 = .ok (.invokestatic 57, 3) := by decide +kernel
theorem dX5_kind_6 : decode cX5_kind 6 = .ok (.ifCond .eq 12, 3) := by decide +kernel
theorem dX5_kind_9 : decode cX5_kind 9 = .ok (.iload_n 2, 1) := by decide +kernel
theorem dX5_kind_10 : decode cX5_kind 10 = .ok (.iconst 1, 1) := by decide +kernel
theorem dX5_kind_11 : decode cX5_kind 11 = .ok (.iconst 5, 1) := by decide +kernel
theorem dX5_kind_12 : decode cX5_kind 12 = .ok (.invokestatic 57, 3) := by decide +kernel
theorem dX5_kind_15 : decode cX5_kind 15 = .ok (.ifCond .ne 13, 3) := by decide +kernel
theorem dX5_kind_18 : decode cX5_kind 18 = .ok (.new 61, 3) := by decide +kernel
theorem dX5_kind_21 : decode cX5_kind 21 = .ok (.dup, 1) := by decide +kernel
theorem dX5_kind_22 : decode cX5_kind 22 = .ok (.ldc 63, 2) := by decide +kernel
theorem dX5_kind_24 : decode cX5_kind 24 = .ok (.invokespecial 65, 3) := by decide +kernel
theorem dX5_kind_27 : decode cX5_kind 27 = .ok (.athrow, 1) := by decide +kernel
theorem dX5_kind_28 : decode cX5_kind 28 = .ok (.iload_n 3, 1) := by decide +kernel
theorem dX5_kind_29 : decode cX5_kind 29 = .ok (.invokestatic 68, 3) := by decide +kernel
theorem dX5_kind_32 : decode cX5_kind 32 = .ok (.ifCond .eq 11, 3) := by decide +kernel
theorem dX5_kind_35 : decode cX5_kind 35 = .ok (.iload 4, 2) := by decide +kernel
theorem dX5_kind_37 : decode cX5_kind 37 = .ok (.invokestatic 72, 3) := by decide +kernel
theorem dX5_kind_40 : decode cX5_kind 40 = .ok (.ifCond .ne 13, 3) := by decide +kernel
theorem dX5_kind_43 : decode cX5_kind 43 = .ok (.new 61, 3) := by decide +kernel
theorem dX5_kind_46 : decode cX5_kind 46 = .ok (.dup, 1) := by decide +kernel
theorem dX5_kind_47 : decode cX5_kind 47 = .ok (.ldc 75, 2) := by decide +kernel
theorem dX5_kind_49 : decode cX5_kind 49 = .ok (.invokespecial 65, 3) := by decide +kernel
theorem dX5_kind_52 : decode cX5_kind 52 = .ok (.athrow, 1) := by decide +kernel
theorem dX5_kind_53 : decode cX5_kind 53 = .ok (.aload_n 0, 1) := by decide +kernel
theorem dX5_kind_54 : decode cX5_kind 54 = .ok (.invokevirtual 77, 3) := by decide +kernel
theorem dX5_kind_57 : decode cX5_kind 57 = .ok (.aload_n 0, 1) := by decide +kernel
theorem dX5_kind_58 : decode cX5_kind 58 = .ok (.getfield 11, 3) := by decide +kernel
theorem dX5_kind_61 : decode cX5_kind 61 = .ok (.aload_n 0, 1) := by decide +kernel
theorem dX5_kind_62 : decode cX5_kind 62 = .ok (.getfield 80, 3) := by decide +kernel
theorem dX5_kind_65 : decode cX5_kind 65 = .ok (.aaload, 1) := by decide +kernel
theorem dX5_kind_66 : decode cX5_kind 66 = .ok (.astore 5, 2) := by decide +kernel
theorem dX5_kind_68 : decode cX5_kind 68 = .ok (.aload 5, 2) := by decide +kernel
theorem dX5_kind_70 : decode cX5_kind 70 = .ok (.iload_n 1, 1) := by decide +kernel
theorem dX5_kind_71 : decode cX5_kind 71 = .ok (.putfield 84, 3) := by decide +kernel
theorem dX5_kind_74 : decode cX5_kind 74 = .ok (.aload 5, 2) := by decide +kernel
theorem dX5_kind_76 : decode cX5_kind 76 = .ok (.iload_n 2, 1) := by decide +kernel
theorem dX5_kind_77 : decode cX5_kind 77 = .ok (.putfield 87, 3) := by decide +kernel
theorem dX5_kind_80 : decode cX5_kind 80 = .ok (.aload 5, 2) := by decide +kernel
theorem dX5_kind_82 : decode cX5_kind 82 = .ok (.iload_n 3, 1) := by decide +kernel
theorem dX5_kind_83 : decode cX5_kind 83 = .ok (.putfield 90, 3) := by decide +kernel
theorem dX5_kind_86 : decode cX5_kind 86 = .ok (.aload 5, 2) := by decide +kernel
theorem dX5_kind_88 : decode cX5_kind 88 = .ok (.iload 4, 2) := by decide +kernel
theorem dX5_kind_90 : decode cX5_kind 90 = .ok (.putfield 94, 3) := by decide +kernel
theorem dX5_kind_93 : decode cX5_kind 93 = .ok (.aload_n 0, 1) := by decide +kernel
theorem dX5_kind_94 : decode cX5_kind 94 = .ok (.dup, 1) := by decide +kernel
theorem dX5_kind_95 : decode cX5_kind 95 = .ok (.getfield 80, 3) := by decide +kernel
theorem dX5_kind_98 : decode cX5_kind 98 = .ok (.iconst 1, 1) := by decide +kernel
theorem dX5_kind_99 : decode cX5_kind 99 = .ok (.iadd, 1) := by decide +kernel
theorem dX5_kind_100 : decode cX5_kind 100 = .ok (.putfield 80, 3) := by decide +kernel
theorem dX5_kind_103 : decode cX5_kind 103 = .ok (.aload_n 0, 1) := by decide +kernel
theorem dX5_kind_104 : decode cX5_kind 104 = .ok (.getfield 80, 3) := by decide +kernel
theorem dX5_kind_107 : decode cX5_kind 107 = .ok (.iconst 1, 1) := by decide +kernel
theorem dX5_kind_108 : decode cX5_kind 108 = .ok (.isub, 1) := by decide +kernel
theorem dX5_kind_109 : decode cX5_kind 109 = .ok (.ireturn, 1) := by decide +kernel
theorem dX5_rule_0 : decode cX5_rule 0 = .ok (.aload_n 0, 1) := by decide +kernel
theorem dX5_rule_1 : decode cX5_rule 1 = .ok (.iload_n 1, 1) := by decide +kernel
theorem dX5_rule_2 : decode cX5_rule 2 = .ok (.invokevirtual 97, 3) := by decide +kernel
theorem dX5_rule_5 : decode cX5_rule 5 = .ok (.iload_n 2, 1) := by decide +kernel
theorem dX5_rule_6 : decode cX5_rule 6 = .ok (.invokestatic 101, 3) := by decide +kernel
theorem dX5_rule_9 : decode cX5_rule 9 = .ok (.istore 4, 2) := by decide +kernel
theorem dX5_rule_11 : decode cX5_rule 11 = .ok (.aload_n 0, 1) := by decide +kernel
theorem dX5_rule_12 : decode cX5_rule 12 = .ok (.getfield 11, 3) := by decide +kernel
theorem dX5_rule_15 : decode cX5_rule 15 = .ok (.iload_n 1, 1) := by decide +kernel
theorem dX5_rule_16 : decode cX5_rule 16 = .ok (.aaload, 1) := by decide +kernel
theorem dX5_rule_17 : decode cX5_rule 17 = .ok (.getfield 105, 3) := by decide +kernel
theorem dX5_rule_20 : decode cX5_rule 20 = .ok (.iload 4, 2) := by decide +kernel
theorem dX5_rule_22 : decode cX5_rule 22 = .ok (.baload, 1) := by decide +kernel
theorem dX5_rule_23 : decode cX5_rule 23 = .ok (.istore 5, 2) := by decide +kernel
theorem dX5_rule_25 : decode cX5_rule 25 = .ok (.aload_n 0, 1) := by decide +kernel
theorem dX5_rule_26 : decode cX5_rule 26 = .ok (.getfield 11, 3) := by decide +kernel
theorem dX5_rule_29 : decode cX5_rule 29 = .ok (.iload_n 1, 1) := by decide +kernel
theorem dX5_rule_30 : decode cX5_rule 30 = .ok (.aaload, 1) := by decide +kernel
theorem dX5_rule_31 : decode cX5_rule 31 = .ok (.getfield 105, 3) := by decide +kernel
theorem dX5_rule_34 : decode cX5_rule 34 = .ok (.iload 4, 2) := by decide +kernel
theorem dX5_rule_36 : decode cX5_rule 36 = .ok (.iload_n 3, 1) := by decide +kernel
theorem dX5_rule_37 : decode cX5_rule 37 = .ok (.bastore, 1) := by decide +kernel
theorem dX5_rule_38 : decode cX5_rule 38 = .ok (.iload 5, 2) := by decide +kernel
theorem dX5_rule_40 : decode cX5_rule 40 = .ok (.ireturn, 1) := by decide +kernel
theorem dX5_holds_0 : decode cX5_holds 0 = .ok (.aload_n 0, 1) := by decide +kernel
theorem dX5_holds_1 : decode cX5_holds 1 = .ok (.iload_n 1, 1) := by decide +kernel
theorem dX5_holds_2 : decode cX5_holds 2 = .ok (.invokevirtual 97, 3) := by decide +kernel
theorem dX5_holds_5 : decode cX5_holds 5 = .ok (.aload_n 0, 1) := by decide +kernel
theorem dX5_holds_6 : decode cX5_holds 6 = .ok (.getfield 11, 3) := by decide +kernel
theorem dX5_holds_9 : decode cX5_holds 9 = .ok (.iload_n 1, 1) := by decide +kernel
theorem dX5_holds_10 : decode cX5_holds 10 = .ok (.aaload, 1) := by decide +kernel
theorem dX5_holds_11 : decode cX5_holds 11 = .ok (.getfield 105, 3) := by decide +kernel
theorem dX5_holds_14 : decode cX5_holds 14 = .ok (.iload_n 2, 1) := by decide +kernel
theorem dX5_holds_15 : decode cX5_holds 15 = .ok (.invokestatic 101, 3) := by decide +kernel
theorem dX5_holds_18 : decode cX5_holds 18 = .ok (.baload, 1) := by decide +kernel
theorem dX5_holds_19 : decode cX5_holds 19 = .ok (.ireturn, 1) := by decide +kernel
theorem dX5_copy_0 : decode cX5_copy 0 = .ok (.aload_n 0, 1) := by decide +kernel
theorem dX5_copy_1 : decode cX5_copy 1 = .ok (.iload_n 1, 1) := by decide +kernel
theorem dX5_copy_2 : decode cX5_copy 2 = .ok (.invokevirtual 97, 3) := by decide +kernel
theorem dX5_copy_5 : decode cX5_copy 5 = .ok (.aload_n 0, 1) := by decide +kernel
theorem dX5_copy_6 : decode cX5_copy 6 = .ok (.invokevirtual 77, 3) := by decide +kernel
theorem dX5_copy_9 : decode cX5_copy 9 = .ok (.aload_n 0, 1) := by decide +kernel
theorem dX5_copy_10 : decode cX5_copy 10 = .ok (.getfield 11, 3) := by decide +kernel
theorem dX5_copy_13 : decode cX5_copy 13 = .ok (.aload_n 0, 1) := by decide +kernel
theorem dX5_copy_14 : decode cX5_copy 14 = .ok (.getfield 80, 3) := by decide +kernel
theorem dX5_copy_17 : decode cX5_copy 17 = .ok (.aaload, 1) := by decide +kernel
theorem dX5_copy_18 : decode cX5_copy 18 = .ok (.aload_n 0, 1) := by decide +kernel
theorem dX5_copy_19 : decode cX5_copy 19 = .ok (.getfield 11, 3) := by decide +kernel
theorem dX5_copy_22 : decode cX5_copy 22 = .ok (.iload_n 1, 1) := by decide +kernel
theorem dX5_copy_23 : decode cX5_copy 23 = .ok (.aaload, 1) := by decide +kernel
theorem dX5_copy_24 : decode cX5_copy 24 = .ok (.invokevirtual 109, 3) := by decide +kernel
theorem dX5_copy_27 : decode cX5_copy 27 = .ok (.aload_n 0, 1) := by decide +kernel
theorem dX5_copy_28 : decode cX5_copy 28 = .ok (.dup, 1) := by decide +kernel
theorem dX5_copy_29 : decode cX5_copy 29 = .ok (.getfield 80, 3) := by decide +kernel
theorem dX5_copy_32 : decode cX5_copy 32 = .ok (.iconst 1, 1) := by decide +kernel
theorem dX5_copy_33 : decode cX5_copy 33 = .ok (.iadd, 1) := by decide +kernel
theorem dX5_copy_34 : decode cX5_copy 34 = .ok (.putfield 80, 3) := by decide +kernel
theorem dX5_copy_37 : decode cX5_copy 37 = .ok (.aload_n 0, 1) := by decide +kernel
theorem dX5_copy_38 : decode cX5_copy 38 = .ok (.getfield 80, 3) := by decide +kernel
theorem dX5_copy_41 : decode cX5_copy 41 = .ok (.iconst 1, 1) := by decide +kernel
theorem dX5_copy_42 : decode cX5_copy 42 = .ok (.isub, 1) := by decide +kernel
theorem dX5_copy_43 : decode cX5_copy 43 = .ok (.ireturn, 1) := by decide +kernel
theorem dX5_unlike_0 : decode cX5_unlike 0 = .ok (.aload_n 0, 1) := by decide +kernel
theorem dX5_unlike_1 : decode cX5_unlike 1 = .ok (.iload_n 1, 1) := by decide +kernel
theorem dX5_unlike_2 : decode cX5_unlike 2 = .ok (.invokevirtual 97, 3) := by decide +kernel
theorem dX5_unlike_5 : decode cX5_unlike 5 = .ok (.aload_n 0, 1) := by decide +kernel
theorem dX5_unlike_6 : decode cX5_unlike 6 = .ok (.iload_n 2, 1) := by decide +kernel
theorem dX5_unlike_7 : decode cX5_unlike 7 = .ok (.invokevirtual 97, 3) := by decide +kernel
theorem dX5_unlike_10 : decode cX5_unlike 10 = .ok (.aload_n 0, 1) := by decide +kernel
theorem dX5_unlike_11 : decode cX5_unlike 11 = .ok (.getfield 11, 3) := by decide +kernel
theorem dX5_unlike_14 : decode cX5_unlike 14 = .ok (.iload_n 1, 1) := by decide +kernel
theorem dX5_unlike_15 : decode cX5_unlike 15 = .ok (.aaload, 1) := by decide +kernel
theorem dX5_unlike_16 : decode cX5_unlike 16 = .ok (.aload_n 0, 1) := by decide +kernel
theorem dX5_unlike_17 : decode cX5_unlike 17 = .ok (.getfield 11, 3) := by decide +kernel
theorem dX5_unlike_20 : decode cX5_unlike 20 = .ok (.iload_n 2, 1) := by decide +kernel
theorem dX5_unlike_21 : decode cX5_unlike 21 = .ok (.aaload, 1) := by decide +kernel
theorem dX5_unlike_22 : decode cX5_unlike 22 = .ok (.invokevirtual 112, 3) := by decide +kernel
theorem dX5_unlike_25 : decode cX5_unlike 25 = .ok (.ireturn, 1) := by decide +kernel
theorem dX5_parent_0 : decode cX5_parent 0 = .ok (.aload_n 0, 1) := by decide +kernel
theorem dX5_parent_1 : decode cX5_parent 1 = .ok (.iload_n 1, 1) := by decide +kernel
theorem dX5_parent_2 : decode cX5_parent 2 = .ok (.invokevirtual 97, 3) := by decide +kernel
theorem dX5_parent_5 : decode cX5_parent 5 = .ok (.iload_n 1, 1) := by decide +kernel
theorem dX5_parent_6 : decode cX5_parent 6 = .ok (.ifCond .ne 13, 3) := by decide +kernel
theorem dX5_parent_9 : decode cX5_parent 9 = .ok (.new 116, 3) := by decide +kernel
theorem dX5_parent_12 : decode cX5_parent 12 = .ok (.dup, 1) := by decide +kernel
theorem dX5_parent_13 : decode cX5_parent 13 = .ok (.ldc 118, 2) := by decide +kernel
theorem dX5_parent_15 : decode cX5_parent 15 = .ok (.invokespecial 120, 3) := by decide +kernel
theorem dX5_parent_18 : decode cX5_parent 18 = .ok (.athrow, 1) := by decide +kernel
theorem dX5_parent_19 : decode cX5_parent 19 = .ok (.aload_n 0, 1) := by decide +kernel
theorem dX5_parent_20 : decode cX5_parent 20 = .ok (.iload_n 1, 1) := by decide +kernel
theorem dX5_parent_21 : decode cX5_parent 21 = .ok (.invokevirtual 121, 3) := by decide +kernel
theorem dX5_parent_24 : decode cX5_parent 24 = .ok (.ireturn, 1) := by decide +kernel
theorem dX5_start_0 : decode cX5_start 0 = .ok (.aload_n 0, 1) := by decide +kernel
theorem dX5_start_1 : decode cX5_start 1 = .ok (.iload_n 1, 1) := by decide +kernel
theorem dX5_start_2 : decode cX5_start 2 = .ok (.invokevirtual 97, 3) := by decide +kernel
theorem dX5_start_5 : decode cX5_start 5 = .ok (.aload_n 0, 1) := by decide +kernel
theorem dX5_start_6 : decode cX5_start 6 = .ok (.getfield 19, 3) := by decide +kernel
theorem dX5_start_9 : decode cX5_start 9 = .ok (.aload_n 0, 1) := by decide +kernel
theorem dX5_start_10 : decode cX5_start 10 = .ok (.getfield 11, 3) := by decide +kernel
theorem dX5_start_13 : decode cX5_start 13 = .ok (.iload_n 1, 1) := by decide +kernel
theorem dX5_start_14 : decode cX5_start 14 = .ok (.aaload, 1) := by decide +kernel
theorem dX5_start_15 : decode cX5_start 15 = .ok (.invokevirtual 125, 3) := by decide +kernel
theorem dX5_start_18 : decode cX5_start 18 = .ok (.aload_n 0, 1) := by decide +kernel
theorem dX5_start_19 : decode cX5_start 19 = .ok (.getfield 19, 3) := by decide +kernel
theorem dX5_start_22 : decode cX5_start 22 = .ok (.getfield 128, 3) := by decide +kernel
theorem dX5_start_25 : decode cX5_start 25 = .ok (.invokevirtual 132, 3) := by decide +kernel
theorem dX5_start_28 : decode cX5_start 28 = .ok (.ireturn, 1) := by decide +kernel
theorem dX5_give_0 : decode cX5_give 0 = .ok (.aload_n 0, 1) := by decide +kernel
theorem dX5_give_1 : decode cX5_give 1 = .ok (.invokevirtual 138, 3) := by decide +kernel
theorem dX5_give_4 : decode cX5_give 4 = .ok (.aload_n 0, 1) := by decide +kernel
theorem dX5_give_5 : decode cX5_give 5 = .ok (.iload_n 1, 1) := by decide +kernel
theorem dX5_give_6 : decode cX5_give 6 = .ok (.invokevirtual 141, 3) := by decide +kernel
theorem dX5_give_9 : decode cX5_give 9 = .ok (.iload_n 2, 1) := by decide +kernel
theorem dX5_give_10 : decode cX5_give 10 = .ok (.iconst 0, 1) := by decide +kernel
theorem dX5_give_11 : decode cX5_give 11 = .ok (.bipush 9, 2) := by decide +kernel
theorem dX5_give_13 : decode cX5_give 13 = .ok (.invokestatic 57, 3) := by decide +kernel
theorem dX5_give_16 : decode cX5_give 16 = .ok (.ifCond .ne 13, 3) := by decide +kernel
theorem dX5_give_19 : decode cX5_give 19 = .ok (.new 61, 3) := by decide +kernel
theorem dX5_give_22 : decode cX5_give 22 = .ok (.dup, 1) := by decide +kernel
theorem dX5_give_23 : decode cX5_give 23 = .ok (.ldc 144, 2) := by decide +kernel
theorem dX5_give_25 : decode cX5_give 25 = .ok (.invokespecial 65, 3) := by decide +kernel
theorem dX5_give_28 : decode cX5_give 28 = .ok (.athrow, 1) := by decide +kernel
theorem dX5_give_29 : decode cX5_give 29 = .ok (.aload_n 0, 1) := by decide +kernel
theorem dX5_give_30 : decode cX5_give 30 = .ok (.getfield 19, 3) := by decide +kernel
theorem dX5_give_33 : decode cX5_give 33 = .ok (.getfield 146, 3) := by decide +kernel
theorem dX5_give_36 : decode cX5_give 36 = .ok (.ifCond .eq 13, 3) := by decide +kernel
theorem dX5_give_39 : decode cX5_give 39 = .ok (.new 150, 3) := by decide +kernel
theorem dX5_give_42 : decode cX5_give 42 = .ok (.dup, 1) := by decide +kernel
theorem dX5_give_43 : decode cX5_give 43 = .ok (.ldc 152, 2) := by decide +kernel
theorem dX5_give_45 : decode cX5_give 45 = .ok (.invokespecial 154, 3) := by decide +kernel
theorem dX5_give_48 : decode cX5_give 48 = .ok (.athrow, 1) := by decide +kernel
theorem dX5_give_49 : decode cX5_give 49 = .ok (.aload_n 0, 1) := by decide +kernel
theorem dX5_give_50 : decode cX5_give 50 = .ok (.getfield 19, 3) := by decide +kernel
theorem dX5_give_53 : decode cX5_give 53 = .ok (.iload_n 1, 1) := by decide +kernel
theorem dX5_give_54 : decode cX5_give 54 = .ok (.iload_n 2, 1) := by decide +kernel
theorem dX5_give_55 : decode cX5_give 55 = .ok (.invokevirtual 155, 3) := by decide +kernel
theorem dX5_give_58 : decode cX5_give 58 = .ok (.aload_n 0, 1) := by decide +kernel
theorem dX5_give_59 : decode cX5_give 59 = .ok (.getfield 19, 3) := by decide +kernel
theorem dX5_give_62 : decode cX5_give 62 = .ok (.getfield 128, 3) := by decide +kernel
theorem dX5_give_65 : decode cX5_give 65 = .ok (.invokevirtual 132, 3) := by decide +kernel
theorem dX5_give_68 : decode cX5_give 68 = .ok (.ireturn, 1) := by decide +kernel
theorem dX5_move_0 : decode cX5_move 0 = .ok (.aload_n 0, 1) := by decide +kernel
theorem dX5_move_1 : decode cX5_move 1 = .ok (.invokevirtual 138, 3) := by decide +kernel
theorem dX5_move_4 : decode cX5_move 4 = .ok (.aload_n 0, 1) := by decide +kernel
theorem dX5_move_5 : decode cX5_move 5 = .ok (.getfield 19, 3) := by decide +kernel
theorem dX5_move_8 : decode cX5_move 8 = .ok (.getfield 159, 3) := by decide +kernel
theorem dX5_move_11 : decode cX5_move 11 = .ok (.sipush 512, 3) := by decide +kernel
theorem dX5_move_14 : decode cX5_move 14 = .ok (.if_icmp .lt 13, 3) := by decide +kernel
theorem dX5_move_17 : decode cX5_move 17 = .ok (.new 162, 3) := by decide +kernel
theorem dX5_move_20 : decode cX5_move 20 = .ok (.dup, 1) := by decide +kernel
theorem dX5_move_21 : decode cX5_move 21 = .ok (.ldc 164, 2) := by decide +kernel
theorem dX5_move_23 : decode cX5_move 23 = .ok (.invokespecial 166, 3) := by decide +kernel
theorem dX5_move_26 : decode cX5_move 26 = .ok (.athrow, 1) := by decide +kernel
theorem dX5_move_27 : decode cX5_move 27 = .ok (.aload_n 0, 1) := by decide +kernel
theorem dX5_move_28 : decode cX5_move 28 = .ok (.iload_n 1, 1) := by decide +kernel
theorem dX5_move_29 : decode cX5_move 29 = .ok (.invokevirtual 141, 3) := by decide +kernel
theorem dX5_move_32 : decode cX5_move 32 = .ok (.aload_n 0, 1) := by decide +kernel
theorem dX5_move_33 : decode cX5_move 33 = .ok (.getfield 19, 3) := by decide +kernel
theorem dX5_move_36 : decode cX5_move 36 = .ok (.iload_n 1, 1) := by decide +kernel
theorem dX5_move_37 : decode cX5_move 37 = .ok (.invokevirtual 167, 3) := by decide +kernel
theorem dX5_move_40 : decode cX5_move 40 = .ok (.istore_n 2, 1) := by decide +kernel
theorem dX5_move_41 : decode cX5_move 41 = .ok (.iload_n 2, 1) := by decide +kernel
theorem dX5_move_42 : decode cX5_move 42 = .ok (.iconst (-1), 1) := by decide +kernel
theorem dX5_move_43 : decode cX5_move 43 = .ok (.if_icmp .ne 13, 3) := by decide +kernel
theorem dX5_move_46 : decode cX5_move 46 = .ok (.new 150, 3) := by decide +kernel
theorem dX5_move_49 : decode cX5_move 49 = .ok (.dup, 1) := by decide +kernel
theorem dX5_move_50 : decode cX5_move 50 = .ok (.ldc 170, 2) := by decide +kernel
theorem dX5_move_52 : decode cX5_move 52 = .ok (.invokespecial 154, 3) := by decide +kernel
theorem dX5_move_55 : decode cX5_move 55 = .ok (.athrow, 1) := by decide +kernel
theorem dX5_move_56 : decode cX5_move 56 = .ok (.iload_n 2, 1) := by decide +kernel
theorem dX5_move_57 : decode cX5_move 57 = .ok (.ireturn, 1) := by decide +kernel
theorem dX5_barred_0 : decode cX5_barred 0 = .ok (.aload_n 0, 1) := by decide +kernel
theorem dX5_barred_1 : decode cX5_barred 1 = .ok (.invokevirtual 138, 3) := by decide +kernel
theorem dX5_barred_4 : decode cX5_barred 4 = .ok (.aload_n 0, 1) := by decide +kernel
theorem dX5_barred_5 : decode cX5_barred 5 = .ok (.iload_n 1, 1) := by decide +kernel
theorem dX5_barred_6 : decode cX5_barred 6 = .ok (.invokevirtual 141, 3) := by decide +kernel
theorem dX5_barred_9 : decode cX5_barred 9 = .ok (.aload_n 0, 1) := by decide +kernel
theorem dX5_barred_10 : decode cX5_barred 10 = .ok (.getfield 19, 3) := by decide +kernel
theorem dX5_barred_13 : decode cX5_barred 13 = .ok (.iload_n 1, 1) := by decide +kernel
theorem dX5_barred_14 : decode cX5_barred 14 = .ok (.invokevirtual 172, 3) := by decide +kernel
theorem dX5_barred_17 : decode cX5_barred 17 = .ok (.ireturn, 1) := by decide +kernel
theorem dX5_moves_0 : decode cX5_moves 0 = .ok (.aload_n 0, 1) := by decide +kernel
theorem dX5_moves_1 : decode cX5_moves 1 = .ok (.invokevirtual 138, 3) := by decide +kernel
theorem dX5_moves_4 : decode cX5_moves 4 = .ok (.iconst 0, 1) := by decide +kernel
theorem dX5_moves_5 : decode cX5_moves 5 = .ok (.istore_n 1, 1) := by decide +kernel
theorem dX5_moves_6 : decode cX5_moves 6 = .ok (.iconst 0, 1) := by decide +kernel
theorem dX5_moves_7 : decode cX5_moves 7 = .ok (.istore_n 2, 1) := by decide +kernel
theorem dX5_moves_8 : decode cX5_moves 8 = .ok (.iload_n 2, 1) := by decide +kernel
theorem dX5_moves_9 : decode cX5_moves 9 = .ok (.aload_n 0, 1) := by decide +kernel
theorem dX5_moves_10 : decode cX5_moves 10 = .ok (.getfield 19, 3) := by decide +kernel
theorem dX5_moves_13 : decode cX5_moves 13 = .ok (.getfield 28, 3) := by decide +kernel
theorem dX5_moves_16 : decode cX5_moves 16 = .ok (.invokevirtual 176, 3) := by decide +kernel
theorem dX5_moves_19 : decode cX5_moves 19 = .ok (.if_icmp .ge 28, 3) := by decide +kernel
theorem dX5_moves_22 : decode cX5_moves 22 = .ok (.aload_n 0, 1) := by decide +kernel
theorem dX5_moves_23 : decode cX5_moves 23 = .ok (.getfield 19, 3) := by decide +kernel
theorem dX5_moves_26 : decode cX5_moves 26 = .ok (.iload_n 2, 1) := by decide +kernel
theorem dX5_moves_27 : decode cX5_moves 27 = .ok (.invokevirtual 172, 3) := by decide +kernel
theorem dX5_moves_30 : decode cX5_moves 30 = .ok (.bipush 45, 2) := by decide +kernel
theorem dX5_moves_32 : decode cX5_moves 32 = .ok (.if_icmp .ne 9, 3) := by decide +kernel
theorem dX5_moves_35 : decode cX5_moves 35 = .ok (.iload_n 1, 1) := by decide +kernel
theorem dX5_moves_36 : decode cX5_moves 36 = .ok (.iconst 1, 1) := by decide +kernel
theorem dX5_moves_37 : decode cX5_moves 37 = .ok (.iload_n 2, 1) := by decide +kernel
theorem dX5_moves_38 : decode cX5_moves 38 = .ok (.ishl, 1) := by decide +kernel
theorem dX5_moves_39 : decode cX5_moves 39 = .ok (.iadd, 1) := by decide +kernel
theorem dX5_moves_40 : decode cX5_moves 40 = .ok (.istore_n 1, 1) := by decide +kernel
theorem dX5_moves_41 : decode cX5_moves 41 = .ok (.iinc 2 1, 3) := by decide +kernel
theorem dX5_moves_44 : decode cX5_moves 44 = .ok (.goto (-36), 3) := by decide +kernel
theorem dX5_moves_47 : decode cX5_moves 47 = .ok (.iload_n 1, 1) := by decide +kernel
theorem dX5_moves_48 : decode cX5_moves 48 = .ok (.ireturn, 1) := by decide +kernel
theorem dX5_undo_0 : decode cX5_undo 0 = .ok (.aload_n 0, 1) := by decide +kernel
theorem dX5_undo_1 : decode cX5_undo 1 = .ok (.getfield 19, 3) := by decide +kernel
theorem dX5_undo_4 : decode cX5_undo 4 = .ok (.getfield 179, 3) := by decide +kernel
theorem dX5_undo_7 : decode cX5_undo 7 = .ok (.ifCond .eq 13, 3) := by decide +kernel
theorem dX5_undo_10 : decode cX5_undo 10 = .ok (.aload_n 0, 1) := by decide +kernel
theorem dX5_undo_11 : decode cX5_undo 11 = .ok (.getfield 19, 3) := by decide +kernel
theorem dX5_undo_14 : decode cX5_undo 14 = .ok (.getfield 159, 3) := by decide +kernel
theorem dX5_undo_17 : decode cX5_undo 17 = .ok (.ifCond .ne 13, 3) := by decide +kernel
theorem dX5_undo_20 : decode cX5_undo 20 = .ok (.new 150, 3) := by decide +kernel
theorem dX5_undo_23 : decode cX5_undo 23 = .ok (.dup, 1) := by decide +kernel
theorem dX5_undo_24 : decode cX5_undo 24 = .ok (.ldc 182, 2) := by decide +kernel
theorem dX5_undo_26 : decode cX5_undo 26 = .ok (.invokespecial 154, 3) := by decide +kernel
theorem dX5_undo_29 : decode cX5_undo 29 = .ok (.athrow, 1) := by decide +kernel
theorem dX5_undo_30 : decode cX5_undo 30 = .ok (.aload_n 0, 1) := by decide +kernel
theorem dX5_undo_31 : decode cX5_undo 31 = .ok (.getfield 19, 3) := by decide +kernel
theorem dX5_undo_34 : decode cX5_undo 34 = .ok (.invokevirtual 184, 3) := by decide +kernel
theorem dX5_undo_37 : decode cX5_undo 37 = .ok (.ireturn, 1) := by decide +kernel
theorem dX5_seeds_0 : decode cX5_seeds 0 = .ok (.aload_n 0, 1) := by decide +kernel
theorem dX5_seeds_1 : decode cX5_seeds 1 = .ok (.invokevirtual 187, 3) := by decide +kernel
theorem dX5_seeds_4 : decode cX5_seeds 4 = .ok (.aload_n 0, 1) := by decide +kernel
theorem dX5_seeds_5 : decode cX5_seeds 5 = .ok (.iload_n 1, 1) := by decide +kernel
theorem dX5_seeds_6 : decode cX5_seeds 6 = .ok (.invokevirtual 141, 3) := by decide +kernel
theorem dX5_seeds_9 : decode cX5_seeds 9 = .ok (.aload_n 0, 1) := by decide +kernel
theorem dX5_seeds_10 : decode cX5_seeds 10 = .ok (.getfield 19, 3) := by decide +kernel
theorem dX5_seeds_13 : decode cX5_seeds 13 = .ok (.getfield 128, 3) := by decide +kernel
theorem dX5_seeds_16 : decode cX5_seeds 16 = .ok (.getfield 190, 3) := by decide +kernel
theorem dX5_seeds_19 : decode cX5_seeds 19 = .ok (.iload_n 1, 1) := by decide +kernel
theorem dX5_seeds_20 : decode cX5_seeds 20 = .ok (.iaload, 1) := by decide +kernel
theorem dX5_seeds_21 : decode cX5_seeds 21 = .ok (.ireturn, 1) := by decide +kernel
theorem dX5_store_0 : decode cX5_store 0 = .ok (.aload_n 0, 1) := by decide +kernel
theorem dX5_store_1 : decode cX5_store 1 = .ok (.invokevirtual 187, 3) := by decide +kernel
theorem dX5_store_4 : decode cX5_store 4 = .ok (.iload_n 1, 1) := by decide +kernel
theorem dX5_store_5 : decode cX5_store 5 = .ok (.iconst 0, 1) := by decide +kernel
theorem dX5_store_6 : decode cX5_store 6 = .ok (.iconst 1, 1) := by decide +kernel
theorem dX5_store_7 : decode cX5_store 7 = .ok (.invokestatic 57, 3) := by decide +kernel
theorem dX5_store_10 : decode cX5_store 10 = .ok (.ifCond .ne 13, 3) := by decide +kernel
theorem dX5_store_13 : decode cX5_store 13 = .ok (.new 193, 3) := by decide +kernel
theorem dX5_store_16 : decode cX5_store 16 = .ok (.dup, 1) := by decide +kernel
theorem dX5_store_17 : decode cX5_store 17 = .ok (.ldc 195, 2) := by decide +kernel
theorem dX5_store_19 : decode cX5_store 19 = .ok (.invokespecial 197, 3) := by decide +kernel
theorem dX5_store_22 : decode cX5_store 22 = .ok (.athrow, 1) := by decide +kernel
theorem dX5_store_23 : decode cX5_store 23 = .ok (.aload_n 0, 1) := by decide +kernel
theorem dX5_store_24 : decode cX5_store 24 = .ok (.getfield 19, 3) := by decide +kernel
theorem dX5_store_27 : decode cX5_store 27 = .ok (.getfield 128, 3) := by decide +kernel
theorem dX5_store_30 : decode cX5_store 30 = .ok (.iload_n 1, 1) := by decide +kernel
theorem dX5_store_31 : decode cX5_store 31 = .ok (.invokevirtual 198, 3) := by decide +kernel
theorem dX5_store_34 : decode cX5_store 34 = .ok (.ireturn, 1) := by decide +kernel
theorem dX5_turn_0 : decode cX5_turn 0 = .ok (.aload_n 0, 1) := by decide +kernel
theorem dX5_turn_1 : decode cX5_turn 1 = .ok (.invokevirtual 138, 3) := by decide +kernel
theorem dX5_turn_4 : decode cX5_turn 4 = .ok (.aload_n 0, 1) := by decide +kernel
theorem dX5_turn_5 : decode cX5_turn 5 = .ok (.getfield 19, 3) := by decide +kernel
theorem dX5_turn_8 : decode cX5_turn 8 = .ok (.getfield 128, 3) := by decide +kernel
theorem dX5_turn_11 : decode cX5_turn 11 = .ok (.invokevirtual 201, 3) := by decide +kernel
theorem dX5_turn_14 : decode cX5_turn 14 = .ok (.ireturn, 1) := by decide +kernel
theorem dX5_isOver_0 : decode cX5_isOver 0 = .ok (.aload_n 0, 1) := by decide +kernel
theorem dX5_isOver_1 : decode cX5_isOver 1 = .ok (.invokevirtual 187, 3) := by decide +kernel
theorem dX5_isOver_4 : decode cX5_isOver 4 = .ok (.aload_n 0, 1) := by decide +kernel
theorem dX5_isOver_5 : decode cX5_isOver 5 = .ok (.getfield 19, 3) := by decide +kernel
theorem dX5_isOver_8 : decode cX5_isOver 8 = .ok (.getfield 204, 3) := by decide +kernel
theorem dX5_isOver_11 : decode cX5_isOver 11 = .ok (.ireturn, 1) := by decide +kernel
theorem dX5_winner_0 : decode cX5_winner 0 = .ok (.aload_n 0, 1) := by decide +kernel
theorem dX5_winner_1 : decode cX5_winner 1 = .ok (.invokevirtual 187, 3) := by decide +kernel
theorem dX5_winner_4 : decode cX5_winner 4 = .ok (.aload_n 0, 1) := by decide +kernel
theorem dX5_winner_5 : decode cX5_winner 5 = .ok (.getfield 19, 3) := by decide +kernel
theorem dX5_winner_8 : decode cX5_winner 8 = .ok (.getfield 204, 3) := by decide +kernel
theorem dX5_winner_11 : decode cX5_winner 11 = .ok (.ifCond .ne 13, 3) := by decide +kernel
theorem dX5_winner_14 : decode cX5_winner 14 = .ok (.new 116, 3) := by decide +kernel
theorem dX5_winner_17 : decode cX5_winner 17 = .ok (.dup, 1) := by decide +kernel
theorem dX5_winner_18 : decode cX5_winner 18 = .ok (.ldc 207, 2) := by decide +kernel
theorem dX5_winner_20 : decode cX5_winner 20 = .ok (.invokespecial 120, 3) := by decide +kernel
theorem dX5_winner_23 : decode cX5_winner 23 = .ok (.athrow, 1) := by decide +kernel
theorem dX5_winner_24 : decode cX5_winner 24 = .ok (.aload_n 0, 1) := by decide +kernel
theorem dX5_winner_25 : decode cX5_winner 25 = .ok (.getfield 19, 3) := by decide +kernel
theorem dX5_winner_28 : decode cX5_winner 28 = .ok (.getfield 128, 3) := by decide +kernel
theorem dX5_winner_31 : decode cX5_winner 31 = .ok (.iconst 0, 1) := by decide +kernel
theorem dX5_winner_32 : decode cX5_winner 32 = .ok (.invokevirtual 198, 3) := by decide +kernel
theorem dX5_winner_35 : decode cX5_winner 35 = .ok (.aload_n 0, 1) := by decide +kernel
theorem dX5_winner_36 : decode cX5_winner 36 = .ok (.getfield 19, 3) := by decide +kernel
theorem dX5_winner_39 : decode cX5_winner 39 = .ok (.getfield 128, 3) := by decide +kernel
theorem dX5_winner_42 : decode cX5_winner 42 = .ok (.iconst 1, 1) := by decide +kernel
theorem dX5_winner_43 : decode cX5_winner 43 = .ok (.invokevirtual 198, 3) := by decide +kernel
theorem dX5_winner_46 : decode cX5_winner 46 = .ok (.isub, 1) := by decide +kernel
theorem dX5_winner_47 : decode cX5_winner 47 = .ok (.istore_n 1, 1) := by decide +kernel
theorem dX5_winner_48 : decode cX5_winner 48 = .ok (.iload_n 1, 1) := by decide +kernel
theorem dX5_winner_49 : decode cX5_winner 49 = .ok (.ifCond .ne 5, 3) := by decide +kernel
theorem dX5_winner_52 : decode cX5_winner 52 = .ok (.iconst (-1), 1) := by decide +kernel
theorem dX5_winner_53 : decode cX5_winner 53 = .ok (.ireturn, 1) := by decide +kernel
theorem dX5_winner_54 : decode cX5_winner 54 = .ok (.iload_n 1, 1) := by decide +kernel
theorem dX5_winner_55 : decode cX5_winner 55 = .ok (.ifCond .le 7, 3) := by decide +kernel
theorem dX5_winner_58 : decode cX5_winner 58 = .ok (.iconst 0, 1) := by decide +kernel
theorem dX5_winner_59 : decode cX5_winner 59 = .ok (.goto 4, 3) := by decide +kernel
theorem dX5_winner_62 : decode cX5_winner 62 = .ok (.iconst 1, 1) := by decide +kernel
theorem dX5_winner_63 : decode cX5_winner 63 = .ok (.ireturn, 1) := by decide +kernel
theorem dX5_laps_0 : decode cX5_laps 0 = .ok (.aload_n 0, 1) := by decide +kernel
theorem dX5_laps_1 : decode cX5_laps 1 = .ok (.invokevirtual 187, 3) := by decide +kernel
theorem dX5_laps_4 : decode cX5_laps 4 = .ok (.aload_n 0, 1) := by decide +kernel
theorem dX5_laps_5 : decode cX5_laps 5 = .ok (.getfield 19, 3) := by decide +kernel
theorem dX5_laps_8 : decode cX5_laps 8 = .ok (.getfield 159, 3) := by decide +kernel
theorem dX5_laps_11 : decode cX5_laps 11 = .ok (.ifCond .ne 13, 3) := by decide +kernel
theorem dX5_laps_14 : decode cX5_laps 14 = .ok (.new 116, 3) := by decide +kernel
theorem dX5_laps_17 : decode cX5_laps 17 = .ok (.dup, 1) := by decide +kernel
theorem dX5_laps_18 : decode cX5_laps 18 = .ok (.ldc 182, 2) := by decide +kernel
theorem dX5_laps_20 : decode cX5_laps 20 = .ok (.invokespecial 120, 3) := by decide +kernel
theorem dX5_laps_23 : decode cX5_laps 23 = .ok (.athrow, 1) := by decide +kernel
theorem dX5_laps_24 : decode cX5_laps 24 = .ok (.aload_n 0, 1) := by decide +kernel
theorem dX5_laps_25 : decode cX5_laps 25 = .ok (.getfield 19, 3) := by decide +kernel
theorem dX5_laps_28 : decode cX5_laps 28 = .ok (.getfield 209, 3) := by decide +kernel
theorem dX5_laps_31 : decode cX5_laps 31 = .ok (.aload_n 0, 1) := by decide +kernel
theorem dX5_laps_32 : decode cX5_laps 32 = .ok (.getfield 19, 3) := by decide +kernel
theorem dX5_laps_35 : decode cX5_laps 35 = .ok (.getfield 159, 3) := by decide +kernel
theorem dX5_laps_38 : decode cX5_laps 38 = .ok (.iconst 1, 1) := by decide +kernel
theorem dX5_laps_39 : decode cX5_laps 39 = .ok (.isub, 1) := by decide +kernel
theorem dX5_laps_40 : decode cX5_laps 40 = .ok (.iaload, 1) := by decide +kernel
theorem dX5_laps_41 : decode cX5_laps 41 = .ok (.ireturn, 1) := by decide +kernel
theorem dX5_length_0 : decode cX5_length 0 = .ok (.aload_n 0, 1) := by decide +kernel
theorem dX5_length_1 : decode cX5_length 1 = .ok (.invokevirtual 187, 3) := by decide +kernel
theorem dX5_length_4 : decode cX5_length 4 = .ok (.aload_n 0, 1) := by decide +kernel
theorem dX5_length_5 : decode cX5_length 5 = .ok (.getfield 19, 3) := by decide +kernel
theorem dX5_length_8 : decode cX5_length 8 = .ok (.getfield 159, 3) := by decide +kernel
theorem dX5_length_11 : decode cX5_length 11 = .ok (.ireturn, 1) := by decide +kernel
theorem dX5_times_0 : decode cX5_times 0 = .ok (.aload_n 0, 1) := by decide +kernel
theorem dX5_times_1 : decode cX5_times 1 = .ok (.invokevirtual 187, 3) := by decide +kernel
theorem dX5_times_4 : decode cX5_times 4 = .ok (.aload_n 0, 1) := by decide +kernel
theorem dX5_times_5 : decode cX5_times 5 = .ok (.getfield 19, 3) := by decide +kernel
theorem dX5_times_8 : decode cX5_times 8 = .ok (.invokevirtual 212, 3) := by decide +kernel
theorem dX5_times_11 : decode cX5_times 11 = .ok (.ireturn, 1) := by decide +kernel
theorem dX5_many_0 : decode cX5_many 0 = .ok (.iload_n 1, 1) := by decide +kernel
theorem dX5_many_1 : decode cX5_many 1 = .ok (.iload_n 2, 1) := by decide +kernel
theorem dX5_many_2 : decode cX5_many 2 = .ok (.invokestatic 215, 3) := by decide +kernel
theorem dX5_many_5 : decode cX5_many 5 = .ok (.aload_n 0, 1) := by decide +kernel
theorem dX5_many_6 : decode cX5_many 6 = .ok (.getfield 42, 3) := by decide +kernel
theorem dX5_many_9 : decode cX5_many 9 = .ok (.getfield 218, 3) := by decide +kernel
theorem dX5_many_12 : decode cX5_many 12 = .ok (.iload_n 1, 1) := by decide +kernel
theorem dX5_many_13 : decode cX5_many 13 = .ok (.aaload, 1) := by decide +kernel
theorem dX5_many_14 : decode cX5_many 14 = .ok (.iload_n 2, 1) := by decide +kernel
theorem dX5_many_15 : decode cX5_many 15 = .ok (.laload, 1) := by decide +kernel
theorem dX5_many_16 : decode cX5_many 16 = .ok (.lreturn, 1) := by decide +kernel
theorem dX5_number_0 : decode cX5_number 0 = .ok (.aload_n 0, 1) := by decide +kernel
theorem dX5_number_1 : decode cX5_number 1 = .ok (.invokevirtual 187, 3) := by decide +kernel
theorem dX5_number_4 : decode cX5_number 4 = .ok (.aload_n 0, 1) := by decide +kernel
theorem dX5_number_5 : decode cX5_number 5 = .ok (.getfield 42, 3) := by decide +kernel
theorem dX5_number_8 : decode cX5_number 8 = .ok (.aload_n 0, 1) := by decide +kernel
theorem dX5_number_9 : decode cX5_number 9 = .ok (.getfield 19, 3) := by decide +kernel
theorem dX5_number_12 : decode cX5_number 12 = .ok (.getfield 128, 3) := by decide +kernel
theorem dX5_number_15 : decode cX5_number 15 = .ok (.invokevirtual 222, 3) := by decide +kernel
theorem dX5_number_18 : decode cX5_number 18 = .ok (.lreturn, 1) := by decide +kernel
theorem dX5_inRow_0 : decode cX5_inRow 0 = .ok (.iload_n 1, 1) := by decide +kernel
theorem dX5_inRow_1 : decode cX5_inRow 1 = .ok (.iload_n 2, 1) := by decide +kernel
theorem dX5_inRow_2 : decode cX5_inRow 2 = .ok (.invokestatic 215, 3) := by decide +kernel
theorem dX5_inRow_5 : decode cX5_inRow 5 = .ok (.lload_n 3, 1) := by decide +kernel
theorem dX5_inRow_6 : decode cX5_inRow 6 = .ok (.lconst 0, 1) := by decide +kernel
theorem dX5_inRow_7 : decode cX5_inRow 7 = .ok (.lcmp, 1) := by decide +kernel
theorem dX5_inRow_8 : decode cX5_inRow 8 = .ok (.ifCond .lt 19, 3) := by decide +kernel
theorem dX5_inRow_11 : decode cX5_inRow 11 = .ok (.lload_n 3, 1) := by decide +kernel
theorem dX5_inRow_12 : decode cX5_inRow 12 = .ok (.aload_n 0, 1) := by decide +kernel
theorem dX5_inRow_13 : decode cX5_inRow 13 = .ok (.getfield 42, 3) := by decide +kernel
theorem dX5_inRow_16 : decode cX5_inRow 16 = .ok (.getfield 218, 3) := by decide +kernel
theorem dX5_inRow_19 : decode cX5_inRow 19 = .ok (.iload_n 1, 1) := by decide +kernel
theorem dX5_inRow_20 : decode cX5_inRow 20 = .ok (.aaload, 1) := by decide +kernel
theorem dX5_inRow_21 : decode cX5_inRow 21 = .ok (.iload_n 2, 1) := by decide +kernel
theorem dX5_inRow_22 : decode cX5_inRow 22 = .ok (.laload, 1) := by decide +kernel
theorem dX5_inRow_23 : decode cX5_inRow 23 = .ok (.lcmp, 1) := by decide +kernel
theorem dX5_inRow_24 : decode cX5_inRow 24 = .ok (.ifCond .lt 13, 3) := by decide +kernel
theorem dX5_inRow_27 : decode cX5_inRow 27 = .ok (.new 61, 3) := by decide +kernel
theorem dX5_inRow_30 : decode cX5_inRow 30 = .ok (.dup, 1) := by decide +kernel
theorem dX5_inRow_31 : decode cX5_inRow 31 = .ok (.ldc 226, 2) := by decide +kernel
theorem dX5_inRow_33 : decode cX5_inRow 33 = .ok (.invokespecial 65, 3) := by decide +kernel
theorem dX5_inRow_36 : decode cX5_inRow 36 = .ok (.athrow, 1) := by decide +kernel
theorem dX5_inRow_37 : decode cX5_inRow 37 = .ok (.iload 5, 2) := by decide +kernel
theorem dX5_inRow_39 : decode cX5_inRow 39 = .ok (.iconst 0, 1) := by decide +kernel
theorem dX5_inRow_40 : decode cX5_inRow 40 = .ok (.iload_n 1, 1) := by decide +kernel
theorem dX5_inRow_41 : decode cX5_inRow 41 = .ok (.iconst 1, 1) := by decide +kernel
theorem dX5_inRow_42 : decode cX5_inRow 42 = .ok (.isub, 1) := by decide +kernel
theorem dX5_inRow_43 : decode cX5_inRow 43 = .ok (.invokestatic 57, 3) := by decide +kernel
theorem dX5_inRow_46 : decode cX5_inRow 46 = .ok (.ifCond .ne 13, 3) := by decide +kernel
theorem dX5_inRow_49 : decode cX5_inRow 49 = .ok (.new 193, 3) := by decide +kernel
theorem dX5_inRow_52 : decode cX5_inRow 52 = .ok (.dup, 1) := by decide +kernel
theorem dX5_inRow_53 : decode cX5_inRow 53 = .ok (.ldc 228, 2) := by decide +kernel
theorem dX5_inRow_55 : decode cX5_inRow 55 = .ok (.invokespecial 197, 3) := by decide +kernel
theorem dX5_inRow_58 : decode cX5_inRow 58 = .ok (.athrow, 1) := by decide +kernel
theorem dX5_inRow_59 : decode cX5_inRow 59 = .ok (.aload_n 0, 1) := by decide +kernel
theorem dX5_inRow_60 : decode cX5_inRow 60 = .ok (.getfield 42, 3) := by decide +kernel
theorem dX5_inRow_63 : decode cX5_inRow 63 = .ok (.iload_n 1, 1) := by decide +kernel
theorem dX5_inRow_64 : decode cX5_inRow 64 = .ok (.iload_n 2, 1) := by decide +kernel
theorem dX5_inRow_65 : decode cX5_inRow 65 = .ok (.lload_n 3, 1) := by decide +kernel
theorem dX5_inRow_66 : decode cX5_inRow 66 = .ok (.iload 5, 2) := by decide +kernel
theorem dX5_inRow_68 : decode cX5_inRow 68 = .ok (.invokevirtual 230, 3) := by decide +kernel
theorem dX5_inRow_71 : decode cX5_inRow 71 = .ok (.ireturn, 1) := by decide +kernel
theorem dX5_value_0 : decode cX5_value 0 = .ok (.aload_n 0, 1) := by decide +kernel
theorem dX5_value_1 : decode cX5_value 1 = .ok (.invokevirtual 138, 3) := by decide +kernel
theorem dX5_value_4 : decode cX5_value 4 = .ok (.iload_n 1, 1) := by decide +kernel
theorem dX5_value_5 : decode cX5_value 5 = .ok (.iconst 0, 1) := by decide +kernel
theorem dX5_value_6 : decode cX5_value 6 = .ok (.invokestatic 234, 3) := by decide +kernel
theorem dX5_value_9 : decode cX5_value 9 = .ok (.iload_n 1, 1) := by decide +kernel
theorem dX5_value_10 : decode cX5_value 10 = .ok (.ifCond .ne 14, 3) := by decide +kernel
theorem dX5_value_13 : decode cX5_value 13 = .ok (.aload_n 0, 1) := by decide +kernel
theorem dX5_value_14 : decode cX5_value 14 = .ok (.getfield 19, 3) := by decide +kernel
theorem dX5_value_17 : decode cX5_value 17 = .ok (.getfield 128, 3) := by decide +kernel
theorem dX5_value_20 : decode cX5_value 20 = .ok (.invokevirtual 237, 3) := by decide +kernel
theorem dX5_value_23 : decode cX5_value 23 = .ok (.ireturn, 1) := by decide +kernel
theorem dX5_value_24 : decode cX5_value 24 = .ok (.aload_n 0, 1) := by decide +kernel
theorem dX5_value_25 : decode cX5_value 25 = .ok (.getfield 35, 3) := by decide +kernel
theorem dX5_value_28 : decode cX5_value 28 = .ok (.aload_n 0, 1) := by decide +kernel
theorem dX5_value_29 : decode cX5_value 29 = .ok (.getfield 19, 3) := by decide +kernel
theorem dX5_value_32 : decode cX5_value 32 = .ok (.getfield 128, 3) := by decide +kernel
theorem dX5_value_35 : decode cX5_value 35 = .ok (.iload_n 1, 1) := by decide +kernel
theorem dX5_value_36 : decode cX5_value 36 = .ok (.invokevirtual 240, 3) := by decide +kernel
theorem dX5_value_39 : decode cX5_value 39 = .ok (.aload_n 0, 1) := by decide +kernel
theorem dX5_value_40 : decode cX5_value 40 = .ok (.getfield 35, 3) := by decide +kernel
theorem dX5_value_43 : decode cX5_value 43 = .ok (.getfield 244, 3) := by decide +kernel
theorem dX5_value_46 : decode cX5_value 46 = .ok (.ifCond .ne 16, 3) := by decide +kernel
theorem dX5_value_49 : decode cX5_value 49 = .ok (.aload_n 0, 1) := by decide +kernel
theorem dX5_value_50 : decode cX5_value 50 = .ok (.getfield 19, 3) := by decide +kernel
theorem dX5_value_53 : decode cX5_value 53 = .ok (.getfield 128, 3) := by decide +kernel
theorem dX5_value_56 : decode cX5_value 56 = .ok (.invokevirtual 237, 3) := by decide +kernel
theorem dX5_value_59 : decode cX5_value 59 = .ok (.goto 10, 3) := by decide +kernel
theorem dX5_value_62 : decode cX5_value 62 = .ok (.aload_n 0, 1) := by decide +kernel
theorem dX5_value_63 : decode cX5_value 63 = .ok (.getfield 35, 3) := by decide +kernel
theorem dX5_value_66 : decode cX5_value 66 = .ok (.getfield 247, 3) := by decide +kernel
theorem dX5_value_69 : decode cX5_value 69 = .ok (.ireturn, 1) := by decide +kernel
theorem dX5_best_0 : decode cX5_best 0 = .ok (.aload_n 0, 1) := by decide +kernel
theorem dX5_best_1 : decode cX5_best 1 = .ok (.invokevirtual 138, 3) := by decide +kernel
theorem dX5_best_4 : decode cX5_best 4 = .ok (.iload_n 1, 1) := by decide +kernel
theorem dX5_best_5 : decode cX5_best 5 = .ok (.iconst 1, 1) := by decide +kernel
theorem dX5_best_6 : decode cX5_best 6 = .ok (.invokestatic 234, 3) := by decide +kernel
theorem dX5_best_9 : decode cX5_best 9 = .ok (.aload_n 0, 1) := by decide +kernel
theorem dX5_best_10 : decode cX5_best 10 = .ok (.getfield 35, 3) := by decide +kernel
theorem dX5_best_13 : decode cX5_best 13 = .ok (.aload_n 0, 1) := by decide +kernel
theorem dX5_best_14 : decode cX5_best 14 = .ok (.getfield 19, 3) := by decide +kernel
theorem dX5_best_17 : decode cX5_best 17 = .ok (.getfield 128, 3) := by decide +kernel
theorem dX5_best_20 : decode cX5_best 20 = .ok (.iload_n 1, 1) := by decide +kernel
theorem dX5_best_21 : decode cX5_best 21 = .ok (.invokevirtual 240, 3) := by decide +kernel
theorem dX5_best_24 : decode cX5_best 24 = .ok (.aload_n 0, 1) := by decide +kernel
theorem dX5_best_25 : decode cX5_best 25 = .ok (.getfield 35, 3) := by decide +kernel
theorem dX5_best_28 : decode cX5_best 28 = .ok (.getfield 244, 3) := by decide +kernel
theorem dX5_best_31 : decode cX5_best 31 = .ok (.ifCond .ne 13, 3) := by decide +kernel
theorem dX5_best_34 : decode cX5_best 34 = .ok (.new 116, 3) := by decide +kernel
theorem dX5_best_37 : decode cX5_best 37 = .ok (.dup, 1) := by decide +kernel
theorem dX5_best_38 : decode cX5_best 38 = .ok (.ldc 250, 2) := by decide +kernel
theorem dX5_best_40 : decode cX5_best 40 = .ok (.invokespecial 120, 3) := by decide +kernel
theorem dX5_best_43 : decode cX5_best 43 = .ok (.athrow, 1) := by decide +kernel
theorem dX5_best_44 : decode cX5_best 44 = .ok (.aload_n 0, 1) := by decide +kernel
theorem dX5_best_45 : decode cX5_best 45 = .ok (.getfield 35, 3) := by decide +kernel
theorem dX5_best_48 : decode cX5_best 48 = .ok (.getfield 252, 3) := by decide +kernel
theorem dX5_best_51 : decode cX5_best 51 = .ok (.ireturn, 1) := by decide +kernel
theorem dX5_blunder_0 : decode cX5_blunder 0 = .ok (.aload_n 0, 1) := by decide +kernel
theorem dX5_blunder_1 : decode cX5_blunder 1 = .ok (.invokevirtual 138, 3) := by decide +kernel
theorem dX5_blunder_4 : decode cX5_blunder 4 = .ok (.aload_n 0, 1) := by decide +kernel
theorem dX5_blunder_5 : decode cX5_blunder 5 = .ok (.iload_n 1, 1) := by decide +kernel
theorem dX5_blunder_6 : decode cX5_blunder 6 = .ok (.invokevirtual 141, 3) := by decide +kernel
theorem dX5_blunder_9 : decode cX5_blunder 9 = .ok (.iload_n 2, 1) := by decide +kernel
theorem dX5_blunder_10 : decode cX5_blunder 10 = .ok (.iconst 1, 1) := by decide +kernel
theorem dX5_blunder_11 : decode cX5_blunder 11 = .ok (.invokestatic 234, 3) := by decide +kernel
theorem dX5_blunder_14 : decode cX5_blunder 14 = .ok (.aload_n 0, 1) := by decide +kernel
theorem dX5_blunder_15 : decode cX5_blunder 15 = .ok (.getfield 35, 3) := by decide +kernel
theorem dX5_blunder_18 : decode cX5_blunder 18 = .ok (.aload_n 0, 1) := by decide +kernel
theorem dX5_blunder_19 : decode cX5_blunder 19 = .ok (.getfield 19, 3) := by decide +kernel
theorem dX5_blunder_22 : decode cX5_blunder 22 = .ok (.getfield 128, 3) := by decide +kernel
theorem dX5_blunder_25 : decode cX5_blunder 25 = .ok (.iload_n 2, 1) := by decide +kernel
theorem dX5_blunder_26 : decode cX5_blunder 26 = .ok (.invokevirtual 240, 3) := by decide +kernel
theorem dX5_blunder_29 : decode cX5_blunder 29 = .ok (.aload_n 0, 1) := by decide +kernel
theorem dX5_blunder_30 : decode cX5_blunder 30 = .ok (.getfield 35, 3) := by decide +kernel
theorem dX5_blunder_33 : decode cX5_blunder 33 = .ok (.getfield 255, 3) := by decide +kernel
theorem dX5_blunder_36 : decode cX5_blunder 36 = .ok (.iload_n 1, 1) := by decide +kernel
theorem dX5_blunder_37 : decode cX5_blunder 37 = .ok (.baload, 1) := by decide +kernel
theorem dX5_blunder_38 : decode cX5_blunder 38 = .ok (.ifCond .ne 13, 3) := by decide +kernel
theorem dX5_blunder_41 : decode cX5_blunder 41 = .ok (.new 150, 3) := by decide +kernel
theorem dX5_blunder_44 : decode cX5_blunder 44 = .ok (.dup, 1) := by decide +kernel
theorem dX5_blunder_45 : decode cX5_blunder 45 = .ok (.ldc 170, 2) := by decide +kernel
theorem dX5_blunder_47 : decode cX5_blunder 47 = .ok (.invokespecial 154, 3) := by decide +kernel
theorem dX5_blunder_50 : decode cX5_blunder 50 = .ok (.athrow, 1) := by decide +kernel
theorem dX5_blunder_51 : decode cX5_blunder 51 = .ok (.aload_n 0, 1) := by decide +kernel
theorem dX5_blunder_52 : decode cX5_blunder 52 = .ok (.getfield 35, 3) := by decide +kernel
theorem dX5_blunder_55 : decode cX5_blunder 55 = .ok (.getfield 247, 3) := by decide +kernel
theorem dX5_blunder_58 : decode cX5_blunder 58 = .ok (.aload_n 0, 1) := by decide +kernel
theorem dX5_blunder_59 : decode cX5_blunder 59 = .ok (.getfield 35, 3) := by decide +kernel
theorem dX5_blunder_62 : decode cX5_blunder 62 = .ok (.getfield 258, 3) := by decide +kernel
theorem dX5_blunder_65 : decode cX5_blunder 65 = .ok (.iload_n 1, 1) := by decide +kernel
theorem dX5_blunder_66 : decode cX5_blunder 66 = .ok (.iaload, 1) := by decide +kernel
theorem dX5_blunder_67 : decode cX5_blunder 67 = .ok (.isub, 1) := by decide +kernel
theorem dX5_blunder_68 : decode cX5_blunder 68 = .ok (.ireturn, 1) := by decide +kernel
theorem dX5_isPuzzle_0 : decode cX5_isPuzzle 0 = .ok (.aload_n 0, 1) := by decide +kernel
theorem dX5_isPuzzle_1 : decode cX5_isPuzzle 1 = .ok (.invokevirtual 138, 3) := by decide +kernel
theorem dX5_isPuzzle_4 : decode cX5_isPuzzle 4 = .ok (.iload_n 1, 1) := by decide +kernel
theorem dX5_isPuzzle_5 : decode cX5_isPuzzle 5 = .ok (.iconst 1, 1) := by decide +kernel
theorem dX5_isPuzzle_6 : decode cX5_isPuzzle 6 = .ok (.invokestatic 234, 3) := by decide +kernel
theorem dX5_isPuzzle_9 : decode cX5_isPuzzle 9 = .ok (.aload_n 0, 1) := by decide +kernel
theorem dX5_isPuzzle_10 : decode cX5_isPuzzle 10 = .ok (.getfield 35, 3) := by decide +kernel
theorem dX5_isPuzzle_13 : decode cX5_isPuzzle 13 = .ok (.aload_n 0, 1) := by decide +kernel
theorem dX5_isPuzzle_14 : decode cX5_isPuzzle 14 = .ok (.getfield 19, 3) := by decide +kernel
theorem dX5_isPuzzle_17 : decode cX5_isPuzzle 17 = .ok (.getfield 128, 3) := by decide +kernel
theorem dX5_isPuzzle_20 : decode cX5_isPuzzle 20 = .ok (.iload_n 1, 1) := by decide +kernel
theorem dX5_isPuzzle_21 : decode cX5_isPuzzle 21 = .ok (.invokevirtual 240, 3) := by decide +kernel
theorem dX5_isPuzzle_24 : decode cX5_isPuzzle 24 = .ok (.aload_n 0, 1) := by decide +kernel
theorem dX5_isPuzzle_25 : decode cX5_isPuzzle 25 = .ok (.getfield 35, 3) := by decide +kernel
theorem dX5_isPuzzle_28 : decode cX5_isPuzzle 28 = .ok (.getfield 244, 3) := by decide +kernel
theorem dX5_isPuzzle_31 : decode cX5_isPuzzle 31 = .ok (.iconst 1, 1) := by decide +kernel
theorem dX5_isPuzzle_32 : decode cX5_isPuzzle 32 = .ok (.if_icmp .ne 7, 3) := by decide +kernel
theorem dX5_isPuzzle_35 : decode cX5_isPuzzle 35 = .ok (.iconst 1, 1) := by decide +kernel
theorem dX5_isPuzzle_36 : decode cX5_isPuzzle 36 = .ok (.goto 4, 3) := by decide +kernel
theorem dX5_isPuzzle_39 : decode cX5_isPuzzle 39 = .ok (.iconst 0, 1) := by decide +kernel
theorem dX5_isPuzzle_40 : decode cX5_isPuzzle 40 = .ok (.ireturn, 1) := by decide +kernel
theorem dX5_play_0 : decode cX5_play 0 = .ok (.aload_n 0, 1) := by decide +kernel
theorem dX5_play_1 : decode cX5_play 1 = .ok (.iload_n 1, 1) := by decide +kernel
theorem dX5_play_2 : decode cX5_play 2 = .ok (.invokevirtual 97, 3) := by decide +kernel
theorem dX5_play_5 : decode cX5_play 5 = .ok (.iload_n 2, 1) := by decide +kernel
theorem dX5_play_6 : decode cX5_play 6 = .ok (.bipush 108, 2) := by decide +kernel
theorem dX5_play_8 : decode cX5_play 8 = .ok (.if_icmp .eq 26, 3) := by decide +kernel
theorem dX5_play_11 : decode cX5_play 11 = .ok (.iload_n 2, 1) := by decide +kernel
theorem dX5_play_12 : decode cX5_play 12 = .ok (.bipush 99, 2) := by decide +kernel
theorem dX5_play_14 : decode cX5_play 14 = .ok (.if_icmp .eq 20, 3) := by decide +kernel
theorem dX5_play_17 : decode cX5_play 17 = .ok (.iload_n 2, 1) := by decide +kernel
theorem dX5_play_18 : decode cX5_play 18 = .ok (.bipush 100, 2) := by decide +kernel
theorem dX5_play_20 : decode cX5_play 20 = .ok (.if_icmp .eq 14, 3) := by decide +kernel
theorem dX5_play_23 : decode cX5_play 23 = .ok (.new 61, 3) := by decide +kernel
theorem dX5_play_26 : decode cX5_play 26 = .ok (.dup, 1) := by decide +kernel
theorem dX5_play_27 : decode cX5_play 27 = .ok (.ldc_w 261, 3) := by decide +kernel
theorem dX5_play_30 : decode cX5_play 30 = .ok (.invokespecial 65, 3) := by decide +kernel
theorem dX5_play_33 : decode cX5_play 33 = .ok (.athrow, 1) := by decide +kernel
theorem dX5_play_34 : decode cX5_play 34 = .ok (.aload_n 0, 1) := by decide +kernel
theorem dX5_play_35 : decode cX5_play 35 = .ok (.getfield 23, 3) := by decide +kernel
theorem dX5_play_38 : decode cX5_play 38 = .ok (.aload_n 0, 1) := by decide +kernel
theorem dX5_play_39 : decode cX5_play 39 = .ok (.getfield 11, 3) := by decide +kernel
theorem dX5_play_42 : decode cX5_play 42 = .ok (.iload_n 1, 1) := by decide +kernel
theorem dX5_play_43 : decode cX5_play 43 = .ok (.aaload, 1) := by decide +kernel
theorem dX5_play_44 : decode cX5_play 44 = .ok (.invokevirtual 125, 3) := by decide +kernel
theorem dX5_play_47 : decode cX5_play 47 = .ok (.aload_n 0, 1) := by decide +kernel
theorem dX5_play_48 : decode cX5_play 48 = .ok (.getfield 23, 3) := by decide +kernel
theorem dX5_play_51 : decode cX5_play 51 = .ok (.invokevirtual 263, 3) := by decide +kernel
theorem dX5_play_54 : decode cX5_play 54 = .ok (.istore_n 3, 1) := by decide +kernel
theorem dX5_play_55 : decode cX5_play 55 = .ok (.iload_n 2, 1) := by decide +kernel
theorem dX5_play_56 : decode cX5_play 56 = .ok (.bipush 108, 2) := by decide +kernel
theorem dX5_play_58 : decode cX5_play 58 = .ok (.if_icmp .ne 11, 3) := by decide +kernel
theorem dX5_play_61 : decode cX5_play 61 = .ok (.aload_n 0, 1) := by decide +kernel
theorem dX5_play_62 : decode cX5_play 62 = .ok (.getfield 23, 3) := by decide +kernel
theorem dX5_play_65 : decode cX5_play 65 = .ok (.getfield 159, 3) := by decide +kernel
theorem dX5_play_68 : decode cX5_play 68 = .ok (.ireturn, 1) := by decide +kernel
theorem dX5_play_69 : decode cX5_play 69 = .ok (.iload_n 2, 1) := by decide +kernel
theorem dX5_play_70 : decode cX5_play 70 = .ok (.bipush 99, 2) := by decide +kernel
theorem dX5_play_72 : decode cX5_play 72 = .ok (.if_icmp .ne 7, 3) := by decide +kernel
theorem dX5_play_75 : decode cX5_play 75 = .ok (.iload_n 3, 1) := by decide +kernel
theorem dX5_play_76 : decode cX5_play 76 = .ok (.goto 26, 3) := by decide +kernel
theorem dX5_play_79 : decode cX5_play 79 = .ok (.aload_n 0, 1) := by decide +kernel
theorem dX5_play_80 : decode cX5_play 80 = .ok (.getfield 23, 3) := by decide +kernel
theorem dX5_play_83 : decode cX5_play 83 = .ok (.getfield 128, 3) := by decide +kernel
theorem dX5_play_86 : decode cX5_play 86 = .ok (.iconst 0, 1) := by decide +kernel
theorem dX5_play_87 : decode cX5_play 87 = .ok (.invokevirtual 198, 3) := by decide +kernel
theorem dX5_play_90 : decode cX5_play 90 = .ok (.aload_n 0, 1) := by decide +kernel
theorem dX5_play_91 : decode cX5_play 91 = .ok (.getfield 23, 3) := by decide +kernel
theorem dX5_play_94 : decode cX5_play 94 = .ok (.getfield 128, 3) := by decide +kernel
theorem dX5_play_97 : decode cX5_play 97 = .ok (.iconst 1, 1) := by decide +kernel
theorem dX5_play_98 : decode cX5_play 98 = .ok (.invokevirtual 198, 3) := by decide +kernel
theorem dX5_play_101 : decode cX5_play 101 = .ok (.isub, 1) := by decide +kernel
theorem dX5_play_102 : decode cX5_play 102 = .ok (.ireturn, 1) := by decide +kernel
theorem dX5_type_0 : decode cX5_type 0 = .ok (.iload_n 1, 1) := by decide +kernel
theorem dX5_type_1 : decode cX5_type 1 = .ok (.iconst 0, 1) := by decide +kernel
theorem dX5_type_2 : decode cX5_type 2 = .ok (.bipush 9, 2) := by decide +kernel
theorem dX5_type_4 : decode cX5_type 4 = .ok (.invokestatic 57, 3) := by decide +kernel
theorem dX5_type_7 : decode cX5_type 7 = .ok (.ifCond .ne 14, 3) := by decide +kernel
theorem dX5_type_10 : decode cX5_type 10 = .ok (.new 61, 3) := by decide +kernel
theorem dX5_type_13 : decode cX5_type 13 = .ok (.dup, 1) := by decide +kernel
theorem dX5_type_14 : decode cX5_type 14 = .ok (.ldc_w 266, 3) := by decide +kernel
theorem dX5_type_17 : decode cX5_type 17 = .ok (.invokespecial 65, 3) := by decide +kernel
theorem dX5_type_20 : decode cX5_type 20 = .ok (.athrow, 1) := by decide +kernel
theorem dX5_type_21 : decode cX5_type 21 = .ok (.aload_n 0, 1) := by decide +kernel
theorem dX5_type_22 : decode cX5_type 22 = .ok (.getfield 268, 3) := by decide +kernel
theorem dX5_type_25 : decode cX5_type 25 = .ok (.bipush 60, 2) := by decide +kernel
theorem dX5_type_27 : decode cX5_type 27 = .ok (.if_icmp .lt 14, 3) := by decide +kernel
theorem dX5_type_30 : decode cX5_type 30 = .ok (.new 162, 3) := by decide +kernel
theorem dX5_type_33 : decode cX5_type 33 = .ok (.dup, 1) := by decide +kernel
theorem dX5_type_34 : decode cX5_type 34 = .ok (.ldc_w 271, 3) := by decide +kernel
theorem dX5_type_37 : decode cX5_type 37 = .ok (.invokespecial 166, 3) := by decide +kernel
theorem dX5_type_40 : decode cX5_type 40 = .ok (.athrow, 1) := by decide +kernel
theorem dX5_type_41 : decode cX5_type 41 = .ok (.aload_n 0, 1) := by decide +kernel
theorem dX5_type_42 : decode cX5_type 42 = .ok (.getfield 46, 3) := by decide +kernel
theorem dX5_type_45 : decode cX5_type 45 = .ok (.aload_n 0, 1) := by decide +kernel
theorem dX5_type_46 : decode cX5_type 46 = .ok (.getfield 268, 3) := by decide +kernel
theorem dX5_type_49 : decode cX5_type 49 = .ok (.iload_n 1, 1) := by decide +kernel
theorem dX5_type_50 : decode cX5_type 50 = .ok (.iastore, 1) := by decide +kernel
theorem dX5_type_51 : decode cX5_type 51 = .ok (.aload_n 0, 1) := by decide +kernel
theorem dX5_type_52 : decode cX5_type 52 = .ok (.dup, 1) := by decide +kernel
theorem dX5_type_53 : decode cX5_type 53 = .ok (.getfield 268, 3) := by decide +kernel
theorem dX5_type_56 : decode cX5_type 56 = .ok (.iconst 1, 1) := by decide +kernel
theorem dX5_type_57 : decode cX5_type 57 = .ok (.iadd, 1) := by decide +kernel
theorem dX5_type_58 : decode cX5_type 58 = .ok (.putfield 268, 3) := by decide +kernel
theorem dX5_type_61 : decode cX5_type 61 = .ok (.aload_n 0, 1) := by decide +kernel
theorem dX5_type_62 : decode cX5_type 62 = .ok (.getfield 268, 3) := by decide +kernel
theorem dX5_type_65 : decode cX5_type 65 = .ok (.ireturn, 1) := by decide +kernel
theorem dX5_wipe_0 : decode cX5_wipe 0 = .ok (.aload_n 0, 1) := by decide +kernel
theorem dX5_wipe_1 : decode cX5_wipe 1 = .ok (.getfield 268, 3) := by decide +kernel
theorem dX5_wipe_4 : decode cX5_wipe 4 = .ok (.istore_n 1, 1) := by decide +kernel
theorem dX5_wipe_5 : decode cX5_wipe 5 = .ok (.aload_n 0, 1) := by decide +kernel
theorem dX5_wipe_6 : decode cX5_wipe 6 = .ok (.iconst 0, 1) := by decide +kernel
theorem dX5_wipe_7 : decode cX5_wipe 7 = .ok (.putfield 268, 3) := by decide +kernel
theorem dX5_wipe_10 : decode cX5_wipe 10 = .ok (.iload_n 1, 1) := by decide +kernel
theorem dX5_wipe_11 : decode cX5_wipe 11 = .ok (.ireturn, 1) := by decide +kernel
theorem dX5_explains_0 : decode cX5_explains 0 = .ok (.aload_n 0, 1) := by decide +kernel
theorem dX5_explains_1 : decode cX5_explains 1 = .ok (.iload_n 1, 1) := by decide +kernel
theorem dX5_explains_2 : decode cX5_explains 2 = .ok (.invokevirtual 97, 3) := by decide +kernel
theorem dX5_explains_5 : decode cX5_explains 5 = .ok (.aload_n 0, 1) := by decide +kernel
theorem dX5_explains_6 : decode cX5_explains 6 = .ok (.iload_n 1, 1) := by decide +kernel
theorem dX5_explains_7 : decode cX5_explains 7 = .ok (.invokevirtual 273, 3) := by decide +kernel
theorem dX5_explains_10 : decode cX5_explains 10 = .ok (.ireturn, 1) := by decide +kernel
theorem dX5_explainer_0 : decode cX5_explainer 0 = .ok (.aload_n 0, 1) := by decide +kernel
theorem dX5_explainer_1 : decode cX5_explainer 1 = .ok (.getfield 80, 3) := by decide +kernel
theorem dX5_explainer_4 : decode cX5_explainer 4 = .ok (.ifCond .eq 10, 3) := by decide +kernel
theorem dX5_explainer_7 : decode cX5_explainer 7 = .ok (.aload_n 0, 1) := by decide +kernel
theorem dX5_explainer_8 : decode cX5_explainer 8 = .ok (.getfield 268, 3) := by decide +kernel
theorem dX5_explainer_11 : decode cX5_explainer 11 = .ok (.ifCond .ne 14, 3) := by decide +kernel
theorem dX5_explainer_14 : decode cX5_explainer 14 = .ok (.new 116, 3) := by decide +kernel
theorem dX5_explainer_17 : decode cX5_explainer 17 = .ok (.dup, 1) := by decide +kernel
theorem dX5_explainer_18 : decode cX5_explainer 18 = .ok (.ldc_w 276, 3) := by decide +kernel
theorem dX5_explainer_21 : decode cX5_explainer 21 = .ok (.invokespecial 120, 3) := by decide +kernel
theorem dX5_explainer_24 : decode cX5_explainer 24 = .ok (.athrow, 1) := by decide +kernel
theorem dX5_explainer_25 : decode cX5_explainer 25 = .ok (.iconst 0, 1) := by decide +kernel
theorem dX5_explainer_26 : decode cX5_explainer 26 = .ok (.istore_n 1, 1) := by decide +kernel
theorem dX5_explainer_27 : decode cX5_explainer 27 = .ok (.aload_n 0, 1) := by decide +kernel
theorem dX5_explainer_28 : decode cX5_explainer 28 = .ok (.iconst 0, 1) := by decide +kernel
theorem dX5_explainer_29 : decode cX5_explainer 29 = .ok (.invokevirtual 273, 3) := by decide +kernel
theorem dX5_explainer_32 : decode cX5_explainer 32 = .ok (.istore_n 2, 1) := by decide +kernel
theorem dX5_explainer_33 : decode cX5_explainer 33 = .ok (.iconst 1, 1) := by decide +kernel
theorem dX5_explainer_34 : decode cX5_explainer 34 = .ok (.istore_n 3, 1) := by decide +kernel
theorem dX5_explainer_35 : decode cX5_explainer 35 = .ok (.iload_n 3, 1) := by decide +kernel
theorem dX5_explainer_36 : decode cX5_explainer 36 = .ok (.aload_n 0, 1) := by decide +kernel
theorem dX5_explainer_37 : decode cX5_explainer 37 = .ok (.getfield 80, 3) := by decide +kernel
theorem dX5_explainer_40 : decode cX5_explainer 40 = .ok (.if_icmp .ge 42, 3) := by decide +kernel
theorem dX5_explainer_43 : decode cX5_explainer 43 = .ok (.aload_n 0, 1) := by decide +kernel
theorem dX5_explainer_44 : decode cX5_explainer 44 = .ok (.iload_n 3, 1) := by decide +kernel
theorem dX5_explainer_45 : decode cX5_explainer 45 = .ok (.invokevirtual 273, 3) := by decide +kernel
theorem dX5_explainer_48 : decode cX5_explainer 48 = .ok (.istore 4, 2) := by decide +kernel
theorem dX5_explainer_50 : decode cX5_explainer 50 = .ok (.iload 4, 2) := by decide +kernel
theorem dX5_explainer_52 : decode cX5_explainer 52 = .ok (.iload_n 2, 1) := by decide +kernel
theorem dX5_explainer_53 : decode cX5_explainer 53 = .ok (.if_icmp .gt 18, 3) := by decide +kernel
theorem dX5_explainer_56 : decode cX5_explainer 56 = .ok (.iload 4, 2) := by decide +kernel
theorem dX5_explainer_58 : decode cX5_explainer 58 = .ok (.iload_n 2, 1) := by decide +kernel
theorem dX5_explainer_59 : decode cX5_explainer 59 = .ok (.if_icmp .ne 17, 3) := by decide +kernel
theorem dX5_explainer_62 : decode cX5_explainer 62 = .ok (.aload_n 0, 1) := by decide +kernel
theorem dX5_explainer_63 : decode cX5_explainer 63 = .ok (.iload_n 3, 1) := by decide +kernel
theorem dX5_explainer_64 : decode cX5_explainer 64 = .ok (.iload_n 1, 1) := by decide +kernel
theorem dX5_explainer_65 : decode cX5_explainer 65 = .ok (.invokevirtual 278, 3) := by decide +kernel
theorem dX5_explainer_68 : decode cX5_explainer 68 = .ok (.ifCond .eq 8, 3) := by decide +kernel
theorem dX5_explainer_71 : decode cX5_explainer 71 = .ok (.iload_n 3, 1) := by decide +kernel
theorem dX5_explainer_72 : decode cX5_explainer 72 = .ok (.istore_n 1, 1) := by decide +kernel
theorem dX5_explainer_73 : decode cX5_explainer 73 = .ok (.iload 4, 2) := by decide +kernel
theorem dX5_explainer_75 : decode cX5_explainer 75 = .ok (.istore_n 2, 1) := by decide +kernel
theorem dX5_explainer_76 : decode cX5_explainer 76 = .ok (.iinc 3 1, 3) := by decide +kernel
theorem dX5_explainer_79 : decode cX5_explainer 79 = .ok (.goto (-44), 3) := by decide +kernel
theorem dX5_explainer_82 : decode cX5_explainer 82 = .ok (.iload_n 1, 1) := by decide +kernel
theorem dX5_explainer_83 : decode cX5_explainer 83 = .ok (.ireturn, 1) := by decide +kernel
theorem dX5_line_0 : decode cX5_line 0 = .ok (.aload_n 0, 1) := by decide +kernel
theorem dX5_line_1 : decode cX5_line 1 = .ok (.invokevirtual 187, 3) := by decide +kernel
theorem dX5_line_4 : decode cX5_line 4 = .ok (.aload_n 0, 1) := by decide +kernel
theorem dX5_line_5 : decode cX5_line 5 = .ok (.invokevirtual 282, 3) := by decide +kernel
theorem dX5_line_8 : decode cX5_line 8 = .ok (.aload_n 0, 1) := by decide +kernel
theorem dX5_line_9 : decode cX5_line 9 = .ok (.getfield 53, 3) := by decide +kernel
theorem dX5_line_12 : decode cX5_line 12 = .ok (.invokevirtual 285, 3) := by decide +kernel
theorem dX5_line_15 : decode cX5_line 15 = .ok (.ireturn, 1) := by decide +kernel
theorem dX5_sign_0 : decode cX5_sign 0 = .ok (.aload_n 0, 1) := by decide +kernel
theorem dX5_sign_1 : decode cX5_sign 1 = .ok (.invokevirtual 187, 3) := by decide +kernel
theorem dX5_sign_4 : decode cX5_sign 4 = .ok (.aload_n 0, 1) := by decide +kernel
theorem dX5_sign_5 : decode cX5_sign 5 = .ok (.invokevirtual 282, 3) := by decide +kernel
theorem dX5_sign_8 : decode cX5_sign 8 = .ok (.iload_n 1, 1) := by decide +kernel
theorem dX5_sign_9 : decode cX5_sign 9 = .ok (.ifCond .lt 14, 3) := by decide +kernel
theorem dX5_sign_12 : decode cX5_sign 12 = .ok (.iload_n 1, 1) := by decide +kernel
theorem dX5_sign_13 : decode cX5_sign 13 = .ok (.aload_n 0, 1) := by decide +kernel
theorem dX5_sign_14 : decode cX5_sign 14 = .ok (.getfield 53, 3) := by decide +kernel
theorem dX5_sign_17 : decode cX5_sign 17 = .ok (.invokevirtual 285, 3) := by decide +kernel
theorem dX5_sign_20 : decode cX5_sign 20 = .ok (.if_icmp .lt 14, 3) := by decide +kernel
theorem dX5_sign_23 : decode cX5_sign 23 = .ok (.new 116, 3) := by decide +kernel
theorem dX5_sign_26 : decode cX5_sign 26 = .ok (.dup, 1) := by decide +kernel
theorem dX5_sign_27 : decode cX5_sign 27 = .ok (.ldc_w 288, 3) := by decide +kernel
theorem dX5_sign_30 : decode cX5_sign 30 = .ok (.invokespecial 120, 3) := by decide +kernel
theorem dX5_sign_33 : decode cX5_sign 33 = .ok (.athrow, 1) := by decide +kernel
theorem dX5_sign_34 : decode cX5_sign 34 = .ok (.aload_n 0, 1) := by decide +kernel
theorem dX5_sign_35 : decode cX5_sign 35 = .ok (.getfield 53, 3) := by decide +kernel
theorem dX5_sign_38 : decode cX5_sign 38 = .ok (.iload_n 1, 1) := by decide +kernel
theorem dX5_sign_39 : decode cX5_sign 39 = .ok (.invokevirtual 290, 3) := by decide +kernel
theorem dX5_sign_42 : decode cX5_sign 42 = .ok (.ireturn, 1) := by decide +kernel
theorem dX5_checksum_0 : decode cX5_checksum 0 = .ok (.ldc2_w 293, 3) := by decide +kernel
theorem dX5_checksum_3 : decode cX5_checksum 3 = .ok (.lstore_n 1, 1) := by decide +kernel
theorem dX5_checksum_4 : decode cX5_checksum 4 = .ok (.aload_n 0, 1) := by decide +kernel
theorem dX5_checksum_5 : decode cX5_checksum 5 = .ok (.getfield 19, 3) := by decide +kernel
theorem dX5_checksum_8 : decode cX5_checksum 8 = .ok (.getfield 179, 3) := by decide +kernel
theorem dX5_checksum_11 : decode cX5_checksum 11 = .ok (.ifCond .ne 5, 3) := by decide +kernel
theorem dX5_checksum_14 : decode cX5_checksum 14 = .ok (.lload_n 1, 1) := by decide +kernel
theorem dX5_checksum_15 : decode cX5_checksum 15 = .ok (.lreturn, 1) := by decide +kernel
theorem dX5_checksum_16 : decode cX5_checksum 16 = .ok (.iconst 0, 1) := by decide +kernel
theorem dX5_checksum_17 : decode cX5_checksum 17 = .ok (.istore_n 3, 1) := by decide +kernel
theorem dX5_checksum_18 : decode cX5_checksum 18 = .ok (.iload_n 3, 1) := by decide +kernel
theorem dX5_checksum_19 : decode cX5_checksum 19 = .ok (.aload_n 0, 1) := by decide +kernel
theorem dX5_checksum_20 : decode cX5_checksum 20 = .ok (.getfield 19, 3) := by decide +kernel
theorem dX5_checksum_23 : decode cX5_checksum 23 = .ok (.getfield 28, 3) := by decide +kernel
theorem dX5_checksum_26 : decode cX5_checksum 26 = .ok (.invokevirtual 176, 3) := by decide +kernel
theorem dX5_checksum_29 : decode cX5_checksum 29 = .ok (.if_icmp .ge 29, 3) := by decide +kernel
theorem dX5_checksum_32 : decode cX5_checksum 32 = .ok (.ldc2_w 295, 3) := by decide +kernel
theorem dX5_checksum_35 : decode cX5_checksum 35 = .ok (.lload_n 1, 1) := by decide +kernel
theorem dX5_checksum_36 : decode cX5_checksum 36 = .ok (.lmul, 1) := by decide +kernel
theorem dX5_checksum_37 : decode cX5_checksum 37 = .ok (.aload_n 0, 1) := by decide +kernel
theorem dX5_checksum_38 : decode cX5_checksum 38 = .ok (.getfield 19, 3) := by decide +kernel
theorem dX5_checksum_41 : decode cX5_checksum 41 = .ok (.getfield 128, 3) := by decide +kernel
theorem dX5_checksum_44 : decode cX5_checksum 44 = .ok (.getfield 190, 3) := by decide +kernel
theorem dX5_checksum_47 : decode cX5_checksum 47 = .ok (.iload_n 3, 1) := by decide +kernel
theorem dX5_checksum_48 : decode cX5_checksum 48 = .ok (.iaload, 1) := by decide +kernel
theorem dX5_checksum_49 : decode cX5_checksum 49 = .ok (.i2l, 1) := by decide +kernel
theorem dX5_checksum_50 : decode cX5_checksum 50 = .ok (.ladd, 1) := by decide +kernel
theorem dX5_checksum_51 : decode cX5_checksum 51 = .ok (.lstore_n 1, 1) := by decide +kernel
theorem dX5_checksum_52 : decode cX5_checksum 52 = .ok (.iinc 3 1, 3) := by decide +kernel
theorem dX5_checksum_55 : decode cX5_checksum 55 = .ok (.goto (-37), 3) := by decide +kernel
theorem dX5_checksum_58 : decode cX5_checksum 58 = .ok (.ldc2_w 295, 3) := by decide +kernel
theorem dX5_checksum_61 : decode cX5_checksum 61 = .ok (.lload_n 1, 1) := by decide +kernel
theorem dX5_checksum_62 : decode cX5_checksum 62 = .ok (.lmul, 1) := by decide +kernel
theorem dX5_checksum_63 : decode cX5_checksum 63 = .ok (.aload_n 0, 1) := by decide +kernel
theorem dX5_checksum_64 : decode cX5_checksum 64 = .ok (.getfield 19, 3) := by decide +kernel
theorem dX5_checksum_67 : decode cX5_checksum 67 = .ok (.getfield 128, 3) := by decide +kernel
theorem dX5_checksum_70 : decode cX5_checksum 70 = .ok (.iconst 0, 1) := by decide +kernel
theorem dX5_checksum_71 : decode cX5_checksum 71 = .ok (.invokevirtual 198, 3) := by decide +kernel
theorem dX5_checksum_74 : decode cX5_checksum 74 = .ok (.i2l, 1) := by decide +kernel
theorem dX5_checksum_75 : decode cX5_checksum 75 = .ok (.ladd, 1) := by decide +kernel
theorem dX5_checksum_76 : decode cX5_checksum 76 = .ok (.lstore_n 1, 1) := by decide +kernel
theorem dX5_checksum_77 : decode cX5_checksum 77 = .ok (.ldc2_w 295, 3) := by decide +kernel
theorem dX5_checksum_80 : decode cX5_checksum 80 = .ok (.lload_n 1, 1) := by decide +kernel
theorem dX5_checksum_81 : decode cX5_checksum 81 = .ok (.lmul, 1) := by decide +kernel
theorem dX5_checksum_82 : decode cX5_checksum 82 = .ok (.aload_n 0, 1) := by decide +kernel
theorem dX5_checksum_83 : decode cX5_checksum 83 = .ok (.getfield 19, 3) := by decide +kernel
theorem dX5_checksum_86 : decode cX5_checksum 86 = .ok (.getfield 128, 3) := by decide +kernel
theorem dX5_checksum_89 : decode cX5_checksum 89 = .ok (.iconst 1, 1) := by decide +kernel
theorem dX5_checksum_90 : decode cX5_checksum 90 = .ok (.invokevirtual 198, 3) := by decide +kernel
theorem dX5_checksum_93 : decode cX5_checksum 93 = .ok (.i2l, 1) := by decide +kernel
theorem dX5_checksum_94 : decode cX5_checksum 94 = .ok (.ladd, 1) := by decide +kernel
theorem dX5_checksum_95 : decode cX5_checksum 95 = .ok (.lstore_n 1, 1) := by decide +kernel
theorem dX5_checksum_96 : decode cX5_checksum 96 = .ok (.ldc2_w 295, 3) := by decide +kernel
theorem dX5_checksum_99 : decode cX5_checksum 99 = .ok (.lload_n 1, 1) := by decide +kernel
theorem dX5_checksum_100 : decode cX5_checksum 100 = .ok (.lmul, 1) := by decide +kernel
theorem dX5_checksum_101 : decode cX5_checksum 101 = .ok (.aload_n 0, 1) := by decide +kernel
theorem dX5_checksum_102 : decode cX5_checksum 102 = .ok (.getfield 19, 3) := by decide +kernel
theorem dX5_checksum_105 : decode cX5_checksum 105 = .ok (.getfield 159, 3) := by decide +kernel
theorem dX5_checksum_108 : decode cX5_checksum 108 = .ok (.i2l, 1) := by decide +kernel
theorem dX5_checksum_109 : decode cX5_checksum 109 = .ok (.ladd, 1) := by decide +kernel
theorem dX5_checksum_110 : decode cX5_checksum 110 = .ok (.lreturn, 1) := by decide +kernel
theorem dX5_freeShare_0 : decode cX5_freeShare 0 = .ok (.aload_n 0, 1) := by decide +kernel
theorem dX5_freeShare_1 : decode cX5_freeShare 1 = .ok (.invokevirtual 138, 3) := by decide +kernel
theorem dX5_freeShare_4 : decode cX5_freeShare 4 = .ok (.iconst 0, 1) := by decide +kernel
theorem dX5_freeShare_5 : decode cX5_freeShare 5 = .ok (.istore_n 1, 1) := by decide +kernel
theorem dX5_freeShare_6 : decode cX5_freeShare 6 = .ok (.iconst 0, 1) := by decide +kernel
theorem dX5_freeShare_7 : decode cX5_freeShare 7 = .ok (.istore_n 2, 1) := by decide +kernel
theorem dX5_freeShare_8 : decode cX5_freeShare 8 = .ok (.iload_n 2, 1) := by decide +kernel
theorem dX5_freeShare_9 : decode cX5_freeShare 9 = .ok (.aload_n 0, 1) := by decide +kernel
theorem dX5_freeShare_10 : decode cX5_freeShare 10 = .ok (.getfield 19, 3) := by decide +kernel
theorem dX5_freeShare_13 : decode cX5_freeShare 13 = .ok (.getfield 28, 3) := by decide +kernel
theorem dX5_freeShare_16 : decode cX5_freeShare 16 = .ok (.invokevirtual 176, 3) := by decide +kernel
theorem dX5_freeShare_19 : decode cX5_freeShare 19 = .ok (.if_icmp .ge 25, 3) := by decide +kernel
theorem dX5_freeShare_22 : decode cX5_freeShare 22 = .ok (.aload_n 0, 1) := by decide +kernel
theorem dX5_freeShare_23 : decode cX5_freeShare 23 = .ok (.getfield 19, 3) := by decide +kernel
theorem dX5_freeShare_26 : decode cX5_freeShare 26 = .ok (.iload_n 2, 1) := by decide +kernel
theorem dX5_freeShare_27 : decode cX5_freeShare 27 = .ok (.invokevirtual 172, 3) := by decide +kernel
theorem dX5_freeShare_30 : decode cX5_freeShare 30 = .ok (.bipush 45, 2) := by decide +kernel
theorem dX5_freeShare_32 : decode cX5_freeShare 32 = .ok (.if_icmp .ne 6, 3) := by decide +kernel
theorem dX5_freeShare_35 : decode cX5_freeShare 35 = .ok (.iinc 1 1, 3) := by decide +kernel
theorem dX5_freeShare_38 : decode cX5_freeShare 38 = .ok (.iinc 2 1, 3) := by decide +kernel
theorem dX5_freeShare_41 : decode cX5_freeShare 41 = .ok (.goto (-33), 3) := by decide +kernel
theorem dX5_freeShare_44 : decode cX5_freeShare 44 = .ok (.iload_n 1, 1) := by decide +kernel
theorem dX5_freeShare_45 : decode cX5_freeShare 45 = .ok (.i2f, 1) := by decide +kernel
theorem dX5_freeShare_46 : decode cX5_freeShare 46 = .ok (.aload_n 0, 1) := by decide +kernel
theorem dX5_freeShare_47 : decode cX5_freeShare 47 = .ok (.getfield 19, 3) := by decide +kernel
theorem dX5_freeShare_50 : decode cX5_freeShare 50 = .ok (.getfield 28, 3) := by decide +kernel
theorem dX5_freeShare_53 : decode cX5_freeShare 53 = .ok (.getfield 84, 3) := by decide +kernel
theorem dX5_freeShare_56 : decode cX5_freeShare 56 = .ok (.i2f, 1) := by decide +kernel
theorem dX5_freeShare_57 : decode cX5_freeShare 57 = .ok (.fdiv, 1) := by decide +kernel
theorem dX5_freeShare_58 : decode cX5_freeShare 58 = .ok (.freturn, 1) := by decide +kernel
theorem dX5_meanUnlike_0 : decode cX5_meanUnlike 0 = .ok (.aload_n 0, 1) := by decide +kernel
theorem dX5_meanUnlike_1 : decode cX5_meanUnlike 1 = .ok (.getfield 80, 3) := by decide +kernel
theorem dX5_meanUnlike_4 : decode cX5_meanUnlike 4 = .ok (.iconst 2, 1) := by decide +kernel
theorem dX5_meanUnlike_5 : decode cX5_meanUnlike 5 = .ok (.if_icmp .ge 14, 3) := by decide +kernel
theorem dX5_meanUnlike_8 : decode cX5_meanUnlike 8 = .ok (.new 297, 3) := by decide +kernel
theorem dX5_meanUnlike_11 : decode cX5_meanUnlike 11 = .ok (.dup, 1) := by decide +kernel
theorem dX5_meanUnlike_12 : decode cX5_meanUnlike 12 = .ok (.ldc_w 299, 3) := by decide +kernel
theorem dX5_meanUnlike_15 : decode cX5_meanUnlike 15 = .ok (.invokespecial 301, 3) := by decide +kernel
theorem dX5_meanUnlike_18 : decode cX5_meanUnlike 18 = .ok (.athrow, 1) := by decide +kernel
theorem dX5_meanUnlike_19 : decode cX5_meanUnlike 19 = .ok (.iconst 0, 1) := by decide +kernel
theorem dX5_meanUnlike_20 : decode cX5_meanUnlike 20 = .ok (.istore_n 1, 1) := by decide +kernel
theorem dX5_meanUnlike_21 : decode cX5_meanUnlike 21 = .ok (.iconst 1, 1) := by decide +kernel
theorem dX5_meanUnlike_22 : decode cX5_meanUnlike 22 = .ok (.istore_n 2, 1) := by decide +kernel
theorem dX5_meanUnlike_23 : decode cX5_meanUnlike 23 = .ok (.iload_n 2, 1) := by decide +kernel
theorem dX5_meanUnlike_24 : decode cX5_meanUnlike 24 = .ok (.aload_n 0, 1) := by decide +kernel
theorem dX5_meanUnlike_25 : decode cX5_meanUnlike 25 = .ok (.getfield 80, 3) := by decide +kernel
theorem dX5_meanUnlike_28 : decode cX5_meanUnlike 28 = .ok (.if_icmp .ge 31, 3) := by decide +kernel
theorem dX5_meanUnlike_31 : decode cX5_meanUnlike 31 = .ok (.iload_n 1, 1) := by decide +kernel
theorem dX5_meanUnlike_32 : decode cX5_meanUnlike 32 = .ok (.aload_n 0, 1) := by decide +kernel
theorem dX5_meanUnlike_33 : decode cX5_meanUnlike 33 = .ok (.getfield 11, 3) := by decide +kernel
theorem dX5_meanUnlike_36 : decode cX5_meanUnlike 36 = .ok (.iload_n 2, 1) := by decide +kernel
theorem dX5_meanUnlike_37 : decode cX5_meanUnlike 37 = .ok (.aaload, 1) := by decide +kernel
theorem dX5_meanUnlike_38 : decode cX5_meanUnlike 38 = .ok (.aload_n 0, 1) := by decide +kernel
theorem dX5_meanUnlike_39 : decode cX5_meanUnlike 39 = .ok (.getfield 11, 3) := by decide +kernel
theorem dX5_meanUnlike_42 : decode cX5_meanUnlike 42 = .ok (.aload_n 0, 1) := by decide +kernel
theorem dX5_meanUnlike_43 : decode cX5_meanUnlike 43 = .ok (.iload_n 2, 1) := by decide +kernel
theorem dX5_meanUnlike_44 : decode cX5_meanUnlike 44 = .ok (.invokevirtual 121, 3) := by decide +kernel
theorem dX5_meanUnlike_47 : decode cX5_meanUnlike 47 = .ok (.aaload, 1) := by decide +kernel
theorem dX5_meanUnlike_48 : decode cX5_meanUnlike 48 = .ok (.invokevirtual 112, 3) := by decide +kernel
theorem dX5_meanUnlike_51 : decode cX5_meanUnlike 51 = .ok (.iadd, 1) := by decide +kernel
theorem dX5_meanUnlike_52 : decode cX5_meanUnlike 52 = .ok (.istore_n 1, 1) := by decide +kernel
theorem dX5_meanUnlike_53 : decode cX5_meanUnlike 53 = .ok (.iinc 2 1, 3) := by decide +kernel
theorem dX5_meanUnlike_56 : decode cX5_meanUnlike 56 = .ok (.goto (-33), 3) := by decide +kernel
theorem dX5_meanUnlike_59 : decode cX5_meanUnlike 59 = .ok (.iload_n 1, 1) := by decide +kernel
theorem dX5_meanUnlike_60 : decode cX5_meanUnlike 60 = .ok (.i2d, 1) := by decide +kernel
theorem dX5_meanUnlike_61 : decode cX5_meanUnlike 61 = .ok (.aload_n 0, 1) := by decide +kernel
theorem dX5_meanUnlike_62 : decode cX5_meanUnlike 62 = .ok (.getfield 80, 3) := by decide +kernel
theorem dX5_meanUnlike_65 : decode cX5_meanUnlike 65 = .ok (.iconst 1, 1) := by decide +kernel
theorem dX5_meanUnlike_66 : decode cX5_meanUnlike 66 = .ok (.isub, 1) := by decide +kernel
theorem dX5_meanUnlike_67 : decode cX5_meanUnlike 67 = .ok (.i2d, 1) := by decide +kernel
theorem dX5_meanUnlike_68 : decode cX5_meanUnlike 68 = .ok (.ddiv, 1) := by decide +kernel
theorem dX5_meanUnlike_69 : decode cX5_meanUnlike 69 = .ok (.dreturn, 1) := by decide +kernel
theorem dX5_isSound_0 : decode cX5_isSound 0 = .ok (.aload_n 0, 1) := by decide +kernel
theorem dX5_isSound_1 : decode cX5_isSound 1 = .ok (.getfield 19, 3) := by decide +kernel
theorem dX5_isSound_4 : decode cX5_isSound 4 = .ok (.getfield 179, 3) := by decide +kernel
theorem dX5_isSound_7 : decode cX5_isSound 7 = .ok (.ifCond .eq 34, 3) := by decide +kernel
theorem dX5_isSound_10 : decode cX5_isSound 10 = .ok (.aload_n 0, 1) := by decide +kernel
theorem dX5_isSound_11 : decode cX5_isSound 11 = .ok (.invokevirtual 302, 3) := by decide +kernel
theorem dX5_isSound_14 : decode cX5_isSound 14 = .ok (.ifCond .eq 31, 3) := by decide +kernel
theorem dX5_isSound_17 : decode cX5_isSound 17 = .ok (.aload_n 0, 1) := by decide +kernel
theorem dX5_isSound_18 : decode cX5_isSound 18 = .ok (.invokevirtual 306, 3) := by decide +kernel
theorem dX5_isSound_21 : decode cX5_isSound 21 = .ok (.ifCond .eq 24, 3) := by decide +kernel
theorem dX5_isSound_24 : decode cX5_isSound 24 = .ok (.aload_n 0, 1) := by decide +kernel
theorem dX5_isSound_25 : decode cX5_isSound 25 = .ok (.getfield 42, 3) := by decide +kernel
theorem dX5_isSound_28 : decode cX5_isSound 28 = .ok (.aload_n 0, 1) := by decide +kernel
theorem dX5_isSound_29 : decode cX5_isSound 29 = .ok (.getfield 19, 3) := by decide +kernel
theorem dX5_isSound_32 : decode cX5_isSound 32 = .ok (.getfield 128, 3) := by decide +kernel
theorem dX5_isSound_35 : decode cX5_isSound 35 = .ok (.invokevirtual 309, 3) := by decide +kernel
theorem dX5_isSound_38 : decode cX5_isSound 38 = .ok (.ifCond .eq 7, 3) := by decide +kernel
theorem dX5_isSound_41 : decode cX5_isSound 41 = .ok (.iconst 1, 1) := by decide +kernel
theorem dX5_isSound_42 : decode cX5_isSound 42 = .ok (.goto 4, 3) := by decide +kernel
theorem dX5_isSound_45 : decode cX5_isSound 45 = .ok (.iconst 0, 1) := by decide +kernel
theorem dX5_isSound_46 : decode cX5_isSound 46 = .ok (.ireturn, 1) := by decide +kernel
theorem dX5_isWithin_0 : decode cX5_isWithin 0 = .ok (.iload_n 0, 1) := by decide +kernel
theorem dX5_isWithin_1 : decode cX5_isWithin 1 = .ok (.iload_n 1, 1) := by decide +kernel
theorem dX5_isWithin_2 : decode cX5_isWithin 2 = .ok (.if_icmp .lt 12, 3) := by decide +kernel
theorem dX5_isWithin_5 : decode cX5_isWithin 5 = .ok (.iload_n 0, 1) := by decide +kernel
theorem dX5_isWithin_6 : decode cX5_isWithin 6 = .ok (.iload_n 2, 1) := by decide +kernel
theorem dX5_isWithin_7 : decode cX5_isWithin 7 = .ok (.if_icmp .gt 7, 3) := by decide +kernel
theorem dX5_isWithin_10 : decode cX5_isWithin 10 = .ok (.iconst 1, 1) := by decide +kernel
theorem dX5_isWithin_11 : decode cX5_isWithin 11 = .ok (.goto 4, 3) := by decide +kernel
theorem dX5_isWithin_14 : decode cX5_isWithin 14 = .ok (.iconst 0, 1) := by decide +kernel
theorem dX5_isWithin_15 : decode cX5_isWithin 15 = .ok (.ireturn, 1) := by decide +kernel
theorem dX5_needKind_0 : decode cX5_needKind 0 = .ok (.iload_n 1, 1) := by decide +kernel
theorem dX5_needKind_1 : decode cX5_needKind 1 = .ok (.ifCond .lt 11, 3) := by decide +kernel
theorem dX5_needKind_4 : decode cX5_needKind 4 = .ok (.iload_n 1, 1) := by decide +kernel
theorem dX5_needKind_5 : decode cX5_needKind 5 = .ok (.aload_n 0, 1) := by decide +kernel
theorem dX5_needKind_6 : decode cX5_needKind 6 = .ok (.getfield 80, 3) := by decide +kernel
theorem dX5_needKind_9 : decode cX5_needKind 9 = .ok (.if_icmp .lt 14, 3) := by decide +kernel
theorem dX5_needKind_12 : decode cX5_needKind 12 = .ok (.new 193, 3) := by decide +kernel
theorem dX5_needKind_15 : decode cX5_needKind 15 = .ok (.dup, 1) := by decide +kernel
theorem dX5_needKind_16 : decode cX5_needKind 16 = .ok (.ldc_w 316, 3) := by decide +kernel
theorem dX5_needKind_19 : decode cX5_needKind 19 = .ok (.invokespecial 197, 3) := by decide +kernel
theorem dX5_needKind_22 : decode cX5_needKind 22 = .ok (.athrow, 1) := by decide +kernel
theorem dX5_needKind_23 : decode cX5_needKind 23 = .ok (.return_, 1) := by decide +kernel
theorem dX5_needRoomForKind_0 : decode cX5_needRoomForKind 0 = .ok (.aload_n 0, 1) := by decide +kernel
theorem dX5_needRoomForKind_1 : decode cX5_needRoomForKind 1 = .ok (.getfield 80, 3) := by decide +kernel
theorem dX5_needRoomForKind_4 : decode cX5_needRoomForKind 4 = .ok (.bipush 6, 2) := by decide +kernel
theorem dX5_needRoomForKind_6 : decode cX5_needRoomForKind 6 = .ok (.if_icmp .lt 14, 3) := by decide +kernel
theorem dX5_needRoomForKind_9 : decode cX5_needRoomForKind 9 = .ok (.new 162, 3) := by decide +kernel
theorem dX5_needRoomForKind_12 : decode cX5_needRoomForKind 12 = .ok (.dup, 1) := by decide +kernel
theorem dX5_needRoomForKind_13 : decode cX5_needRoomForKind 13 = .ok (.ldc_w 318, 3) := by decide +kernel
theorem dX5_needRoomForKind_16 : decode cX5_needRoomForKind 16 = .ok (.invokespecial 166, 3) := by decide +kernel
theorem dX5_needRoomForKind_19 : decode cX5_needRoomForKind 19 = .ok (.athrow, 1) := by decide +kernel
theorem dX5_needRoomForKind_20 : decode cX5_needRoomForKind 20 = .ok (.return_, 1) := by decide +kernel
theorem dX5_needBegun_0 : decode cX5_needBegun 0 = .ok (.aload_n 0, 1) := by decide +kernel
theorem dX5_needBegun_1 : decode cX5_needBegun 1 = .ok (.getfield 19, 3) := by decide +kernel
theorem dX5_needBegun_4 : decode cX5_needBegun 4 = .ok (.getfield 179, 3) := by decide +kernel
theorem dX5_needBegun_7 : decode cX5_needBegun 7 = .ok (.ifCond .ne 14, 3) := by decide +kernel
theorem dX5_needBegun_10 : decode cX5_needBegun 10 = .ok (.new 162, 3) := by decide +kernel
theorem dX5_needBegun_13 : decode cX5_needBegun 13 = .ok (.dup, 1) := by decide +kernel
theorem dX5_needBegun_14 : decode cX5_needBegun 14 = .ok (.ldc_w 320, 3) := by decide +kernel
theorem dX5_needBegun_17 : decode cX5_needBegun 17 = .ok (.invokespecial 166, 3) := by decide +kernel
theorem dX5_needBegun_20 : decode cX5_needBegun 20 = .ok (.athrow, 1) := by decide +kernel
theorem dX5_needBegun_21 : decode cX5_needBegun 21 = .ok (.return_, 1) := by decide +kernel
theorem dX5_needGameOn_0 : decode cX5_needGameOn 0 = .ok (.aload_n 0, 1) := by decide +kernel
theorem dX5_needGameOn_1 : decode cX5_needGameOn 1 = .ok (.getfield 19, 3) := by decide +kernel
theorem dX5_needGameOn_4 : decode cX5_needGameOn 4 = .ok (.getfield 179, 3) := by decide +kernel
theorem dX5_needGameOn_7 : decode cX5_needGameOn 7 = .ok (.ifCond .eq 13, 3) := by decide +kernel
theorem dX5_needGameOn_10 : decode cX5_needGameOn 10 = .ok (.aload_n 0, 1) := by decide +kernel
theorem dX5_needGameOn_11 : decode cX5_needGameOn 11 = .ok (.getfield 19, 3) := by decide +kernel
theorem dX5_needGameOn_14 : decode cX5_needGameOn 14 = .ok (.getfield 204, 3) := by decide +kernel
theorem dX5_needGameOn_17 : decode cX5_needGameOn 17 = .ok (.ifCond .eq 14, 3) := by decide +kernel
theorem dX5_needGameOn_20 : decode cX5_needGameOn 20 = .ok (.new 162, 3) := by decide +kernel
theorem dX5_needGameOn_23 : decode cX5_needGameOn 23 = .ok (.dup, 1) := by decide +kernel
theorem dX5_needGameOn_24 : decode cX5_needGameOn 24 = .ok (.ldc_w 322, 3) := by decide +kernel
theorem dX5_needGameOn_27 : decode cX5_needGameOn 27 = .ok (.invokespecial 166, 3) := by decide +kernel
theorem dX5_needGameOn_30 : decode cX5_needGameOn 30 = .ok (.athrow, 1) := by decide +kernel
theorem dX5_needGameOn_31 : decode cX5_needGameOn 31 = .ok (.return_, 1) := by decide +kernel
theorem dX5_needRows_0 : decode cX5_needRows 0 = .ok (.iload_n 0, 1) := by decide +kernel
theorem dX5_needRows_1 : decode cX5_needRows 1 = .ok (.iconst 1, 1) := by decide +kernel
theorem dX5_needRows_2 : decode cX5_needRows 2 = .ok (.bipush 10, 2) := by decide +kernel
theorem dX5_needRows_4 : decode cX5_needRows 4 = .ok (.invokestatic 57, 3) := by decide +kernel
theorem dX5_needRows_7 : decode cX5_needRows 7 = .ok (.ifCond .eq 13, 3) := by decide +kernel
theorem dX5_needRows_10 : decode cX5_needRows 10 = .ok (.iload_n 1, 1) := by decide +kernel
theorem dX5_needRows_11 : decode cX5_needRows 11 = .ok (.iconst 0, 1) := by decide +kernel
theorem dX5_needRows_12 : decode cX5_needRows 12 = .ok (.bipush 50, 2) := by decide +kernel
theorem dX5_needRows_14 : decode cX5_needRows 14 = .ok (.invokestatic 57, 3) := by decide +kernel
theorem dX5_needRows_17 : decode cX5_needRows 17 = .ok (.ifCond .ne 13, 3) := by decide +kernel
theorem dX5_needRows_20 : decode cX5_needRows 20 = .ok (.new 61, 3) := by decide +kernel
theorem dX5_needRows_23 : decode cX5_needRows 23 = .ok (.dup, 1) := by decide +kernel
theorem dX5_needRows_24 : decode cX5_needRows 24 = .ok (.ldc 63, 2) := by decide +kernel
theorem dX5_needRows_26 : decode cX5_needRows 26 = .ok (.invokespecial 65, 3) := by decide +kernel
theorem dX5_needRows_29 : decode cX5_needRows 29 = .ok (.athrow, 1) := by decide +kernel
theorem dX5_needRows_30 : decode cX5_needRows 30 = .ok (.return_, 1) := by decide +kernel
theorem dX7_init_0 : decode cX7_init 0 = .ok (.aload_n 0, 1) := by decide +kernel
theorem dX7_init_1 : decode cX7_init 1 = .ok (.invokespecial 1, 3) := by decide +kernel
theorem dX7_init_4 : decode cX7_init 4 = .ok (.return_, 1) := by decide +kernel
theorem dX9_init_0 : decode cX9_init 0 = .ok (.aload_n 0, 1) := by decide +kernel
theorem dX9_init_1 : decode cX9_init 1 = .ok (.invokespecial 1, 3) := by decide +kernel
theorem dX9_init_4 : decode cX9_init 4 = .ok (.aload_n 0, 1) := by decide +kernel
theorem dX9_init_5 : decode cX9_init 5 = .ok (.new 7, 3) := by decide +kernel
theorem dX9_init_8 : decode cX9_init 8 = .ok (.dup, 1) := by decide +kernel
theorem dX9_init_9 : decode cX9_init 9 = .ok (.invokespecial 9, 3) := by decide +kernel
theorem dX9_init_12 : decode cX9_init 12 = .ok (.putfield 10, 3) := by decide +kernel
theorem dX9_init_15 : decode cX9_init 15 = .ok (.aload_n 0, 1) := by decide +kernel
theorem dX9_init_16 : decode cX9_init 16 = .ok (.new 7, 3) := by decide +kernel
theorem dX9_init_19 : decode cX9_init 19 = .ok (.dup, 1) := by decide +kernel
theorem dX9_init_20 : decode cX9_init 20 = .ok (.invokespecial 9, 3) := by decide +kernel
theorem dX9_init_23 : decode cX9_init 23 = .ok (.putfield 16, 3) := by decide +kernel
theorem dX9_init_26 : decode cX9_init 26 = .ok (.return_, 1) := by decide +kernel
theorem dX9_thrown_0 : decode cX9_thrown 0 = .ok (.aload_n 0, 1) := by decide +kernel
theorem dX9_thrown_1 : decode cX9_thrown 1 = .ok (.getfield 19, 3) := by decide +kernel
theorem dX9_thrown_4 : decode cX9_thrown 4 = .ok (.ireturn, 1) := by decide +kernel
theorem dX9_in_0 : decode cX9_in 0 = .ok (.lload_n 0, 1) := by decide +kernel
theorem dX9_in_1 : decode cX9_in 1 = .ok (.lload_n 2, 1) := by decide +kernel
theorem dX9_in_2 : decode cX9_in 2 = .ok (.lcmp, 1) := by decide +kernel
theorem dX9_in_3 : decode cX9_in 3 = .ok (.ifCond .lt 14, 3) := by decide +kernel
theorem dX9_in_6 : decode cX9_in 6 = .ok (.lload_n 0, 1) := by decide +kernel
theorem dX9_in_7 : decode cX9_in 7 = .ok (.lload 4, 2) := by decide +kernel
theorem dX9_in_9 : decode cX9_in 9 = .ok (.lcmp, 1) := by decide +kernel
theorem dX9_in_10 : decode cX9_in 10 = .ok (.ifCond .gt 7, 3) := by decide +kernel
theorem dX9_in_13 : decode cX9_in 13 = .ok (.iconst 1, 1) := by decide +kernel
theorem dX9_in_14 : decode cX9_in 14 = .ok (.goto 4, 3) := by decide +kernel
theorem dX9_in_17 : decode cX9_in 17 = .ok (.iconst 0, 1) := by decide +kernel
theorem dX9_in_18 : decode cX9_in 18 = .ok (.ireturn, 1) := by decide +kernel
theorem dX9_isOf_0 : decode cX9_isOf 0 = .ok (.iload_n 1, 1) := by decide +kernel
theorem dX9_isOf_1 : decode cX9_isOf 1 = .ok (.i2l, 1) := by decide +kernel
theorem dX9_isOf_2 : decode cX9_isOf 2 = .ok (.lconst 0, 1) := by decide +kernel
theorem dX9_isOf_3 : decode cX9_isOf 3 = .ok (.aload_n 0, 1) := by decide +kernel
theorem dX9_isOf_4 : decode cX9_isOf 4 = .ok (.invokeinterface 23 1, 5) := by decide +kernel
theorem dX9_isOf_9 : decode cX9_isOf 9 = .ok (.iconst 1, 1) := by decide +kernel
theorem dX9_isOf_10 : decode cX9_isOf 10 = .ok (.isub, 1) := by decide +kernel
theorem dX9_isOf_11 : decode cX9_isOf 11 = .ok (.i2l, 1) := by decide +kernel
theorem dX9_isOf_12 : decode cX9_isOf 12 = .ok (.invokestatic 29, 3) := by decide +kernel
theorem dX9_isOf_15 : decode cX9_isOf 15 = .ok (.ireturn, 1) := by decide +kernel
theorem dX9_fails_0 : decode cX9_fails 0 = .ok (.aload_n 0, 1) := by decide +kernel
theorem dX9_fails_1 : decode cX9_fails 1 = .ok (.getfield 19, 3) := by decide +kernel
theorem dX9_fails_4 : decode cX9_fails 4 = .ok (.ifCond .ne 12, 3) := by decide +kernel
theorem dX9_fails_7 : decode cX9_fails 7 = .ok (.iload_n 1, 1) := by decide +kernel
theorem dX9_fails_8 : decode cX9_fails 8 = .ok (.ifCond .eq 8, 3) := by decide +kernel
theorem dX9_fails_11 : decode cX9_fails 11 = .ok (.aload_n 0, 1) := by decide +kernel
theorem dX9_fails_12 : decode cX9_fails 12 = .ok (.iload_n 2, 1) := by decide +kernel
theorem dX9_fails_13 : decode cX9_fails 13 = .ok (.putfield 19, 3) := by decide +kernel
theorem dX9_fails_16 : decode cX9_fails 16 = .ok (.aload_n 0, 1) := by decide +kernel
theorem dX9_fails_17 : decode cX9_fails 17 = .ok (.getfield 19, 3) := by decide +kernel
theorem dX9_fails_20 : decode cX9_fails 20 = .ok (.ifCond .le 7, 3) := by decide +kernel
theorem dX9_fails_23 : decode cX9_fails 23 = .ok (.iconst 1, 1) := by decide +kernel
theorem dX9_fails_24 : decode cX9_fails 24 = .ok (.goto 4, 3) := by decide +kernel
theorem dX9_fails_27 : decode cX9_fails 27 = .ok (.iconst 0, 1) := by decide +kernel
theorem dX9_fails_28 : decode cX9_fails 28 = .ok (.ireturn, 1) := by decide +kernel
theorem dX9_begins_0 : decode cX9_begins 0 = .ok (.aload_n 0, 1) := by decide +kernel
theorem dX9_begins_1 : decode cX9_begins 1 = .ok (.iconst 0, 1) := by decide +kernel
theorem dX9_begins_2 : decode cX9_begins 2 = .ok (.putfield 19, 3) := by decide +kernel
theorem dX9_begins_5 : decode cX9_begins 5 = .ok (.return_, 1) := by decide +kernel
theorem dX9_kind_0 : decode cX9_kind 0 = .ok (.aload_n 0, 1) := by decide +kernel
theorem dX9_kind_1 : decode cX9_kind 1 = .ok (.invokevirtual 33, 3) := by decide +kernel
theorem dX9_kind_4 : decode cX9_kind 4 = .ok (.iload_n 1, 1) := by decide +kernel
theorem dX9_kind_5 : decode cX9_kind 5 = .ok (.i2l, 1) := by decide +kernel
theorem dX9_kind_6 : decode cX9_kind 6 = .ok (.ldc2_w 36, 3) := by decide +kernel
theorem dX9_kind_9 : decode cX9_kind 9 = .ok (.ldc2_w 38, 3) := by decide +kernel
theorem dX9_kind_12 : decode cX9_kind 12 = .ok (.invokestatic 29, 3) := by decide +kernel
theorem dX9_kind_15 : decode cX9_kind 15 = .ok (.ifCond .eq 34, 3) := by decide +kernel
theorem dX9_kind_18 : decode cX9_kind 18 = .ok (.iload_n 2, 1) := by decide +kernel
theorem dX9_kind_19 : decode cX9_kind 19 = .ok (.i2l, 1) := by decide +kernel
theorem dX9_kind_20 : decode cX9_kind 20 = .ok (.lconst 1, 1) := by decide +kernel
theorem dX9_kind_21 : decode cX9_kind 21 = .ok (.ldc2_w 38, 3) := by decide +kernel
theorem dX9_kind_24 : decode cX9_kind 24 = .ok (.invokestatic 29, 3) := by decide +kernel
theorem dX9_kind_27 : decode cX9_kind 27 = .ok (.ifCond .eq 22, 3) := by decide +kernel
theorem dX9_kind_30 : decode cX9_kind 30 = .ok (.ldc 40, 2) := by decide +kernel
theorem dX9_kind_32 : decode cX9_kind 32 = .ok (.iload_n 3, 1) := by decide +kernel
theorem dX9_kind_33 : decode cX9_kind 33 = .ok (.invokevirtual 42, 3) := by decide +kernel
theorem dX9_kind_36 : decode cX9_kind 36 = .ok (.ifCond .lt 13, 3) := by decide +kernel
theorem dX9_kind_39 : decode cX9_kind 39 = .ok (.ldc 48, 2) := by decide +kernel
theorem dX9_kind_41 : decode cX9_kind 41 = .ok (.iload 4, 2) := by decide +kernel
theorem dX9_kind_43 : decode cX9_kind 43 = .ok (.invokevirtual 42, 3) := by decide +kernel
theorem dX9_kind_46 : decode cX9_kind 46 = .ok (.ifCond .ge 7, 3) := by decide +kernel
theorem dX9_kind_49 : decode cX9_kind 49 = .ok (.iconst 1, 1) := by decide +kernel
theorem dX9_kind_50 : decode cX9_kind 50 = .ok (.goto 4, 3) := by decide +kernel
theorem dX9_kind_53 : decode cX9_kind 53 = .ok (.iconst 0, 1) := by decide +kernel
theorem dX9_kind_54 : decode cX9_kind 54 = .ok (.istore 5, 2) := by decide +kernel
theorem dX9_kind_56 : decode cX9_kind 56 = .ok (.aload_n 0, 1) := by decide +kernel
theorem dX9_kind_57 : decode cX9_kind 57 = .ok (.iload 5, 2) := by decide +kernel
theorem dX9_kind_59 : decode cX9_kind 59 = .ok (.iconst 1, 1) := by decide +kernel
theorem dX9_kind_60 : decode cX9_kind 60 = .ok (.invokevirtual 50, 3) := by decide +kernel
theorem dX9_kind_63 : decode cX9_kind 63 = .ok (.ifCond .ne 30, 3) := by decide +kernel
theorem dX9_kind_66 : decode cX9_kind 66 = .ok (.aload_n 0, 1) := by decide +kernel
theorem dX9_kind_67 : decode cX9_kind 67 = .ok (.aload_n 0, 1) := by decide +kernel
theorem dX9_kind_68 : decode cX9_kind 68 = .ok (.getfield 10, 3) := by decide +kernel
theorem dX9_kind_71 : decode cX9_kind 71 = .ok (.invokeinterface 23 1, 5) := by decide +kernel
theorem dX9_kind_76 : decode cX9_kind 76 = .ok (.bipush 6, 2) := by decide +kernel
theorem dX9_kind_78 : decode cX9_kind 78 = .ok (.if_icmp .ne 7, 3) := by decide +kernel
theorem dX9_kind_81 : decode cX9_kind 81 = .ok (.iconst 1, 1) := by decide +kernel
theorem dX9_kind_82 : decode cX9_kind 82 = .ok (.goto 4, 3) := by decide +kernel
theorem dX9_kind_85 : decode cX9_kind 85 = .ok (.iconst 0, 1) := by decide +kernel
theorem dX9_kind_86 : decode cX9_kind 86 = .ok (.iconst 2, 1) := by decide +kernel
theorem dX9_kind_87 : decode cX9_kind 87 = .ok (.invokevirtual 50, 3) := by decide +kernel
theorem dX9_kind_90 : decode cX9_kind 90 = .ok (.ifCond .eq 5, 3) := by decide +kernel
theorem dX9_kind_93 : decode cX9_kind 93 = .ok (.iconst (-1), 1) := by decide +kernel
theorem dX9_kind_94 : decode cX9_kind 94 = .ok (.ireturn, 1) := by decide +kernel
theorem dX9_kind_95 : decode cX9_kind 95 = .ok (.new 54, 3) := by decide +kernel
theorem dX9_kind_98 : decode cX9_kind 98 = .ok (.dup, 1) := by decide +kernel
theorem dX9_kind_99 : decode cX9_kind 99 = .ok (.invokespecial 56, 3) := by decide +kernel
theorem dX9_kind_102 : decode cX9_kind 102 = .ok (.astore 6, 2) := by decide +kernel
theorem dX9_kind_104 : decode cX9_kind 104 = .ok (.aload 6, 2) := by decide +kernel
theorem dX9_kind_106 : decode cX9_kind 106 = .ok (.iload_n 1, 1) := by decide +kernel
theorem dX9_kind_107 : decode cX9_kind 107 = .ok (.putfield 57, 3) := by decide +kernel
theorem dX9_kind_110 : decode cX9_kind 110 = .ok (.aload 6, 2) := by decide +kernel
theorem dX9_kind_112 : decode cX9_kind 112 = .ok (.iload_n 2, 1) := by decide +kernel
theorem dX9_kind_113 : decode cX9_kind 113 = .ok (.putfield 60, 3) := by decide +kernel
theorem dX9_kind_116 : decode cX9_kind 116 = .ok (.aload 6, 2) := by decide +kernel
theorem dX9_kind_118 : decode cX9_kind 118 = .ok (.iload_n 3, 1) := by decide +kernel
theorem dX9_kind_119 : decode cX9_kind 119 = .ok (.putfield 63, 3) := by decide +kernel
theorem dX9_kind_122 : decode cX9_kind 122 = .ok (.aload 6, 2) := by decide +kernel
theorem dX9_kind_124 : decode cX9_kind 124 = .ok (.iload 4, 2) := by decide +kernel
theorem dX9_kind_126 : decode cX9_kind 126 = .ok (.putfield 67, 3) := by decide +kernel
theorem dX9_kind_129 : decode cX9_kind 129 = .ok (.aload_n 0, 1) := by decide +kernel
theorem dX9_kind_130 : decode cX9_kind 130 = .ok (.getfield 10, 3) := by decide +kernel
theorem dX9_kind_133 : decode cX9_kind 133 = .ok (.aload 6, 2) := by decide +kernel
theorem dX9_kind_135 : decode cX9_kind 135 = .ok (.invokeinterface 70 2, 5) := by decide +kernel
theorem dX9_kind_140 : decode cX9_kind 140 = .ok (.pop, 1) := by decide +kernel
theorem dX9_kind_141 : decode cX9_kind 141 = .ok (.aload_n 0, 1) := by decide +kernel
theorem dX9_kind_142 : decode cX9_kind 142 = .ok (.getfield 10, 3) := by decide +kernel
theorem dX9_kind_145 : decode cX9_kind 145 = .ok (.invokeinterface 23 1, 5) := by decide +kernel
theorem dX9_kind_150 : decode cX9_kind 150 = .ok (.iconst 1, 1) := by decide +kernel
theorem dX9_kind_151 : decode cX9_kind 151 = .ok (.isub, 1) := by decide +kernel
theorem dX9_kind_152 : decode cX9_kind 152 = .ok (.ireturn, 1) := by decide +kernel
theorem dX9_noThing_0 : decode cX9_noThing 0 = .ok (.aload_n 0, 1) := by decide +kernel
theorem dX9_noThing_1 : decode cX9_noThing 1 = .ok (.aload_n 0, 1) := by decide +kernel
theorem dX9_noThing_2 : decode cX9_noThing 2 = .ok (.getfield 10, 3) := by decide +kernel
theorem dX9_noThing_5 : decode cX9_noThing 5 = .ok (.iload_n 1, 1) := by decide +kernel
theorem dX9_noThing_6 : decode cX9_noThing 6 = .ok (.invokestatic 74, 3) := by decide +kernel
theorem dX9_noThing_9 : decode cX9_noThing 9 = .ok (.ifCond .ne 7, 3) := by decide +kernel
theorem dX9_noThing_12 : decode cX9_noThing 12 = .ok (.iconst 1, 1) := by decide +kernel
theorem dX9_noThing_13 : decode cX9_noThing 13 = .ok (.goto 4, 3) := by decide +kernel
theorem dX9_noThing_16 : decode cX9_noThing 16 = .ok (.iconst 0, 1) := by decide +kernel
theorem dX9_noThing_17 : decode cX9_noThing 17 = .ok (.iconst 1, 1) := by decide +kernel
theorem dX9_noThing_18 : decode cX9_noThing 18 = .ok (.invokevirtual 50, 3) := by decide +kernel
theorem dX9_noThing_21 : decode cX9_noThing 21 = .ok (.ifCond .ne 25, 3) := by decide +kernel
theorem dX9_noThing_24 : decode cX9_noThing 24 = .ok (.aload_n 0, 1) := by decide +kernel
theorem dX9_noThing_25 : decode cX9_noThing 25 = .ok (.ldc 78, 2) := by decide +kernel
theorem dX9_noThing_27 : decode cX9_noThing 27 = .ok (.iload_n 2, 1) := by decide +kernel
theorem dX9_noThing_28 : decode cX9_noThing 28 = .ok (.invokevirtual 42, 3) := by decide +kernel
theorem dX9_noThing_31 : decode cX9_noThing 31 = .ok (.ifCond .ge 7, 3) := by decide +kernel
theorem dX9_noThing_34 : decode cX9_noThing 34 = .ok (.iconst 1, 1) := by decide +kernel
theorem dX9_noThing_35 : decode cX9_noThing 35 = .ok (.goto 4, 3) := by decide +kernel
theorem dX9_noThing_38 : decode cX9_noThing 38 = .ok (.iconst 0, 1) := by decide +kernel
theorem dX9_noThing_39 : decode cX9_noThing 39 = .ok (.iconst 2, 1) := by decide +kernel
theorem dX9_noThing_40 : decode cX9_noThing 40 = .ok (.invokevirtual 50, 3) := by decide +kernel
theorem dX9_noThing_43 : decode cX9_noThing 43 = .ok (.ifCond .eq 7, 3) := by decide +kernel
theorem dX9_noThing_46 : decode cX9_noThing 46 = .ok (.iconst 1, 1) := by decide +kernel
theorem dX9_noThing_47 : decode cX9_noThing 47 = .ok (.goto 4, 3) := by decide +kernel
theorem dX9_noThing_50 : decode cX9_noThing 50 = .ok (.iconst 0, 1) := by decide +kernel
theorem dX9_noThing_51 : decode cX9_noThing 51 = .ok (.ireturn, 1) := by decide +kernel
theorem dX9_rule_0 : decode cX9_rule 0 = .ok (.aload_n 0, 1) := by decide +kernel
theorem dX9_rule_1 : decode cX9_rule 1 = .ok (.invokevirtual 33, 3) := by decide +kernel
theorem dX9_rule_4 : decode cX9_rule 4 = .ok (.aload_n 0, 1) := by decide +kernel
theorem dX9_rule_5 : decode cX9_rule 5 = .ok (.iload_n 1, 1) := by decide +kernel
theorem dX9_rule_6 : decode cX9_rule 6 = .ok (.iload_n 2, 1) := by decide +kernel
theorem dX9_rule_7 : decode cX9_rule 7 = .ok (.invokevirtual 80, 3) := by decide +kernel
theorem dX9_rule_10 : decode cX9_rule 10 = .ok (.ifCond .eq 5, 3) := by decide +kernel
theorem dX9_rule_13 : decode cX9_rule 13 = .ok (.iconst 0, 1) := by decide +kernel
theorem dX9_rule_14 : decode cX9_rule 14 = .ok (.ireturn, 1) := by decide +kernel
theorem dX9_rule_15 : decode cX9_rule 15 = .ok (.aload_n 0, 1) := by decide +kernel
theorem dX9_rule_16 : decode cX9_rule 16 = .ok (.getfield 10, 3) := by decide +kernel
theorem dX9_rule_19 : decode cX9_rule 19 = .ok (.iload_n 1, 1) := by decide +kernel
theorem dX9_rule_20 : decode cX9_rule 20 = .ok (.invokeinterface 84 2, 5) := by decide +kernel
theorem dX9_rule_25 : decode cX9_rule 25 = .ok (.checkcast 54, 3) := by decide +kernel
theorem dX9_rule_28 : decode cX9_rule 28 = .ok (.astore 4, 2) := by decide +kernel
theorem dX9_rule_30 : decode cX9_rule 30 = .ok (.aload 4, 2) := by decide +kernel
theorem dX9_rule_32 : decode cX9_rule 32 = .ok (.iload_n 2, 1) := by decide +kernel
theorem dX9_rule_33 : decode cX9_rule 33 = .ok (.invokevirtual 88, 3) := by decide +kernel
theorem dX9_rule_36 : decode cX9_rule 36 = .ok (.istore 5, 2) := by decide +kernel
theorem dX9_rule_38 : decode cX9_rule 38 = .ok (.iconst 1, 1) := by decide +kernel
theorem dX9_rule_39 : decode cX9_rule 39 = .ok (.ldc 78, 2) := by decide +kernel
theorem dX9_rule_41 : decode cX9_rule 41 = .ok (.iload_n 2, 1) := by decide +kernel
theorem dX9_rule_42 : decode cX9_rule 42 = .ok (.invokevirtual 42, 3) := by decide +kernel
theorem dX9_rule_45 : decode cX9_rule 45 = .ok (.ishl, 1) := by decide +kernel
theorem dX9_rule_46 : decode cX9_rule 46 = .ok (.istore 6, 2) := by decide +kernel
theorem dX9_rule_48 : decode cX9_rule 48 = .ok (.aload 4, 2) := by decide +kernel
theorem dX9_rule_50 : decode cX9_rule 50 = .ok (.iload_n 3, 1) := by decide +kernel
theorem dX9_rule_51 : decode cX9_rule 51 = .ok (.ifCond .eq 14, 3) := by decide +kernel
theorem dX9_rule_54 : decode cX9_rule 54 = .ok (.aload 4, 2) := by decide +kernel
theorem dX9_rule_56 : decode cX9_rule 56 = .ok (.getfield 92, 3) := by decide +kernel
theorem dX9_rule_59 : decode cX9_rule 59 = .ok (.iload 6, 2) := by decide +kernel
theorem dX9_rule_61 : decode cX9_rule 61 = .ok (.ior, 1) := by decide +kernel
theorem dX9_rule_62 : decode cX9_rule 62 = .ok (.goto 13, 3) := by decide +kernel
theorem dX9_rule_65 : decode cX9_rule 65 = .ok (.aload 4, 2) := by decide +kernel
theorem dX9_rule_67 : decode cX9_rule 67 = .ok (.getfield 92, 3) := by decide +kernel
theorem dX9_rule_70 : decode cX9_rule 70 = .ok (.iload 6, 2) := by decide +kernel
theorem dX9_rule_72 : decode cX9_rule 72 = .ok (.iconst (-1), 1) := by decide +kernel
theorem dX9_rule_73 : decode cX9_rule 73 = .ok (.ixor, 1) := by decide +kernel
theorem dX9_rule_74 : decode cX9_rule 74 = .ok (.iand, 1) := by decide +kernel
theorem dX9_rule_75 : decode cX9_rule 75 = .ok (.putfield 92, 3) := by decide +kernel
theorem dX9_rule_78 : decode cX9_rule 78 = .ok (.iload 5, 2) := by decide +kernel
theorem dX9_rule_80 : decode cX9_rule 80 = .ok (.ireturn, 1) := by decide +kernel
theorem dX9_holds_0 : decode cX9_holds 0 = .ok (.aload_n 0, 1) := by decide +kernel
theorem dX9_holds_1 : decode cX9_holds 1 = .ok (.invokevirtual 33, 3) := by decide +kernel
theorem dX9_holds_4 : decode cX9_holds 4 = .ok (.aload_n 0, 1) := by decide +kernel
theorem dX9_holds_5 : decode cX9_holds 5 = .ok (.iload_n 1, 1) := by decide +kernel
theorem dX9_holds_6 : decode cX9_holds 6 = .ok (.iload_n 2, 1) := by decide +kernel
theorem dX9_holds_7 : decode cX9_holds 7 = .ok (.invokevirtual 80, 3) := by decide +kernel
theorem dX9_holds_10 : decode cX9_holds 10 = .ok (.ifCond .ne 27, 3) := by decide +kernel
theorem dX9_holds_13 : decode cX9_holds 13 = .ok (.aload_n 0, 1) := by decide +kernel
theorem dX9_holds_14 : decode cX9_holds 14 = .ok (.getfield 10, 3) := by decide +kernel
theorem dX9_holds_17 : decode cX9_holds 17 = .ok (.iload_n 1, 1) := by decide +kernel
theorem dX9_holds_18 : decode cX9_holds 18 = .ok (.invokeinterface 84 2, 5) := by decide +kernel
theorem dX9_holds_23 : decode cX9_holds 23 = .ok (.checkcast 54, 3) := by decide +kernel
theorem dX9_holds_26 : decode cX9_holds 26 = .ok (.iload_n 2, 1) := by decide +kernel
theorem dX9_holds_27 : decode cX9_holds 27 = .ok (.invokevirtual 88, 3) := by decide +kernel
theorem dX9_holds_30 : decode cX9_holds 30 = .ok (.ifCond .eq 7, 3) := by decide +kernel
theorem dX9_holds_33 : decode cX9_holds 33 = .ok (.iconst 1, 1) := by decide +kernel
theorem dX9_holds_34 : decode cX9_holds 34 = .ok (.goto 4, 3) := by decide +kernel
theorem dX9_holds_37 : decode cX9_holds 37 = .ok (.iconst 0, 1) := by decide +kernel
theorem dX9_holds_38 : decode cX9_holds 38 = .ok (.ireturn, 1) := by decide +kernel
theorem dX9_copy_0 : decode cX9_copy 0 = .ok (.aload_n 0, 1) := by decide +kernel
theorem dX9_copy_1 : decode cX9_copy 1 = .ok (.invokevirtual 33, 3) := by decide +kernel
theorem dX9_copy_4 : decode cX9_copy 4 = .ok (.aload_n 0, 1) := by decide +kernel
theorem dX9_copy_5 : decode cX9_copy 5 = .ok (.aload_n 0, 1) := by decide +kernel
theorem dX9_copy_6 : decode cX9_copy 6 = .ok (.getfield 10, 3) := by decide +kernel
theorem dX9_copy_9 : decode cX9_copy 9 = .ok (.iload_n 1, 1) := by decide +kernel
theorem dX9_copy_10 : decode cX9_copy 10 = .ok (.invokestatic 74, 3) := by decide +kernel
theorem dX9_copy_13 : decode cX9_copy 13 = .ok (.ifCond .ne 7, 3) := by decide +kernel
theorem dX9_copy_16 : decode cX9_copy 16 = .ok (.iconst 1, 1) := by decide +kernel
theorem dX9_copy_17 : decode cX9_copy 17 = .ok (.goto 4, 3) := by decide +kernel
theorem dX9_copy_20 : decode cX9_copy 20 = .ok (.iconst 0, 1) := by decide +kernel
theorem dX9_copy_21 : decode cX9_copy 21 = .ok (.iconst 1, 1) := by decide +kernel
theorem dX9_copy_22 : decode cX9_copy 22 = .ok (.invokevirtual 50, 3) := by decide +kernel
theorem dX9_copy_25 : decode cX9_copy 25 = .ok (.ifCond .ne 30, 3) := by decide +kernel
theorem dX9_copy_28 : decode cX9_copy 28 = .ok (.aload_n 0, 1) := by decide +kernel
theorem dX9_copy_29 : decode cX9_copy 29 = .ok (.aload_n 0, 1) := by decide +kernel
theorem dX9_copy_30 : decode cX9_copy 30 = .ok (.getfield 10, 3) := by decide +kernel
theorem dX9_copy_33 : decode cX9_copy 33 = .ok (.invokeinterface 23 1, 5) := by decide +kernel
theorem dX9_copy_38 : decode cX9_copy 38 = .ok (.bipush 6, 2) := by decide +kernel
theorem dX9_copy_40 : decode cX9_copy 40 = .ok (.if_icmp .ne 7, 3) := by decide +kernel
theorem dX9_copy_43 : decode cX9_copy 43 = .ok (.iconst 1, 1) := by decide +kernel
theorem dX9_copy_44 : decode cX9_copy 44 = .ok (.goto 4, 3) := by decide +kernel
theorem dX9_copy_47 : decode cX9_copy 47 = .ok (.iconst 0, 1) := by decide +kernel
theorem dX9_copy_48 : decode cX9_copy 48 = .ok (.iconst 2, 1) := by decide +kernel
theorem dX9_copy_49 : decode cX9_copy 49 = .ok (.invokevirtual 50, 3) := by decide +kernel
theorem dX9_copy_52 : decode cX9_copy 52 = .ok (.ifCond .eq 5, 3) := by decide +kernel
theorem dX9_copy_55 : decode cX9_copy 55 = .ok (.iconst (-1), 1) := by decide +kernel
theorem dX9_copy_56 : decode cX9_copy 56 = .ok (.ireturn, 1) := by decide +kernel
theorem dX9_copy_57 : decode cX9_copy 57 = .ok (.aload_n 0, 1) := by decide +kernel
theorem dX9_copy_58 : decode cX9_copy 58 = .ok (.getfield 10, 3) := by decide +kernel
theorem dX9_copy_61 : decode cX9_copy 61 = .ok (.aload_n 0, 1) := by decide +kernel
theorem dX9_copy_62 : decode cX9_copy 62 = .ok (.getfield 10, 3) := by decide +kernel
theorem dX9_copy_65 : decode cX9_copy 65 = .ok (.iload_n 1, 1) := by decide +kernel
theorem dX9_copy_66 : decode cX9_copy 66 = .ok (.invokeinterface 84 2, 5) := by decide +kernel
theorem dX9_copy_71 : decode cX9_copy 71 = .ok (.checkcast 54, 3) := by decide +kernel
theorem dX9_copy_74 : decode cX9_copy 74 = .ok (.invokevirtual 95, 3) := by decide +kernel
theorem dX9_copy_77 : decode cX9_copy 77 = .ok (.invokeinterface 70 2, 5) := by decide +kernel
theorem dX9_copy_82 : decode cX9_copy 82 = .ok (.pop, 1) := by decide +kernel
theorem dX9_copy_83 : decode cX9_copy 83 = .ok (.aload_n 0, 1) := by decide +kernel
theorem dX9_copy_84 : decode cX9_copy 84 = .ok (.getfield 10, 3) := by decide +kernel
theorem dX9_copy_87 : decode cX9_copy 87 = .ok (.invokeinterface 23 1, 5) := by decide +kernel
theorem dX9_copy_92 : decode cX9_copy 92 = .ok (.iconst 1, 1) := by decide +kernel
theorem dX9_copy_93 : decode cX9_copy 93 = .ok (.isub, 1) := by decide +kernel
theorem dX9_copy_94 : decode cX9_copy 94 = .ok (.ireturn, 1) := by decide +kernel
theorem dX9_unlike_0 : decode cX9_unlike 0 = .ok (.aload_n 0, 1) := by decide +kernel
theorem dX9_unlike_1 : decode cX9_unlike 1 = .ok (.invokevirtual 33, 3) := by decide +kernel
theorem dX9_unlike_4 : decode cX9_unlike 4 = .ok (.aload_n 0, 1) := by decide +kernel
theorem dX9_unlike_5 : decode cX9_unlike 5 = .ok (.aload_n 0, 1) := by decide +kernel
theorem dX9_unlike_6 : decode cX9_unlike 6 = .ok (.getfield 10, 3) := by decide +kernel
theorem dX9_unlike_9 : decode cX9_unlike 9 = .ok (.iload_n 1, 1) := by decide +kernel
theorem dX9_unlike_10 : decode cX9_unlike 10 = .ok (.invokestatic 74, 3) := by decide +kernel
theorem dX9_unlike_13 : decode cX9_unlike 13 = .ok (.ifCond .eq 14, 3) := by decide +kernel
theorem dX9_unlike_16 : decode cX9_unlike 16 = .ok (.aload_n 0, 1) := by decide +kernel
theorem dX9_unlike_17 : decode cX9_unlike 17 = .ok (.getfield 10, 3) := by decide +kernel
theorem dX9_unlike_20 : decode cX9_unlike 20 = .ok (.iload_n 2, 1) := by decide +kernel
theorem dX9_unlike_21 : decode cX9_unlike 21 = .ok (.invokestatic 74, 3) := by decide +kernel
theorem dX9_unlike_24 : decode cX9_unlike 24 = .ok (.ifCond .ne 7, 3) := by decide +kernel
theorem dX9_unlike_27 : decode cX9_unlike 27 = .ok (.iconst 1, 1) := by decide +kernel
theorem dX9_unlike_28 : decode cX9_unlike 28 = .ok (.goto 4, 3) := by decide +kernel
theorem dX9_unlike_31 : decode cX9_unlike 31 = .ok (.iconst 0, 1) := by decide +kernel
theorem dX9_unlike_32 : decode cX9_unlike 32 = .ok (.iconst 1, 1) := by decide +kernel
theorem dX9_unlike_33 : decode cX9_unlike 33 = .ok (.invokevirtual 50, 3) := by decide +kernel
theorem dX9_unlike_36 : decode cX9_unlike 36 = .ok (.ifCond .eq 7, 3) := by decide +kernel
theorem dX9_unlike_39 : decode cX9_unlike 39 = .ok (.iconst (-1), 1) := by decide +kernel
theorem dX9_unlike_40 : decode cX9_unlike 40 = .ok (.goto 32, 3) := by decide +kernel
theorem dX9_unlike_43 : decode cX9_unlike 43 = .ok (.aload_n 0, 1) := by decide +kernel
theorem dX9_unlike_44 : decode cX9_unlike 44 = .ok (.getfield 10, 3) := by decide +kernel
theorem dX9_unlike_47 : decode cX9_unlike 47 = .ok (.iload_n 1, 1) := by decide +kernel
theorem dX9_unlike_48 : decode cX9_unlike 48 = .ok (.invokeinterface 84 2, 5) := by decide +kernel
theorem dX9_unlike_53 : decode cX9_unlike 53 = .ok (.checkcast 54, 3) := by decide +kernel
theorem dX9_unlike_56 : decode cX9_unlike 56 = .ok (.aload_n 0, 1) := by decide +kernel
theorem dX9_unlike_57 : decode cX9_unlike 57 = .ok (.getfield 10, 3) := by decide +kernel
theorem dX9_unlike_60 : decode cX9_unlike 60 = .ok (.iload_n 2, 1) := by decide +kernel
theorem dX9_unlike_61 : decode cX9_unlike 61 = .ok (.invokeinterface 84 2, 5) := by decide +kernel
theorem dX9_unlike_66 : decode cX9_unlike 66 = .ok (.checkcast 54, 3) := by decide +kernel
theorem dX9_unlike_69 : decode cX9_unlike 69 = .ok (.invokevirtual 99, 3) := by decide +kernel
theorem dX9_unlike_72 : decode cX9_unlike 72 = .ok (.ireturn, 1) := by decide +kernel
theorem dX9_parent_0 : decode cX9_parent 0 = .ok (.aload_n 0, 1) := by decide +kernel
theorem dX9_parent_1 : decode cX9_parent 1 = .ok (.invokevirtual 33, 3) := by decide +kernel
theorem dX9_parent_4 : decode cX9_parent 4 = .ok (.aload_n 0, 1) := by decide +kernel
theorem dX9_parent_5 : decode cX9_parent 5 = .ok (.aload_n 0, 1) := by decide +kernel
theorem dX9_parent_6 : decode cX9_parent 6 = .ok (.getfield 10, 3) := by decide +kernel
theorem dX9_parent_9 : decode cX9_parent 9 = .ok (.iload_n 1, 1) := by decide +kernel
theorem dX9_parent_10 : decode cX9_parent 10 = .ok (.invokestatic 74, 3) := by decide +kernel
theorem dX9_parent_13 : decode cX9_parent 13 = .ok (.ifCond .ne 7, 3) := by decide +kernel
theorem dX9_parent_16 : decode cX9_parent 16 = .ok (.iconst 1, 1) := by decide +kernel
theorem dX9_parent_17 : decode cX9_parent 17 = .ok (.goto 4, 3) := by decide +kernel
theorem dX9_parent_20 : decode cX9_parent 20 = .ok (.iconst 0, 1) := by decide +kernel
theorem dX9_parent_21 : decode cX9_parent 21 = .ok (.iconst 1, 1) := by decide +kernel
theorem dX9_parent_22 : decode cX9_parent 22 = .ok (.invokevirtual 50, 3) := by decide +kernel
theorem dX9_parent_25 : decode cX9_parent 25 = .ok (.ifCond .ne 20, 3) := by decide +kernel
theorem dX9_parent_28 : decode cX9_parent 28 = .ok (.aload_n 0, 1) := by decide +kernel
theorem dX9_parent_29 : decode cX9_parent 29 = .ok (.iload_n 1, 1) := by decide +kernel
theorem dX9_parent_30 : decode cX9_parent 30 = .ok (.ifCond .ne 7, 3) := by decide +kernel
theorem dX9_parent_33 : decode cX9_parent 33 = .ok (.iconst 1, 1) := by decide +kernel
theorem dX9_parent_34 : decode cX9_parent 34 = .ok (.goto 4, 3) := by decide +kernel
theorem dX9_parent_37 : decode cX9_parent 37 = .ok (.iconst 0, 1) := by decide +kernel
theorem dX9_parent_38 : decode cX9_parent 38 = .ok (.iconst 2, 1) := by decide +kernel
theorem dX9_parent_39 : decode cX9_parent 39 = .ok (.invokevirtual 50, 3) := by decide +kernel
theorem dX9_parent_42 : decode cX9_parent 42 = .ok (.ifCond .eq 7, 3) := by decide +kernel
theorem dX9_parent_45 : decode cX9_parent 45 = .ok (.iconst (-1), 1) := by decide +kernel
theorem dX9_parent_46 : decode cX9_parent 46 = .ok (.goto 8, 3) := by decide +kernel
theorem dX9_parent_49 : decode cX9_parent 49 = .ok (.aload_n 0, 1) := by decide +kernel
theorem dX9_parent_50 : decode cX9_parent 50 = .ok (.iload_n 1, 1) := by decide +kernel
theorem dX9_parent_51 : decode cX9_parent 51 = .ok (.invokevirtual 103, 3) := by decide +kernel
theorem dX9_parent_54 : decode cX9_parent 54 = .ok (.ireturn, 1) := by decide +kernel
theorem dX9_noGame_0 : decode cX9_noGame 0 = .ok (.aload_n 0, 1) := by decide +kernel
theorem dX9_noGame_1 : decode cX9_noGame 1 = .ok (.aload_n 0, 1) := by decide +kernel
theorem dX9_noGame_2 : decode cX9_noGame 2 = .ok (.getfield 106, 3) := by decide +kernel
theorem dX9_noGame_5 : decode cX9_noGame 5 = .ok (.ifnonnull 7, 3) := by decide +kernel
theorem dX9_noGame_8 : decode cX9_noGame 8 = .ok (.iconst 1, 1) := by decide +kernel
theorem dX9_noGame_9 : decode cX9_noGame 9 = .ok (.goto 4, 3) := by decide +kernel
theorem dX9_noGame_12 : decode cX9_noGame 12 = .ok (.iconst 0, 1) := by decide +kernel
theorem dX9_noGame_13 : decode cX9_noGame 13 = .ok (.iconst 1, 1) := by decide +kernel
theorem dX9_noGame_14 : decode cX9_noGame 14 = .ok (.invokevirtual 50, 3) := by decide +kernel
theorem dX9_noGame_17 : decode cX9_noGame 17 = .ok (.ireturn, 1) := by decide +kernel
theorem dX9_notOn_0 : decode cX9_notOn 0 = .ok (.aload_n 0, 1) := by decide +kernel
theorem dX9_notOn_1 : decode cX9_notOn 1 = .ok (.aload_n 0, 1) := by decide +kernel
theorem dX9_notOn_2 : decode cX9_notOn 2 = .ok (.getfield 106, 3) := by decide +kernel
theorem dX9_notOn_5 : decode cX9_notOn 5 = .ok (.ifnull 16, 3) := by decide +kernel
theorem dX9_notOn_8 : decode cX9_notOn 8 = .ok (.aload_n 0, 1) := by decide +kernel
theorem dX9_notOn_9 : decode cX9_notOn 9 = .ok (.getfield 106, 3) := by decide +kernel
theorem dX9_notOn_12 : decode cX9_notOn 12 = .ok (.getfield 110, 3) := by decide +kernel
theorem dX9_notOn_15 : decode cX9_notOn 15 = .ok (.getfield 116, 3) := by decide +kernel
theorem dX9_notOn_18 : decode cX9_notOn 18 = .ok (.ifCond .eq 7, 3) := by decide +kernel
theorem dX9_notOn_21 : decode cX9_notOn 21 = .ok (.iconst 1, 1) := by decide +kernel
theorem dX9_notOn_22 : decode cX9_notOn 22 = .ok (.goto 4, 3) := by decide +kernel
theorem dX9_notOn_25 : decode cX9_notOn 25 = .ok (.iconst 0, 1) := by decide +kernel
theorem dX9_notOn_26 : decode cX9_notOn 26 = .ok (.iconst 1, 1) := by decide +kernel
theorem dX9_notOn_27 : decode cX9_notOn 27 = .ok (.invokevirtual 50, 3) := by decide +kernel
theorem dX9_notOn_30 : decode cX9_notOn 30 = .ok (.ireturn, 1) := by decide +kernel
theorem dX9_start_0 : decode cX9_start 0 = .ok (.aload_n 0, 1) := by decide +kernel
theorem dX9_start_1 : decode cX9_start 1 = .ok (.invokevirtual 33, 3) := by decide +kernel
theorem dX9_start_4 : decode cX9_start 4 = .ok (.aload_n 0, 1) := by decide +kernel
theorem dX9_start_5 : decode cX9_start 5 = .ok (.aload_n 0, 1) := by decide +kernel
theorem dX9_start_6 : decode cX9_start 6 = .ok (.getfield 10, 3) := by decide +kernel
theorem dX9_start_9 : decode cX9_start 9 = .ok (.iload_n 1, 1) := by decide +kernel
theorem dX9_start_10 : decode cX9_start 10 = .ok (.invokestatic 74, 3) := by decide +kernel
theorem dX9_start_13 : decode cX9_start 13 = .ok (.ifCond .ne 7, 3) := by decide +kernel
theorem dX9_start_16 : decode cX9_start 16 = .ok (.iconst 1, 1) := by decide +kernel
theorem dX9_start_17 : decode cX9_start 17 = .ok (.goto 4, 3) := by decide +kernel
theorem dX9_start_20 : decode cX9_start 20 = .ok (.iconst 0, 1) := by decide +kernel
theorem dX9_start_21 : decode cX9_start 21 = .ok (.iconst 1, 1) := by decide +kernel
theorem dX9_start_22 : decode cX9_start 22 = .ok (.invokevirtual 50, 3) := by decide +kernel
theorem dX9_start_25 : decode cX9_start 25 = .ok (.ifCond .eq 5, 3) := by decide +kernel
theorem dX9_start_28 : decode cX9_start 28 = .ok (.iconst (-1), 1) := by decide +kernel
theorem dX9_start_29 : decode cX9_start 29 = .ok (.ireturn, 1) := by decide +kernel
theorem dX9_start_30 : decode cX9_start 30 = .ok (.aload_n 0, 1) := by decide +kernel
theorem dX9_start_31 : decode cX9_start 31 = .ok (.getfield 10, 3) := by decide +kernel
theorem dX9_start_34 : decode cX9_start 34 = .ok (.iload_n 1, 1) := by decide +kernel
theorem dX9_start_35 : decode cX9_start 35 = .ok (.invokeinterface 84 2, 5) := by decide +kernel
theorem dX9_start_40 : decode cX9_start 40 = .ok (.checkcast 54, 3) := by decide +kernel
theorem dX9_start_43 : decode cX9_start 43 = .ok (.invokevirtual 95, 3) := by decide +kernel
theorem dX9_start_46 : decode cX9_start 46 = .ok (.astore_n 2, 1) := by decide +kernel
theorem dX9_start_47 : decode cX9_start 47 = .ok (.aload_n 0, 1) := by decide +kernel
theorem dX9_start_48 : decode cX9_start 48 = .ok (.new 111, 3) := by decide +kernel
theorem dX9_start_51 : decode cX9_start 51 = .ok (.dup, 1) := by decide +kernel
theorem dX9_start_52 : decode cX9_start 52 = .ok (.aload_n 2, 1) := by decide +kernel
theorem dX9_start_53 : decode cX9_start 53 = .ok (.invokespecial 125, 3) := by decide +kernel
theorem dX9_start_56 : decode cX9_start 56 = .ok (.putfield 106, 3) := by decide +kernel
theorem dX9_start_59 : decode cX9_start 59 = .ok (.iconst 2, 1) := by decide +kernel
theorem dX9_start_60 : decode cX9_start 60 = .ok (.aload_n 2, 1) := by decide +kernel
theorem dX9_start_61 : decode cX9_start 61 = .ok (.getfield 57, 3) := by decide +kernel
theorem dX9_start_64 : decode cX9_start 64 = .ok (.imul, 1) := by decide +kernel
theorem dX9_start_65 : decode cX9_start 65 = .ok (.aload_n 2, 1) := by decide +kernel
theorem dX9_start_66 : decode cX9_start 66 = .ok (.getfield 60, 3) := by decide +kernel
theorem dX9_start_69 : decode cX9_start 69 = .ok (.imul, 1) := by decide +kernel
theorem dX9_start_70 : decode cX9_start 70 = .ok (.ireturn, 1) := by decide +kernel
theorem dX9_give_0 : decode cX9_give 0 = .ok (.aload_n 0, 1) := by decide +kernel
theorem dX9_give_1 : decode cX9_give 1 = .ok (.invokevirtual 33, 3) := by decide +kernel
theorem dX9_give_4 : decode cX9_give 4 = .ok (.aload_n 0, 1) := by decide +kernel
theorem dX9_give_5 : decode cX9_give 5 = .ok (.invokevirtual 128, 3) := by decide +kernel
theorem dX9_give_8 : decode cX9_give 8 = .ok (.ifCond .ne 64, 3) := by decide +kernel
theorem dX9_give_11 : decode cX9_give 11 = .ok (.aload_n 0, 1) := by decide +kernel
theorem dX9_give_12 : decode cX9_give 12 = .ok (.aload_n 0, 1) := by decide +kernel
theorem dX9_give_13 : decode cX9_give 13 = .ok (.iload_n 1, 1) := by decide +kernel
theorem dX9_give_14 : decode cX9_give 14 = .ok (.invokevirtual 132, 3) := by decide +kernel
theorem dX9_give_17 : decode cX9_give 17 = .ok (.ifCond .ne 7, 3) := by decide +kernel
theorem dX9_give_20 : decode cX9_give 20 = .ok (.iconst 1, 1) := by decide +kernel
theorem dX9_give_21 : decode cX9_give 21 = .ok (.goto 4, 3) := by decide +kernel
theorem dX9_give_24 : decode cX9_give 24 = .ok (.iconst 0, 1) := by decide +kernel
theorem dX9_give_25 : decode cX9_give 25 = .ok (.iconst 2, 1) := by decide +kernel
theorem dX9_give_26 : decode cX9_give 26 = .ok (.invokevirtual 50, 3) := by decide +kernel
theorem dX9_give_29 : decode cX9_give 29 = .ok (.ifCond .ne 43, 3) := by decide +kernel
theorem dX9_give_32 : decode cX9_give 32 = .ok (.aload_n 0, 1) := by decide +kernel
theorem dX9_give_33 : decode cX9_give 33 = .ok (.iload_n 2, 1) := by decide +kernel
theorem dX9_give_34 : decode cX9_give 34 = .ok (.i2l, 1) := by decide +kernel
theorem dX9_give_35 : decode cX9_give 35 = .ok (.lconst 0, 1) := by decide +kernel
theorem dX9_give_36 : decode cX9_give 36 = .ok (.ldc2_w 136, 3) := by decide +kernel
theorem dX9_give_39 : decode cX9_give 39 = .ok (.invokestatic 29, 3) := by decide +kernel
theorem dX9_give_42 : decode cX9_give 42 = .ok (.ifCond .ne 7, 3) := by decide +kernel
theorem dX9_give_45 : decode cX9_give 45 = .ok (.iconst 1, 1) := by decide +kernel
theorem dX9_give_46 : decode cX9_give 46 = .ok (.goto 4, 3) := by decide +kernel
theorem dX9_give_49 : decode cX9_give 49 = .ok (.iconst 0, 1) := by decide +kernel
theorem dX9_give_50 : decode cX9_give 50 = .ok (.iconst 3, 1) := by decide +kernel
theorem dX9_give_51 : decode cX9_give 51 = .ok (.invokevirtual 50, 3) := by decide +kernel
theorem dX9_give_54 : decode cX9_give 54 = .ok (.ifCond .ne 18, 3) := by decide +kernel
theorem dX9_give_57 : decode cX9_give 57 = .ok (.aload_n 0, 1) := by decide +kernel
theorem dX9_give_58 : decode cX9_give 58 = .ok (.aload_n 0, 1) := by decide +kernel
theorem dX9_give_59 : decode cX9_give 59 = .ok (.getfield 106, 3) := by decide +kernel
theorem dX9_give_62 : decode cX9_give 62 = .ok (.getfield 138, 3) := by decide +kernel
theorem dX9_give_65 : decode cX9_give 65 = .ok (.iconst 4, 1) := by decide +kernel
theorem dX9_give_66 : decode cX9_give 66 = .ok (.invokevirtual 50, 3) := by decide +kernel
theorem dX9_give_69 : decode cX9_give 69 = .ok (.ifCond .eq 5, 3) := by decide +kernel
theorem dX9_give_72 : decode cX9_give 72 = .ok (.iconst (-1), 1) := by decide +kernel
theorem dX9_give_73 : decode cX9_give 73 = .ok (.ireturn, 1) := by decide +kernel
theorem dX9_give_74 : decode cX9_give 74 = .ok (.aload_n 0, 1) := by decide +kernel
theorem dX9_give_75 : decode cX9_give 75 = .ok (.getfield 106, 3) := by decide +kernel
theorem dX9_give_78 : decode cX9_give 78 = .ok (.getfield 110, 3) := by decide +kernel
theorem dX9_give_81 : decode cX9_give 81 = .ok (.getfield 122, 3) := by decide +kernel
theorem dX9_give_84 : decode cX9_give 84 = .ok (.iload_n 1, 1) := by decide +kernel
theorem dX9_give_85 : decode cX9_give 85 = .ok (.iload_n 2, 1) := by decide +kernel
theorem dX9_give_86 : decode cX9_give 86 = .ok (.iastore, 1) := by decide +kernel
theorem dX9_give_87 : decode cX9_give 87 = .ok (.aload_n 0, 1) := by decide +kernel
theorem dX9_give_88 : decode cX9_give 88 = .ok (.getfield 106, 3) := by decide +kernel
theorem dX9_give_91 : decode cX9_give 91 = .ok (.getfield 110, 3) := by decide +kernel
theorem dX9_give_94 : decode cX9_give 94 = .ok (.iconst 0, 1) := by decide +kernel
theorem dX9_give_95 : decode cX9_give 95 = .ok (.invokevirtual 141, 3) := by decide +kernel
theorem dX9_give_98 : decode cX9_give 98 = .ok (.aload_n 0, 1) := by decide +kernel
theorem dX9_give_99 : decode cX9_give 99 = .ok (.getfield 106, 3) := by decide +kernel
theorem dX9_give_102 : decode cX9_give 102 = .ok (.getfield 110, 3) := by decide +kernel
theorem dX9_give_105 : decode cX9_give 105 = .ok (.iconst 1, 1) := by decide +kernel
theorem dX9_give_106 : decode cX9_give 106 = .ok (.invokevirtual 141, 3) := by decide +kernel
theorem dX9_give_109 : decode cX9_give 109 = .ok (.iadd, 1) := by decide +kernel
theorem dX9_give_110 : decode cX9_give 110 = .ok (.ireturn, 1) := by decide +kernel
theorem dX9_move_0 : decode cX9_move 0 = .ok (.aload_n 0, 1) := by decide +kernel
theorem dX9_move_1 : decode cX9_move 1 = .ok (.invokevirtual 33, 3) := by decide +kernel
theorem dX9_move_4 : decode cX9_move 4 = .ok (.aload_n 0, 1) := by decide +kernel
theorem dX9_move_5 : decode cX9_move 5 = .ok (.invokevirtual 128, 3) := by decide +kernel
theorem dX9_move_8 : decode cX9_move 8 = .ok (.ifCond .ne 53, 3) := by decide +kernel
theorem dX9_move_11 : decode cX9_move 11 = .ok (.aload_n 0, 1) := by decide +kernel
theorem dX9_move_12 : decode cX9_move 12 = .ok (.aload_n 0, 1) := by decide +kernel
theorem dX9_move_13 : decode cX9_move 13 = .ok (.iload_n 1, 1) := by decide +kernel
theorem dX9_move_14 : decode cX9_move 14 = .ok (.invokevirtual 132, 3) := by decide +kernel
theorem dX9_move_17 : decode cX9_move 17 = .ok (.ifCond .ne 7, 3) := by decide +kernel
theorem dX9_move_20 : decode cX9_move 20 = .ok (.iconst 1, 1) := by decide +kernel
theorem dX9_move_21 : decode cX9_move 21 = .ok (.goto 4, 3) := by decide +kernel
theorem dX9_move_24 : decode cX9_move 24 = .ok (.iconst 0, 1) := by decide +kernel
theorem dX9_move_25 : decode cX9_move 25 = .ok (.iconst 2, 1) := by decide +kernel
theorem dX9_move_26 : decode cX9_move 26 = .ok (.invokevirtual 50, 3) := by decide +kernel
theorem dX9_move_29 : decode cX9_move 29 = .ok (.ifCond .ne 32, 3) := by decide +kernel
theorem dX9_move_32 : decode cX9_move 32 = .ok (.aload_n 0, 1) := by decide +kernel
theorem dX9_move_33 : decode cX9_move 33 = .ok (.aload_n 0, 1) := by decide +kernel
theorem dX9_move_34 : decode cX9_move 34 = .ok (.getfield 106, 3) := by decide +kernel
theorem dX9_move_37 : decode cX9_move 37 = .ok (.getfield 110, 3) := by decide +kernel
theorem dX9_move_40 : decode cX9_move 40 = .ok (.iload_n 1, 1) := by decide +kernel
theorem dX9_move_41 : decode cX9_move 41 = .ok (.invokevirtual 144, 3) := by decide +kernel
theorem dX9_move_44 : decode cX9_move 44 = .ok (.bipush 45, 2) := by decide +kernel
theorem dX9_move_46 : decode cX9_move 46 = .ok (.if_icmp .eq 7, 3) := by decide +kernel
theorem dX9_move_49 : decode cX9_move 49 = .ok (.iconst 1, 1) := by decide +kernel
theorem dX9_move_50 : decode cX9_move 50 = .ok (.goto 4, 3) := by decide +kernel
theorem dX9_move_53 : decode cX9_move 53 = .ok (.iconst 0, 1) := by decide +kernel
theorem dX9_move_54 : decode cX9_move 54 = .ok (.iconst 3, 1) := by decide +kernel
theorem dX9_move_55 : decode cX9_move 55 = .ok (.invokevirtual 50, 3) := by decide +kernel
theorem dX9_move_58 : decode cX9_move 58 = .ok (.ifCond .eq 5, 3) := by decide +kernel
theorem dX9_move_61 : decode cX9_move 61 = .ok (.iconst (-1), 1) := by decide +kernel
theorem dX9_move_62 : decode cX9_move 62 = .ok (.ireturn, 1) := by decide +kernel
theorem dX9_move_63 : decode cX9_move 63 = .ok (.aload_n 0, 1) := by decide +kernel
theorem dX9_move_64 : decode cX9_move 64 = .ok (.getfield 106, 3) := by decide +kernel
theorem dX9_move_67 : decode cX9_move 67 = .ok (.iload_n 1, 1) := by decide +kernel
theorem dX9_move_68 : decode cX9_move 68 = .ok (.invokevirtual 148, 3) := by decide +kernel
theorem dX9_move_71 : decode cX9_move 71 = .ok (.aload_n 0, 1) := by decide +kernel
theorem dX9_move_72 : decode cX9_move 72 = .ok (.getfield 106, 3) := by decide +kernel
theorem dX9_move_75 : decode cX9_move 75 = .ok (.invokevirtual 152, 3) := by decide +kernel
theorem dX9_move_78 : decode cX9_move 78 = .ok (.getfield 156, 3) := by decide +kernel
theorem dX9_move_81 : decode cX9_move 81 = .ok (.ireturn, 1) := by decide +kernel
theorem dX9_barred_0 : decode cX9_barred 0 = .ok (.aload_n 0, 1) := by decide +kernel
theorem dX9_barred_1 : decode cX9_barred 1 = .ok (.invokevirtual 33, 3) := by decide +kernel
theorem dX9_barred_4 : decode cX9_barred 4 = .ok (.aload_n 0, 1) := by decide +kernel
theorem dX9_barred_5 : decode cX9_barred 5 = .ok (.invokevirtual 128, 3) := by decide +kernel
theorem dX9_barred_8 : decode cX9_barred 8 = .ok (.ifCond .ne 24, 3) := by decide +kernel
theorem dX9_barred_11 : decode cX9_barred 11 = .ok (.aload_n 0, 1) := by decide +kernel
theorem dX9_barred_12 : decode cX9_barred 12 = .ok (.aload_n 0, 1) := by decide +kernel
theorem dX9_barred_13 : decode cX9_barred 13 = .ok (.iload_n 1, 1) := by decide +kernel
theorem dX9_barred_14 : decode cX9_barred 14 = .ok (.invokevirtual 132, 3) := by decide +kernel
theorem dX9_barred_17 : decode cX9_barred 17 = .ok (.ifCond .ne 7, 3) := by decide +kernel
theorem dX9_barred_20 : decode cX9_barred 20 = .ok (.iconst 1, 1) := by decide +kernel
theorem dX9_barred_21 : decode cX9_barred 21 = .ok (.goto 4, 3) := by decide +kernel
theorem dX9_barred_24 : decode cX9_barred 24 = .ok (.iconst 0, 1) := by decide +kernel
theorem dX9_barred_25 : decode cX9_barred 25 = .ok (.iconst 2, 1) := by decide +kernel
theorem dX9_barred_26 : decode cX9_barred 26 = .ok (.invokevirtual 50, 3) := by decide +kernel
theorem dX9_barred_29 : decode cX9_barred 29 = .ok (.ifCond .eq 8, 3) := by decide +kernel
theorem dX9_barred_32 : decode cX9_barred 32 = .ok (.bipush 32, 2) := by decide +kernel
theorem dX9_barred_34 : decode cX9_barred 34 = .ok (.goto 14, 3) := by decide +kernel
theorem dX9_barred_37 : decode cX9_barred 37 = .ok (.aload_n 0, 1) := by decide +kernel
theorem dX9_barred_38 : decode cX9_barred 38 = .ok (.getfield 106, 3) := by decide +kernel
theorem dX9_barred_41 : decode cX9_barred 41 = .ok (.getfield 110, 3) := by decide +kernel
theorem dX9_barred_44 : decode cX9_barred 44 = .ok (.iload_n 1, 1) := by decide +kernel
theorem dX9_barred_45 : decode cX9_barred 45 = .ok (.invokevirtual 144, 3) := by decide +kernel
theorem dX9_barred_48 : decode cX9_barred 48 = .ok (.ireturn, 1) := by decide +kernel
theorem dX9_moves_0 : decode cX9_moves 0 = .ok (.aload_n 0, 1) := by decide +kernel
theorem dX9_moves_1 : decode cX9_moves 1 = .ok (.invokevirtual 33, 3) := by decide +kernel
theorem dX9_moves_4 : decode cX9_moves 4 = .ok (.aload_n 0, 1) := by decide +kernel
theorem dX9_moves_5 : decode cX9_moves 5 = .ok (.invokevirtual 128, 3) := by decide +kernel
theorem dX9_moves_8 : decode cX9_moves 8 = .ok (.ifCond .eq 5, 3) := by decide +kernel
theorem dX9_moves_11 : decode cX9_moves 11 = .ok (.iconst (-1), 1) := by decide +kernel
theorem dX9_moves_12 : decode cX9_moves 12 = .ok (.ireturn, 1) := by decide +kernel
theorem dX9_moves_13 : decode cX9_moves 13 = .ok (.iconst 0, 1) := by decide +kernel
theorem dX9_moves_14 : decode cX9_moves 14 = .ok (.istore_n 1, 1) := by decide +kernel
theorem dX9_moves_15 : decode cX9_moves 15 = .ok (.iconst 0, 1) := by decide +kernel
theorem dX9_moves_16 : decode cX9_moves 16 = .ok (.istore_n 2, 1) := by decide +kernel
theorem dX9_moves_17 : decode cX9_moves 17 = .ok (.iload_n 2, 1) := by decide +kernel
theorem dX9_moves_18 : decode cX9_moves 18 = .ok (.aload_n 0, 1) := by decide +kernel
theorem dX9_moves_19 : decode cX9_moves 19 = .ok (.getfield 106, 3) := by decide +kernel
theorem dX9_moves_22 : decode cX9_moves 22 = .ok (.getfield 110, 3) := by decide +kernel
theorem dX9_moves_25 : decode cX9_moves 25 = .ok (.getfield 122, 3) := by decide +kernel
theorem dX9_moves_28 : decode cX9_moves 28 = .ok (.arraylength, 1) := by decide +kernel
theorem dX9_moves_29 : decode cX9_moves 29 = .ok (.if_icmp .ge 35, 3) := by decide +kernel
theorem dX9_moves_32 : decode cX9_moves 32 = .ok (.iload_n 1, 1) := by decide +kernel
theorem dX9_moves_33 : decode cX9_moves 33 = .ok (.aload_n 0, 1) := by decide +kernel
theorem dX9_moves_34 : decode cX9_moves 34 = .ok (.getfield 106, 3) := by decide +kernel
theorem dX9_moves_37 : decode cX9_moves 37 = .ok (.getfield 110, 3) := by decide +kernel
theorem dX9_moves_40 : decode cX9_moves 40 = .ok (.iload_n 2, 1) := by decide +kernel
theorem dX9_moves_41 : decode cX9_moves 41 = .ok (.invokevirtual 144, 3) := by decide +kernel
theorem dX9_moves_44 : decode cX9_moves 44 = .ok (.bipush 45, 2) := by decide +kernel
theorem dX9_moves_46 : decode cX9_moves 46 = .ok (.if_icmp .ne 9, 3) := by decide +kernel
theorem dX9_moves_49 : decode cX9_moves 49 = .ok (.iconst 1, 1) := by decide +kernel
theorem dX9_moves_50 : decode cX9_moves 50 = .ok (.iload_n 2, 1) := by decide +kernel
theorem dX9_moves_51 : decode cX9_moves 51 = .ok (.ishl, 1) := by decide +kernel
theorem dX9_moves_52 : decode cX9_moves 52 = .ok (.goto 4, 3) := by decide +kernel
theorem dX9_moves_55 : decode cX9_moves 55 = .ok (.iconst 0, 1) := by decide +kernel
theorem dX9_moves_56 : decode cX9_moves 56 = .ok (.ior, 1) := by decide +kernel
theorem dX9_moves_57 : decode cX9_moves 57 = .ok (.istore_n 1, 1) := by decide +kernel
theorem dX9_moves_58 : decode cX9_moves 58 = .ok (.iinc 2 1, 3) := by decide +kernel
theorem dX9_moves_61 : decode cX9_moves 61 = .ok (.goto (-44), 3) := by decide +kernel
theorem dX9_moves_64 : decode cX9_moves 64 = .ok (.iload_n 1, 1) := by decide +kernel
theorem dX9_moves_65 : decode cX9_moves 65 = .ok (.ireturn, 1) := by decide +kernel
theorem dX9_undo_0 : decode cX9_undo 0 = .ok (.aload_n 0, 1) := by decide +kernel
theorem dX9_undo_1 : decode cX9_undo 1 = .ok (.invokevirtual 33, 3) := by decide +kernel
theorem dX9_undo_4 : decode cX9_undo 4 = .ok (.aload_n 0, 1) := by decide +kernel
theorem dX9_undo_5 : decode cX9_undo 5 = .ok (.aload_n 0, 1) := by decide +kernel
theorem dX9_undo_6 : decode cX9_undo 6 = .ok (.getfield 106, 3) := by decide +kernel
theorem dX9_undo_9 : decode cX9_undo 9 = .ok (.ifnull 19, 3) := by decide +kernel
theorem dX9_undo_12 : decode cX9_undo 12 = .ok (.aload_n 0, 1) := by decide +kernel
theorem dX9_undo_13 : decode cX9_undo 13 = .ok (.getfield 106, 3) := by decide +kernel
theorem dX9_undo_16 : decode cX9_undo 16 = .ok (.getfield 159, 3) := by decide +kernel
theorem dX9_undo_19 : decode cX9_undo 19 = .ok (.invokeinterface 23 1, 5) := by decide +kernel
theorem dX9_undo_24 : decode cX9_undo 24 = .ok (.iconst 1, 1) := by decide +kernel
theorem dX9_undo_25 : decode cX9_undo 25 = .ok (.if_icmp .ne 7, 3) := by decide +kernel
theorem dX9_undo_28 : decode cX9_undo 28 = .ok (.iconst 1, 1) := by decide +kernel
theorem dX9_undo_29 : decode cX9_undo 29 = .ok (.goto 4, 3) := by decide +kernel
theorem dX9_undo_32 : decode cX9_undo 32 = .ok (.iconst 0, 1) := by decide +kernel
theorem dX9_undo_33 : decode cX9_undo 33 = .ok (.iconst 1, 1) := by decide +kernel
theorem dX9_undo_34 : decode cX9_undo 34 = .ok (.invokevirtual 50, 3) := by decide +kernel
theorem dX9_undo_37 : decode cX9_undo 37 = .ok (.ifCond .eq 5, 3) := by decide +kernel
theorem dX9_undo_40 : decode cX9_undo 40 = .ok (.iconst (-1), 1) := by decide +kernel
theorem dX9_undo_41 : decode cX9_undo 41 = .ok (.ireturn, 1) := by decide +kernel
theorem dX9_undo_42 : decode cX9_undo 42 = .ok (.aload_n 0, 1) := by decide +kernel
theorem dX9_undo_43 : decode cX9_undo 43 = .ok (.getfield 106, 3) := by decide +kernel
theorem dX9_undo_46 : decode cX9_undo 46 = .ok (.invokevirtual 152, 3) := by decide +kernel
theorem dX9_undo_49 : decode cX9_undo 49 = .ok (.getfield 162, 3) := by decide +kernel
theorem dX9_undo_52 : decode cX9_undo 52 = .ok (.istore_n 1, 1) := by decide +kernel
theorem dX9_undo_53 : decode cX9_undo 53 = .ok (.aload_n 0, 1) := by decide +kernel
theorem dX9_undo_54 : decode cX9_undo 54 = .ok (.getfield 106, 3) := by decide +kernel
theorem dX9_undo_57 : decode cX9_undo 57 = .ok (.getfield 159, 3) := by decide +kernel
theorem dX9_undo_60 : decode cX9_undo 60 = .ok (.aload_n 0, 1) := by decide +kernel
theorem dX9_undo_61 : decode cX9_undo 61 = .ok (.getfield 106, 3) := by decide +kernel
theorem dX9_undo_64 : decode cX9_undo 64 = .ok (.getfield 159, 3) := by decide +kernel
theorem dX9_undo_67 : decode cX9_undo 67 = .ok (.invokeinterface 23 1, 5) := by decide +kernel
theorem dX9_undo_72 : decode cX9_undo 72 = .ok (.iconst 1, 1) := by decide +kernel
theorem dX9_undo_73 : decode cX9_undo 73 = .ok (.isub, 1) := by decide +kernel
theorem dX9_undo_74 : decode cX9_undo 74 = .ok (.invokeinterface 165 2, 5) := by decide +kernel
theorem dX9_undo_79 : decode cX9_undo 79 = .ok (.pop, 1) := by decide +kernel
theorem dX9_undo_80 : decode cX9_undo 80 = .ok (.aload_n 0, 1) := by decide +kernel
theorem dX9_undo_81 : decode cX9_undo 81 = .ok (.getfield 106, 3) := by decide +kernel
theorem dX9_undo_84 : decode cX9_undo 84 = .ok (.aload_n 0, 1) := by decide +kernel
theorem dX9_undo_85 : decode cX9_undo 85 = .ok (.getfield 106, 3) := by decide +kernel
theorem dX9_undo_88 : decode cX9_undo 88 = .ok (.invokevirtual 152, 3) := by decide +kernel
theorem dX9_undo_91 : decode cX9_undo 91 = .ok (.putfield 110, 3) := by decide +kernel
theorem dX9_undo_94 : decode cX9_undo 94 = .ok (.iload_n 1, 1) := by decide +kernel
theorem dX9_undo_95 : decode cX9_undo 95 = .ok (.ireturn, 1) := by decide +kernel
theorem dX9_seeds_0 : decode cX9_seeds 0 = .ok (.aload_n 0, 1) := by decide +kernel
theorem dX9_seeds_1 : decode cX9_seeds 1 = .ok (.invokevirtual 33, 3) := by decide +kernel
theorem dX9_seeds_4 : decode cX9_seeds 4 = .ok (.aload_n 0, 1) := by decide +kernel
theorem dX9_seeds_5 : decode cX9_seeds 5 = .ok (.invokevirtual 168, 3) := by decide +kernel
theorem dX9_seeds_8 : decode cX9_seeds 8 = .ok (.ifCond .ne 24, 3) := by decide +kernel
theorem dX9_seeds_11 : decode cX9_seeds 11 = .ok (.aload_n 0, 1) := by decide +kernel
theorem dX9_seeds_12 : decode cX9_seeds 12 = .ok (.aload_n 0, 1) := by decide +kernel
theorem dX9_seeds_13 : decode cX9_seeds 13 = .ok (.iload_n 1, 1) := by decide +kernel
theorem dX9_seeds_14 : decode cX9_seeds 14 = .ok (.invokevirtual 132, 3) := by decide +kernel
theorem dX9_seeds_17 : decode cX9_seeds 17 = .ok (.ifCond .ne 7, 3) := by decide +kernel
theorem dX9_seeds_20 : decode cX9_seeds 20 = .ok (.iconst 1, 1) := by decide +kernel
theorem dX9_seeds_21 : decode cX9_seeds 21 = .ok (.goto 4, 3) := by decide +kernel
theorem dX9_seeds_24 : decode cX9_seeds 24 = .ok (.iconst 0, 1) := by decide +kernel
theorem dX9_seeds_25 : decode cX9_seeds 25 = .ok (.iconst 2, 1) := by decide +kernel
theorem dX9_seeds_26 : decode cX9_seeds 26 = .ok (.invokevirtual 50, 3) := by decide +kernel
theorem dX9_seeds_29 : decode cX9_seeds 29 = .ok (.ifCond .eq 7, 3) := by decide +kernel
theorem dX9_seeds_32 : decode cX9_seeds 32 = .ok (.iconst (-1), 1) := by decide +kernel
theorem dX9_seeds_33 : decode cX9_seeds 33 = .ok (.goto 15, 3) := by decide +kernel
theorem dX9_seeds_36 : decode cX9_seeds 36 = .ok (.aload_n 0, 1) := by decide +kernel
theorem dX9_seeds_37 : decode cX9_seeds 37 = .ok (.getfield 106, 3) := by decide +kernel
theorem dX9_seeds_40 : decode cX9_seeds 40 = .ok (.getfield 110, 3) := by decide +kernel
theorem dX9_seeds_43 : decode cX9_seeds 43 = .ok (.getfield 122, 3) := by decide +kernel
theorem dX9_seeds_46 : decode cX9_seeds 46 = .ok (.iload_n 1, 1) := by decide +kernel
theorem dX9_seeds_47 : decode cX9_seeds 47 = .ok (.iaload, 1) := by decide +kernel
theorem dX9_seeds_48 : decode cX9_seeds 48 = .ok (.ireturn, 1) := by decide +kernel
theorem dX9_store_0 : decode cX9_store 0 = .ok (.aload_n 0, 1) := by decide +kernel
theorem dX9_store_1 : decode cX9_store 1 = .ok (.invokevirtual 33, 3) := by decide +kernel
theorem dX9_store_4 : decode cX9_store 4 = .ok (.aload_n 0, 1) := by decide +kernel
theorem dX9_store_5 : decode cX9_store 5 = .ok (.invokevirtual 168, 3) := by decide +kernel
theorem dX9_store_8 : decode cX9_store 8 = .ok (.ifCond .ne 26, 3) := by decide +kernel
theorem dX9_store_11 : decode cX9_store 11 = .ok (.aload_n 0, 1) := by decide +kernel
theorem dX9_store_12 : decode cX9_store 12 = .ok (.iload_n 1, 1) := by decide +kernel
theorem dX9_store_13 : decode cX9_store 13 = .ok (.i2l, 1) := by decide +kernel
theorem dX9_store_14 : decode cX9_store 14 = .ok (.lconst 0, 1) := by decide +kernel
theorem dX9_store_15 : decode cX9_store 15 = .ok (.lconst 1, 1) := by decide +kernel
theorem dX9_store_16 : decode cX9_store 16 = .ok (.invokestatic 29, 3) := by decide +kernel
theorem dX9_store_19 : decode cX9_store 19 = .ok (.ifCond .ne 7, 3) := by decide +kernel
theorem dX9_store_22 : decode cX9_store 22 = .ok (.iconst 1, 1) := by decide +kernel
theorem dX9_store_23 : decode cX9_store 23 = .ok (.goto 4, 3) := by decide +kernel
theorem dX9_store_26 : decode cX9_store 26 = .ok (.iconst 0, 1) := by decide +kernel
theorem dX9_store_27 : decode cX9_store 27 = .ok (.iconst 2, 1) := by decide +kernel
theorem dX9_store_28 : decode cX9_store 28 = .ok (.invokevirtual 50, 3) := by decide +kernel
theorem dX9_store_31 : decode cX9_store 31 = .ok (.ifCond .eq 7, 3) := by decide +kernel
theorem dX9_store_34 : decode cX9_store 34 = .ok (.iconst (-1), 1) := by decide +kernel
theorem dX9_store_35 : decode cX9_store 35 = .ok (.goto 15, 3) := by decide +kernel
theorem dX9_store_38 : decode cX9_store 38 = .ok (.aload_n 0, 1) := by decide +kernel
theorem dX9_store_39 : decode cX9_store 39 = .ok (.getfield 106, 3) := by decide +kernel
theorem dX9_store_42 : decode cX9_store 42 = .ok (.getfield 110, 3) := by decide +kernel
theorem dX9_store_45 : decode cX9_store 45 = .ok (.getfield 171, 3) := by decide +kernel
theorem dX9_store_48 : decode cX9_store 48 = .ok (.iload_n 1, 1) := by decide +kernel
theorem dX9_store_49 : decode cX9_store 49 = .ok (.iaload, 1) := by decide +kernel
theorem dX9_store_50 : decode cX9_store 50 = .ok (.ireturn, 1) := by decide +kernel
theorem dX9_turn_0 : decode cX9_turn 0 = .ok (.aload_n 0, 1) := by decide +kernel
theorem dX9_turn_1 : decode cX9_turn 1 = .ok (.invokevirtual 33, 3) := by decide +kernel
theorem dX9_turn_4 : decode cX9_turn 4 = .ok (.aload_n 0, 1) := by decide +kernel
theorem dX9_turn_5 : decode cX9_turn 5 = .ok (.invokevirtual 128, 3) := by decide +kernel
theorem dX9_turn_8 : decode cX9_turn 8 = .ok (.ifCond .eq 7, 3) := by decide +kernel
theorem dX9_turn_11 : decode cX9_turn 11 = .ok (.iconst (-1), 1) := by decide +kernel
theorem dX9_turn_12 : decode cX9_turn 12 = .ok (.goto 13, 3) := by decide +kernel
theorem dX9_turn_15 : decode cX9_turn 15 = .ok (.aload_n 0, 1) := by decide +kernel
theorem dX9_turn_16 : decode cX9_turn 16 = .ok (.getfield 106, 3) := by decide +kernel
theorem dX9_turn_19 : decode cX9_turn 19 = .ok (.getfield 110, 3) := by decide +kernel
theorem dX9_turn_22 : decode cX9_turn 22 = .ok (.getfield 174, 3) := by decide +kernel
theorem dX9_turn_25 : decode cX9_turn 25 = .ok (.ireturn, 1) := by decide +kernel
theorem dX9_isOver_0 : decode cX9_isOver 0 = .ok (.aload_n 0, 1) := by decide +kernel
theorem dX9_isOver_1 : decode cX9_isOver 1 = .ok (.invokevirtual 33, 3) := by decide +kernel
theorem dX9_isOver_4 : decode cX9_isOver 4 = .ok (.aload_n 0, 1) := by decide +kernel
theorem dX9_isOver_5 : decode cX9_isOver 5 = .ok (.invokevirtual 168, 3) := by decide +kernel
theorem dX9_isOver_8 : decode cX9_isOver 8 = .ok (.ifCond .ne 20, 3) := by decide +kernel
theorem dX9_isOver_11 : decode cX9_isOver 11 = .ok (.aload_n 0, 1) := by decide +kernel
theorem dX9_isOver_12 : decode cX9_isOver 12 = .ok (.getfield 106, 3) := by decide +kernel
theorem dX9_isOver_15 : decode cX9_isOver 15 = .ok (.getfield 110, 3) := by decide +kernel
theorem dX9_isOver_18 : decode cX9_isOver 18 = .ok (.getfield 116, 3) := by decide +kernel
theorem dX9_isOver_21 : decode cX9_isOver 21 = .ok (.ifCond .eq 7, 3) := by decide +kernel
theorem dX9_isOver_24 : decode cX9_isOver 24 = .ok (.iconst 1, 1) := by decide +kernel
theorem dX9_isOver_25 : decode cX9_isOver 25 = .ok (.goto 4, 3) := by decide +kernel
theorem dX9_isOver_28 : decode cX9_isOver 28 = .ok (.iconst 0, 1) := by decide +kernel
theorem dX9_isOver_29 : decode cX9_isOver 29 = .ok (.ireturn, 1) := by decide +kernel
theorem dX9_winner_0 : decode cX9_winner 0 = .ok (.aload_n 0, 1) := by decide +kernel
theorem dX9_winner_1 : decode cX9_winner 1 = .ok (.invokevirtual 33, 3) := by decide +kernel
theorem dX9_winner_4 : decode cX9_winner 4 = .ok (.aload_n 0, 1) := by decide +kernel
theorem dX9_winner_5 : decode cX9_winner 5 = .ok (.invokevirtual 168, 3) := by decide +kernel
theorem dX9_winner_8 : decode cX9_winner 8 = .ok (.ifCond .ne 29, 3) := by decide +kernel
theorem dX9_winner_11 : decode cX9_winner 11 = .ok (.aload_n 0, 1) := by decide +kernel
theorem dX9_winner_12 : decode cX9_winner 12 = .ok (.aload_n 0, 1) := by decide +kernel
theorem dX9_winner_13 : decode cX9_winner 13 = .ok (.getfield 106, 3) := by decide +kernel
theorem dX9_winner_16 : decode cX9_winner 16 = .ok (.getfield 110, 3) := by decide +kernel
theorem dX9_winner_19 : decode cX9_winner 19 = .ok (.getfield 116, 3) := by decide +kernel
theorem dX9_winner_22 : decode cX9_winner 22 = .ok (.ifCond .ne 7, 3) := by decide +kernel
theorem dX9_winner_25 : decode cX9_winner 25 = .ok (.iconst 1, 1) := by decide +kernel
theorem dX9_winner_26 : decode cX9_winner 26 = .ok (.goto 4, 3) := by decide +kernel
theorem dX9_winner_29 : decode cX9_winner 29 = .ok (.iconst 0, 1) := by decide +kernel
theorem dX9_winner_30 : decode cX9_winner 30 = .ok (.iconst 2, 1) := by decide +kernel
theorem dX9_winner_31 : decode cX9_winner 31 = .ok (.invokevirtual 50, 3) := by decide +kernel
theorem dX9_winner_34 : decode cX9_winner 34 = .ok (.ifCond .eq 5, 3) := by decide +kernel
theorem dX9_winner_37 : decode cX9_winner 37 = .ok (.iconst (-1), 1) := by decide +kernel
theorem dX9_winner_38 : decode cX9_winner 38 = .ok (.ireturn, 1) := by decide +kernel
theorem dX9_winner_39 : decode cX9_winner 39 = .ok (.aload_n 0, 1) := by decide +kernel
theorem dX9_winner_40 : decode cX9_winner 40 = .ok (.getfield 106, 3) := by decide +kernel
theorem dX9_winner_43 : decode cX9_winner 43 = .ok (.getfield 110, 3) := by decide +kernel
theorem dX9_winner_46 : decode cX9_winner 46 = .ok (.getfield 171, 3) := by decide +kernel
theorem dX9_winner_49 : decode cX9_winner 49 = .ok (.iconst 0, 1) := by decide +kernel
theorem dX9_winner_50 : decode cX9_winner 50 = .ok (.iaload, 1) := by decide +kernel
theorem dX9_winner_51 : decode cX9_winner 51 = .ok (.aload_n 0, 1) := by decide +kernel
theorem dX9_winner_52 : decode cX9_winner 52 = .ok (.getfield 106, 3) := by decide +kernel
theorem dX9_winner_55 : decode cX9_winner 55 = .ok (.getfield 110, 3) := by decide +kernel
theorem dX9_winner_58 : decode cX9_winner 58 = .ok (.getfield 171, 3) := by decide +kernel
theorem dX9_winner_61 : decode cX9_winner 61 = .ok (.iconst 1, 1) := by decide +kernel
theorem dX9_winner_62 : decode cX9_winner 62 = .ok (.iaload, 1) := by decide +kernel
theorem dX9_winner_63 : decode cX9_winner 63 = .ok (.isub, 1) := by decide +kernel
theorem dX9_winner_64 : decode cX9_winner 64 = .ok (.istore_n 1, 1) := by decide +kernel
theorem dX9_winner_65 : decode cX9_winner 65 = .ok (.iload_n 1, 1) := by decide +kernel
theorem dX9_winner_66 : decode cX9_winner 66 = .ok (.ifCond .le 7, 3) := by decide +kernel
theorem dX9_winner_69 : decode cX9_winner 69 = .ok (.iconst 0, 1) := by decide +kernel
theorem dX9_winner_70 : decode cX9_winner 70 = .ok (.goto 12, 3) := by decide +kernel
theorem dX9_winner_73 : decode cX9_winner 73 = .ok (.iload_n 1, 1) := by decide +kernel
theorem dX9_winner_74 : decode cX9_winner 74 = .ok (.ifCond .ge 7, 3) := by decide +kernel
theorem dX9_winner_77 : decode cX9_winner 77 = .ok (.iconst 1, 1) := by decide +kernel
theorem dX9_winner_78 : decode cX9_winner 78 = .ok (.goto 4, 3) := by decide +kernel
theorem dX9_winner_81 : decode cX9_winner 81 = .ok (.iconst (-1), 1) := by decide +kernel
theorem dX9_winner_82 : decode cX9_winner 82 = .ok (.ireturn, 1) := by decide +kernel
theorem dX9_laps_0 : decode cX9_laps 0 = .ok (.aload_n 0, 1) := by decide +kernel
theorem dX9_laps_1 : decode cX9_laps 1 = .ok (.invokevirtual 33, 3) := by decide +kernel
theorem dX9_laps_4 : decode cX9_laps 4 = .ok (.aload_n 0, 1) := by decide +kernel
theorem dX9_laps_5 : decode cX9_laps 5 = .ok (.invokevirtual 168, 3) := by decide +kernel
theorem dX9_laps_8 : decode cX9_laps 8 = .ok (.ifCond .ne 32, 3) := by decide +kernel
theorem dX9_laps_11 : decode cX9_laps 11 = .ok (.aload_n 0, 1) := by decide +kernel
theorem dX9_laps_12 : decode cX9_laps 12 = .ok (.aload_n 0, 1) := by decide +kernel
theorem dX9_laps_13 : decode cX9_laps 13 = .ok (.getfield 106, 3) := by decide +kernel
theorem dX9_laps_16 : decode cX9_laps 16 = .ok (.getfield 159, 3) := by decide +kernel
theorem dX9_laps_19 : decode cX9_laps 19 = .ok (.invokeinterface 23 1, 5) := by decide +kernel
theorem dX9_laps_24 : decode cX9_laps 24 = .ok (.iconst 1, 1) := by decide +kernel
theorem dX9_laps_25 : decode cX9_laps 25 = .ok (.if_icmp .ne 7, 3) := by decide +kernel
theorem dX9_laps_28 : decode cX9_laps 28 = .ok (.iconst 1, 1) := by decide +kernel
theorem dX9_laps_29 : decode cX9_laps 29 = .ok (.goto 4, 3) := by decide +kernel
theorem dX9_laps_32 : decode cX9_laps 32 = .ok (.iconst 0, 1) := by decide +kernel
theorem dX9_laps_33 : decode cX9_laps 33 = .ok (.iconst 2, 1) := by decide +kernel
theorem dX9_laps_34 : decode cX9_laps 34 = .ok (.invokevirtual 50, 3) := by decide +kernel
theorem dX9_laps_37 : decode cX9_laps 37 = .ok (.ifCond .eq 7, 3) := by decide +kernel
theorem dX9_laps_40 : decode cX9_laps 40 = .ok (.iconst (-1), 1) := by decide +kernel
theorem dX9_laps_41 : decode cX9_laps 41 = .ok (.goto 13, 3) := by decide +kernel
theorem dX9_laps_44 : decode cX9_laps 44 = .ok (.aload_n 0, 1) := by decide +kernel
theorem dX9_laps_45 : decode cX9_laps 45 = .ok (.getfield 106, 3) := by decide +kernel
theorem dX9_laps_48 : decode cX9_laps 48 = .ok (.invokevirtual 152, 3) := by decide +kernel
theorem dX9_laps_51 : decode cX9_laps 51 = .ok (.getfield 177, 3) := by decide +kernel
theorem dX9_laps_54 : decode cX9_laps 54 = .ok (.ireturn, 1) := by decide +kernel
theorem dX9_length_0 : decode cX9_length 0 = .ok (.aload_n 0, 1) := by decide +kernel
theorem dX9_length_1 : decode cX9_length 1 = .ok (.invokevirtual 33, 3) := by decide +kernel
theorem dX9_length_4 : decode cX9_length 4 = .ok (.aload_n 0, 1) := by decide +kernel
theorem dX9_length_5 : decode cX9_length 5 = .ok (.invokevirtual 168, 3) := by decide +kernel
theorem dX9_length_8 : decode cX9_length 8 = .ok (.ifCond .eq 7, 3) := by decide +kernel
theorem dX9_length_11 : decode cX9_length 11 = .ok (.iconst (-1), 1) := by decide +kernel
theorem dX9_length_12 : decode cX9_length 12 = .ok (.goto 17, 3) := by decide +kernel
theorem dX9_length_15 : decode cX9_length 15 = .ok (.aload_n 0, 1) := by decide +kernel
theorem dX9_length_16 : decode cX9_length 16 = .ok (.getfield 106, 3) := by decide +kernel
theorem dX9_length_19 : decode cX9_length 19 = .ok (.getfield 159, 3) := by decide +kernel
theorem dX9_length_22 : decode cX9_length 22 = .ok (.invokeinterface 23 1, 5) := by decide +kernel
theorem dX9_length_27 : decode cX9_length 27 = .ok (.iconst 1, 1) := by decide +kernel
theorem dX9_length_28 : decode cX9_length 28 = .ok (.isub, 1) := by decide +kernel
theorem dX9_length_29 : decode cX9_length 29 = .ok (.ireturn, 1) := by decide +kernel
theorem dX9_times_0 : decode cX9_times 0 = .ok (.aload_n 0, 1) := by decide +kernel
theorem dX9_times_1 : decode cX9_times 1 = .ok (.invokevirtual 33, 3) := by decide +kernel
theorem dX9_times_4 : decode cX9_times 4 = .ok (.aload_n 0, 1) := by decide +kernel
theorem dX9_times_5 : decode cX9_times 5 = .ok (.invokevirtual 168, 3) := by decide +kernel
theorem dX9_times_8 : decode cX9_times 8 = .ok (.ifCond .eq 7, 3) := by decide +kernel
theorem dX9_times_11 : decode cX9_times 11 = .ok (.iconst (-1), 1) := by decide +kernel
theorem dX9_times_12 : decode cX9_times 12 = .ok (.goto 10, 3) := by decide +kernel
theorem dX9_times_15 : decode cX9_times 15 = .ok (.aload_n 0, 1) := by decide +kernel
theorem dX9_times_16 : decode cX9_times 16 = .ok (.getfield 106, 3) := by decide +kernel
theorem dX9_times_19 : decode cX9_times 19 = .ok (.invokevirtual 180, 3) := by decide +kernel
theorem dX9_times_22 : decode cX9_times 22 = .ok (.ireturn, 1) := by decide +kernel
theorem dX9_rows_0 : decode cX9_rows 0 = .ok (.iload_n 0, 1) := by decide +kernel
theorem dX9_rows_1 : decode cX9_rows 1 = .ok (.ifCond .ne 13, 3) := by decide +kernel
theorem dX9_rows_4 : decode cX9_rows 4 = .ok (.iload_n 1, 1) := by decide +kernel
theorem dX9_rows_5 : decode cX9_rows 5 = .ok (.ifCond .ne 7, 3) := by decide +kernel
theorem dX9_rows_8 : decode cX9_rows 8 = .ok (.lconst 1, 1) := by decide +kernel
theorem dX9_rows_9 : decode cX9_rows 9 = .ok (.goto 4, 3) := by decide +kernel
theorem dX9_rows_12 : decode cX9_rows 12 = .ok (.lconst 0, 1) := by decide +kernel
theorem dX9_rows_13 : decode cX9_rows 13 = .ok (.lreturn, 1) := by decide +kernel
theorem dX9_rows_14 : decode cX9_rows 14 = .ok (.lconst 1, 1) := by decide +kernel
theorem dX9_rows_15 : decode cX9_rows 15 = .ok (.lstore_n 2, 1) := by decide +kernel
theorem dX9_rows_16 : decode cX9_rows 16 = .ok (.iconst 1, 1) := by decide +kernel
theorem dX9_rows_17 : decode cX9_rows 17 = .ok (.istore 4, 2) := by decide +kernel
theorem dX9_rows_19 : decode cX9_rows 19 = .ok (.iload 4, 2) := by decide +kernel
theorem dX9_rows_21 : decode cX9_rows 21 = .ok (.iload_n 0, 1) := by decide +kernel
theorem dX9_rows_22 : decode cX9_rows 22 = .ok (.if_icmp .ge 21, 3) := by decide +kernel
theorem dX9_rows_25 : decode cX9_rows 25 = .ok (.lload_n 2, 1) := by decide +kernel
theorem dX9_rows_26 : decode cX9_rows 26 = .ok (.iload_n 1, 1) := by decide +kernel
theorem dX9_rows_27 : decode cX9_rows 27 = .ok (.iload 4, 2) := by decide +kernel
theorem dX9_rows_29 : decode cX9_rows 29 = .ok (.iadd, 1) := by decide +kernel
theorem dX9_rows_30 : decode cX9_rows 30 = .ok (.i2l, 1) := by decide +kernel
theorem dX9_rows_31 : decode cX9_rows 31 = .ok (.lmul, 1) := by decide +kernel
theorem dX9_rows_32 : decode cX9_rows 32 = .ok (.iload 4, 2) := by decide +kernel
theorem dX9_rows_34 : decode cX9_rows 34 = .ok (.i2l, 1) := by decide +kernel
theorem dX9_rows_35 : decode cX9_rows 35 = .ok (.ldiv, 1) := by decide +kernel
theorem dX9_rows_36 : decode cX9_rows 36 = .ok (.lstore_n 2, 1) := by decide +kernel
theorem dX9_rows_37 : decode cX9_rows 37 = .ok (.iinc 4 1, 3) := by decide +kernel
theorem dX9_rows_40 : decode cX9_rows 40 = .ok (.goto (-21), 3) := by decide +kernel
theorem dX9_rows_43 : decode cX9_rows 43 = .ok (.lload_n 2, 1) := by decide +kernel
theorem dX9_rows_44 : decode cX9_rows 44 = .ok (.lreturn, 1) := by decide +kernel
theorem dX9_many_0 : decode cX9_many 0 = .ok (.aload_n 0, 1) := by decide +kernel
theorem dX9_many_1 : decode cX9_many 1 = .ok (.invokevirtual 33, 3) := by decide +kernel
theorem dX9_many_4 : decode cX9_many 4 = .ok (.aload_n 0, 1) := by decide +kernel
theorem dX9_many_5 : decode cX9_many 5 = .ok (.iload_n 1, 1) := by decide +kernel
theorem dX9_many_6 : decode cX9_many 6 = .ok (.i2l, 1) := by decide +kernel
theorem dX9_many_7 : decode cX9_many 7 = .ok (.lconst 1, 1) := by decide +kernel
theorem dX9_many_8 : decode cX9_many 8 = .ok (.ldc2_w 183, 3) := by decide +kernel
theorem dX9_many_11 : decode cX9_many 11 = .ok (.invokestatic 29, 3) := by decide +kernel
theorem dX9_many_14 : decode cX9_many 14 = .ok (.ifCond .eq 15, 3) := by decide +kernel
theorem dX9_many_17 : decode cX9_many 17 = .ok (.iload_n 2, 1) := by decide +kernel
theorem dX9_many_18 : decode cX9_many 18 = .ok (.i2l, 1) := by decide +kernel
theorem dX9_many_19 : decode cX9_many 19 = .ok (.lconst 0, 1) := by decide +kernel
theorem dX9_many_20 : decode cX9_many 20 = .ok (.ldc2_w 185, 3) := by decide +kernel
theorem dX9_many_23 : decode cX9_many 23 = .ok (.invokestatic 29, 3) := by decide +kernel
theorem dX9_many_26 : decode cX9_many 26 = .ok (.ifCond .ne 7, 3) := by decide +kernel
theorem dX9_many_29 : decode cX9_many 29 = .ok (.iconst 1, 1) := by decide +kernel
theorem dX9_many_30 : decode cX9_many 30 = .ok (.goto 4, 3) := by decide +kernel
theorem dX9_many_33 : decode cX9_many 33 = .ok (.iconst 0, 1) := by decide +kernel
theorem dX9_many_34 : decode cX9_many 34 = .ok (.iconst 1, 1) := by decide +kernel
theorem dX9_many_35 : decode cX9_many 35 = .ok (.invokevirtual 50, 3) := by decide +kernel
theorem dX9_many_38 : decode cX9_many 38 = .ok (.ifCond .eq 9, 3) := by decide +kernel
theorem dX9_many_41 : decode cX9_many 41 = .ok (.ldc2_w 187, 3) := by decide +kernel
theorem dX9_many_44 : decode cX9_many 44 = .ok (.goto 8, 3) := by decide +kernel
theorem dX9_many_47 : decode cX9_many 47 = .ok (.iload_n 1, 1) := by decide +kernel
theorem dX9_many_48 : decode cX9_many 48 = .ok (.iload_n 2, 1) := by decide +kernel
theorem dX9_many_49 : decode cX9_many 49 = .ok (.invokestatic 189, 3) := by decide +kernel
theorem dX9_many_52 : decode cX9_many 52 = .ok (.lreturn, 1) := by decide +kernel
theorem dX9_number_0 : decode cX9_number 0 = .ok (.aload_n 0, 1) := by decide +kernel
theorem dX9_number_1 : decode cX9_number 1 = .ok (.invokevirtual 33, 3) := by decide +kernel
theorem dX9_number_4 : decode cX9_number 4 = .ok (.aload_n 0, 1) := by decide +kernel
theorem dX9_number_5 : decode cX9_number 5 = .ok (.invokevirtual 168, 3) := by decide +kernel
theorem dX9_number_8 : decode cX9_number 8 = .ok (.ifCond .eq 7, 3) := by decide +kernel
theorem dX9_number_11 : decode cX9_number 11 = .ok (.ldc2_w 187, 3) := by decide +kernel
theorem dX9_number_14 : decode cX9_number 14 = .ok (.lreturn, 1) := by decide +kernel
theorem dX9_number_15 : decode cX9_number 15 = .ok (.aload_n 0, 1) := by decide +kernel
theorem dX9_number_16 : decode cX9_number 16 = .ok (.getfield 106, 3) := by decide +kernel
theorem dX9_number_19 : decode cX9_number 19 = .ok (.getfield 110, 3) := by decide +kernel
theorem dX9_number_22 : decode cX9_number 22 = .ok (.getfield 122, 3) := by decide +kernel
theorem dX9_number_25 : decode cX9_number 25 = .ok (.astore_n 1, 1) := by decide +kernel
theorem dX9_number_26 : decode cX9_number 26 = .ok (.aload_n 0, 1) := by decide +kernel
theorem dX9_number_27 : decode cX9_number 27 = .ok (.getfield 106, 3) := by decide +kernel
theorem dX9_number_30 : decode cX9_number 30 = .ok (.getfield 110, 3) := by decide +kernel
theorem dX9_number_33 : decode cX9_number 33 = .ok (.iconst 0, 1) := by decide +kernel
theorem dX9_number_34 : decode cX9_number 34 = .ok (.invokevirtual 141, 3) := by decide +kernel
theorem dX9_number_37 : decode cX9_number 37 = .ok (.aload_n 0, 1) := by decide +kernel
theorem dX9_number_38 : decode cX9_number 38 = .ok (.getfield 106, 3) := by decide +kernel
theorem dX9_number_41 : decode cX9_number 41 = .ok (.getfield 110, 3) := by decide +kernel
theorem dX9_number_44 : decode cX9_number 44 = .ok (.iconst 1, 1) := by decide +kernel
theorem dX9_number_45 : decode cX9_number 45 = .ok (.invokevirtual 141, 3) := by decide +kernel
theorem dX9_number_48 : decode cX9_number 48 = .ok (.iadd, 1) := by decide +kernel
theorem dX9_number_49 : decode cX9_number 49 = .ok (.istore_n 2, 1) := by decide +kernel
theorem dX9_number_50 : decode cX9_number 50 = .ok (.lconst 0, 1) := by decide +kernel
theorem dX9_number_51 : decode cX9_number 51 = .ok (.lstore_n 3, 1) := by decide +kernel
theorem dX9_number_52 : decode cX9_number 52 = .ok (.iconst 0, 1) := by decide +kernel
theorem dX9_number_53 : decode cX9_number 53 = .ok (.istore 5, 2) := by decide +kernel
theorem dX9_number_55 : decode cX9_number 55 = .ok (.iload 5, 2) := by decide +kernel
theorem dX9_number_57 : decode cX9_number 57 = .ok (.aload_n 1, 1) := by decide +kernel
theorem dX9_number_58 : decode cX9_number 58 = .ok (.arraylength, 1) := by decide +kernel
theorem dX9_number_59 : decode cX9_number 59 = .ok (.if_icmp .ge 51, 3) := by decide +kernel
theorem dX9_number_62 : decode cX9_number 62 = .ok (.iconst 0, 1) := by decide +kernel
theorem dX9_number_63 : decode cX9_number 63 = .ok (.istore 6, 2) := by decide +kernel
theorem dX9_number_65 : decode cX9_number 65 = .ok (.iload 6, 2) := by decide +kernel
theorem dX9_number_67 : decode cX9_number 67 = .ok (.aload_n 1, 1) := by decide +kernel
theorem dX9_number_68 : decode cX9_number 68 = .ok (.iload 5, 2) := by decide +kernel
theorem dX9_number_70 : decode cX9_number 70 = .ok (.iaload, 1) := by decide +kernel
theorem dX9_number_71 : decode cX9_number 71 = .ok (.if_icmp .ge 26, 3) := by decide +kernel
theorem dX9_number_74 : decode cX9_number 74 = .ok (.lload_n 3, 1) := by decide +kernel
theorem dX9_number_75 : decode cX9_number 75 = .ok (.aload_n 1, 1) := by decide +kernel
theorem dX9_number_76 : decode cX9_number 76 = .ok (.arraylength, 1) := by decide +kernel
theorem dX9_number_77 : decode cX9_number 77 = .ok (.iconst 1, 1) := by decide +kernel
theorem dX9_number_78 : decode cX9_number 78 = .ok (.isub, 1) := by decide +kernel
theorem dX9_number_79 : decode cX9_number 79 = .ok (.iload 5, 2) := by decide +kernel
theorem dX9_number_81 : decode cX9_number 81 = .ok (.isub, 1) := by decide +kernel
theorem dX9_number_82 : decode cX9_number 82 = .ok (.iload_n 2, 1) := by decide +kernel
theorem dX9_number_83 : decode cX9_number 83 = .ok (.iload 6, 2) := by decide +kernel
theorem dX9_number_85 : decode cX9_number 85 = .ok (.isub, 1) := by decide +kernel
theorem dX9_number_86 : decode cX9_number 86 = .ok (.invokestatic 189, 3) := by decide +kernel
theorem dX9_number_89 : decode cX9_number 89 = .ok (.ladd, 1) := by decide +kernel
theorem dX9_number_90 : decode cX9_number 90 = .ok (.lstore_n 3, 1) := by decide +kernel
theorem dX9_number_91 : decode cX9_number 91 = .ok (.iinc 6 1, 3) := by decide +kernel
theorem dX9_number_94 : decode cX9_number 94 = .ok (.goto (-29), 3) := by decide +kernel
theorem dX9_number_97 : decode cX9_number 97 = .ok (.iload_n 2, 1) := by decide +kernel
theorem dX9_number_98 : decode cX9_number 98 = .ok (.aload_n 1, 1) := by decide +kernel
theorem dX9_number_99 : decode cX9_number 99 = .ok (.iload 5, 2) := by decide +kernel
theorem dX9_number_101 : decode cX9_number 101 = .ok (.iaload, 1) := by decide +kernel
theorem dX9_number_102 : decode cX9_number 102 = .ok (.isub, 1) := by decide +kernel
theorem dX9_number_103 : decode cX9_number 103 = .ok (.istore_n 2, 1) := by decide +kernel
theorem dX9_number_104 : decode cX9_number 104 = .ok (.iinc 5 1, 3) := by decide +kernel
theorem dX9_number_107 : decode cX9_number 107 = .ok (.goto (-52), 3) := by decide +kernel
theorem dX9_number_110 : decode cX9_number 110 = .ok (.lload_n 3, 1) := by decide +kernel
theorem dX9_number_111 : decode cX9_number 111 = .ok (.lreturn, 1) := by decide +kernel
theorem dX9_inRow_0 : decode cX9_inRow 0 = .ok (.aload_n 0, 1) := by decide +kernel
theorem dX9_inRow_1 : decode cX9_inRow 1 = .ok (.invokevirtual 33, 3) := by decide +kernel
theorem dX9_inRow_4 : decode cX9_inRow 4 = .ok (.iload_n 1, 1) := by decide +kernel
theorem dX9_inRow_5 : decode cX9_inRow 5 = .ok (.i2l, 1) := by decide +kernel
theorem dX9_inRow_6 : decode cX9_inRow 6 = .ok (.lconst 1, 1) := by decide +kernel
theorem dX9_inRow_7 : decode cX9_inRow 7 = .ok (.ldc2_w 183, 3) := by decide +kernel
theorem dX9_inRow_10 : decode cX9_inRow 10 = .ok (.invokestatic 29, 3) := by decide +kernel
theorem dX9_inRow_13 : decode cX9_inRow 13 = .ok (.ifCond .eq 15, 3) := by decide +kernel
theorem dX9_inRow_16 : decode cX9_inRow 16 = .ok (.iload_n 2, 1) := by decide +kernel
theorem dX9_inRow_17 : decode cX9_inRow 17 = .ok (.i2l, 1) := by decide +kernel
theorem dX9_inRow_18 : decode cX9_inRow 18 = .ok (.lconst 0, 1) := by decide +kernel
theorem dX9_inRow_19 : decode cX9_inRow 19 = .ok (.ldc2_w 185, 3) := by decide +kernel
theorem dX9_inRow_22 : decode cX9_inRow 22 = .ok (.invokestatic 29, 3) := by decide +kernel
theorem dX9_inRow_25 : decode cX9_inRow 25 = .ok (.ifCond .ne 7, 3) := by decide +kernel
theorem dX9_inRow_28 : decode cX9_inRow 28 = .ok (.iconst 1, 1) := by decide +kernel
theorem dX9_inRow_29 : decode cX9_inRow 29 = .ok (.goto 4, 3) := by decide +kernel
theorem dX9_inRow_32 : decode cX9_inRow 32 = .ok (.iconst 0, 1) := by decide +kernel
theorem dX9_inRow_33 : decode cX9_inRow 33 = .ok (.istore 6, 2) := by decide +kernel
theorem dX9_inRow_35 : decode cX9_inRow 35 = .ok (.aload_n 0, 1) := by decide +kernel
theorem dX9_inRow_36 : decode cX9_inRow 36 = .ok (.iload 6, 2) := by decide +kernel
theorem dX9_inRow_38 : decode cX9_inRow 38 = .ok (.ifCond .ne 18, 3) := by decide +kernel
theorem dX9_inRow_41 : decode cX9_inRow 41 = .ok (.lload_n 3, 1) := by decide +kernel
theorem dX9_inRow_42 : decode cX9_inRow 42 = .ok (.lconst 0, 1) := by decide +kernel
theorem dX9_inRow_43 : decode cX9_inRow 43 = .ok (.iload_n 1, 1) := by decide +kernel
theorem dX9_inRow_44 : decode cX9_inRow 44 = .ok (.iload_n 2, 1) := by decide +kernel
theorem dX9_inRow_45 : decode cX9_inRow 45 = .ok (.invokestatic 189, 3) := by decide +kernel
theorem dX9_inRow_48 : decode cX9_inRow 48 = .ok (.lconst 1, 1) := by decide +kernel
theorem dX9_inRow_49 : decode cX9_inRow 49 = .ok (.lsub, 1) := by decide +kernel
theorem dX9_inRow_50 : decode cX9_inRow 50 = .ok (.invokestatic 29, 3) := by decide +kernel
theorem dX9_inRow_53 : decode cX9_inRow 53 = .ok (.ifCond .ne 7, 3) := by decide +kernel
theorem dX9_inRow_56 : decode cX9_inRow 56 = .ok (.iconst 1, 1) := by decide +kernel
theorem dX9_inRow_57 : decode cX9_inRow 57 = .ok (.goto 4, 3) := by decide +kernel
theorem dX9_inRow_60 : decode cX9_inRow 60 = .ok (.iconst 0, 1) := by decide +kernel
theorem dX9_inRow_61 : decode cX9_inRow 61 = .ok (.iconst 1, 1) := by decide +kernel
theorem dX9_inRow_62 : decode cX9_inRow 62 = .ok (.invokevirtual 50, 3) := by decide +kernel
theorem dX9_inRow_65 : decode cX9_inRow 65 = .ok (.ifCond .ne 30, 3) := by decide +kernel
theorem dX9_inRow_68 : decode cX9_inRow 68 = .ok (.aload_n 0, 1) := by decide +kernel
theorem dX9_inRow_69 : decode cX9_inRow 69 = .ok (.iload 5, 2) := by decide +kernel
theorem dX9_inRow_71 : decode cX9_inRow 71 = .ok (.i2l, 1) := by decide +kernel
theorem dX9_inRow_72 : decode cX9_inRow 72 = .ok (.lconst 0, 1) := by decide +kernel
theorem dX9_inRow_73 : decode cX9_inRow 73 = .ok (.iload_n 1, 1) := by decide +kernel
theorem dX9_inRow_74 : decode cX9_inRow 74 = .ok (.iconst 1, 1) := by decide +kernel
theorem dX9_inRow_75 : decode cX9_inRow 75 = .ok (.isub, 1) := by decide +kernel
theorem dX9_inRow_76 : decode cX9_inRow 76 = .ok (.i2l, 1) := by decide +kernel
theorem dX9_inRow_77 : decode cX9_inRow 77 = .ok (.invokestatic 29, 3) := by decide +kernel
theorem dX9_inRow_80 : decode cX9_inRow 80 = .ok (.ifCond .ne 7, 3) := by decide +kernel
theorem dX9_inRow_83 : decode cX9_inRow 83 = .ok (.iconst 1, 1) := by decide +kernel
theorem dX9_inRow_84 : decode cX9_inRow 84 = .ok (.goto 4, 3) := by decide +kernel
theorem dX9_inRow_87 : decode cX9_inRow 87 = .ok (.iconst 0, 1) := by decide +kernel
theorem dX9_inRow_88 : decode cX9_inRow 88 = .ok (.iconst 2, 1) := by decide +kernel
theorem dX9_inRow_89 : decode cX9_inRow 89 = .ok (.invokevirtual 50, 3) := by decide +kernel
theorem dX9_inRow_92 : decode cX9_inRow 92 = .ok (.ifCond .eq 5, 3) := by decide +kernel
theorem dX9_inRow_95 : decode cX9_inRow 95 = .ok (.iconst (-1), 1) := by decide +kernel
theorem dX9_inRow_96 : decode cX9_inRow 96 = .ok (.ireturn, 1) := by decide +kernel
theorem dX9_inRow_97 : decode cX9_inRow 97 = .ok (.lload_n 3, 1) := by decide +kernel
theorem dX9_inRow_98 : decode cX9_inRow 98 = .ok (.lstore 7, 2) := by decide +kernel
theorem dX9_inRow_100 : decode cX9_inRow 100 = .ok (.iload_n 2, 1) := by decide +kernel
theorem dX9_inRow_101 : decode cX9_inRow 101 = .ok (.istore 9, 2) := by decide +kernel
theorem dX9_inRow_103 : decode cX9_inRow 103 = .ok (.iconst 0, 1) := by decide +kernel
theorem dX9_inRow_104 : decode cX9_inRow 104 = .ok (.istore 10, 2) := by decide +kernel
theorem dX9_inRow_106 : decode cX9_inRow 106 = .ok (.iconst 0, 1) := by decide +kernel
theorem dX9_inRow_107 : decode cX9_inRow 107 = .ok (.istore 11, 2) := by decide +kernel
theorem dX9_inRow_109 : decode cX9_inRow 109 = .ok (.iload 11, 2) := by decide +kernel
theorem dX9_inRow_111 : decode cX9_inRow 111 = .ok (.iload 5, 2) := by decide +kernel
theorem dX9_inRow_113 : decode cX9_inRow 113 = .ok (.if_icmp .gt 64, 3) := by decide +kernel
theorem dX9_inRow_116 : decode cX9_inRow 116 = .ok (.iconst 0, 1) := by decide +kernel
theorem dX9_inRow_117 : decode cX9_inRow 117 = .ok (.istore 10, 2) := by decide +kernel
theorem dX9_inRow_119 : decode cX9_inRow 119 = .ok (.lload 7, 2) := by decide +kernel
theorem dX9_inRow_121 : decode cX9_inRow 121 = .ok (.iload_n 1, 1) := by decide +kernel
theorem dX9_inRow_122 : decode cX9_inRow 122 = .ok (.iconst 1, 1) := by decide +kernel
theorem dX9_inRow_123 : decode cX9_inRow 123 = .ok (.isub, 1) := by decide +kernel
theorem dX9_inRow_124 : decode cX9_inRow 124 = .ok (.iload 11, 2) := by decide +kernel
theorem dX9_inRow_126 : decode cX9_inRow 126 = .ok (.isub, 1) := by decide +kernel
theorem dX9_inRow_127 : decode cX9_inRow 127 = .ok (.iload 9, 2) := by decide +kernel
theorem dX9_inRow_129 : decode cX9_inRow 129 = .ok (.iload 10, 2) := by decide +kernel
theorem dX9_inRow_131 : decode cX9_inRow 131 = .ok (.isub, 1) := by decide +kernel
theorem dX9_inRow_132 : decode cX9_inRow 132 = .ok (.invokestatic 189, 3) := by decide +kernel
theorem dX9_inRow_135 : decode cX9_inRow 135 = .ok (.lcmp, 1) := by decide +kernel
theorem dX9_inRow_136 : decode cX9_inRow 136 = .ok (.ifCond .lt 28, 3) := by decide +kernel
theorem dX9_inRow_139 : decode cX9_inRow 139 = .ok (.lload 7, 2) := by decide +kernel
theorem dX9_inRow_141 : decode cX9_inRow 141 = .ok (.iload_n 1, 1) := by decide +kernel
theorem dX9_inRow_142 : decode cX9_inRow 142 = .ok (.iconst 1, 1) := by decide +kernel
theorem dX9_inRow_143 : decode cX9_inRow 143 = .ok (.isub, 1) := by decide +kernel
theorem dX9_inRow_144 : decode cX9_inRow 144 = .ok (.iload 11, 2) := by decide +kernel
theorem dX9_inRow_146 : decode cX9_inRow 146 = .ok (.isub, 1) := by decide +kernel
theorem dX9_inRow_147 : decode cX9_inRow 147 = .ok (.iload 9, 2) := by decide +kernel
theorem dX9_inRow_149 : decode cX9_inRow 149 = .ok (.iload 10, 2) := by decide +kernel
theorem dX9_inRow_151 : decode cX9_inRow 151 = .ok (.isub, 1) := by decide +kernel
theorem dX9_inRow_152 : decode cX9_inRow 152 = .ok (.invokestatic 189, 3) := by decide +kernel
theorem dX9_inRow_155 : decode cX9_inRow 155 = .ok (.lsub, 1) := by decide +kernel
theorem dX9_inRow_156 : decode cX9_inRow 156 = .ok (.lstore 7, 2) := by decide +kernel
theorem dX9_inRow_158 : decode cX9_inRow 158 = .ok (.iinc 10 1, 3) := by decide +kernel
theorem dX9_inRow_161 : decode cX9_inRow 161 = .ok (.goto (-42), 3) := by decide +kernel
theorem dX9_inRow_164 : decode cX9_inRow 164 = .ok (.iload 9, 2) := by decide +kernel
theorem dX9_inRow_166 : decode cX9_inRow 166 = .ok (.iload 10, 2) := by decide +kernel
theorem dX9_inRow_168 : decode cX9_inRow 168 = .ok (.isub, 1) := by decide +kernel
theorem dX9_inRow_169 : decode cX9_inRow 169 = .ok (.istore 9, 2) := by decide +kernel
theorem dX9_inRow_171 : decode cX9_inRow 171 = .ok (.iinc 11 1, 3) := by decide +kernel
theorem dX9_inRow_174 : decode cX9_inRow 174 = .ok (.goto (-65), 3) := by decide +kernel
theorem dX9_inRow_177 : decode cX9_inRow 177 = .ok (.iload 10, 2) := by decide +kernel
theorem dX9_inRow_179 : decode cX9_inRow 179 = .ok (.ireturn, 1) := by decide +kernel
theorem dX9_value_0 : decode cX9_value 0 = .ok (.aload_n 0, 1) := by decide +kernel
theorem dX9_value_1 : decode cX9_value 1 = .ok (.invokevirtual 33, 3) := by decide +kernel
theorem dX9_value_4 : decode cX9_value 4 = .ok (.aload_n 0, 1) := by decide +kernel
theorem dX9_value_5 : decode cX9_value 5 = .ok (.invokevirtual 128, 3) := by decide +kernel
theorem dX9_value_8 : decode cX9_value 8 = .ok (.ifCond .ne 28, 3) := by decide +kernel
theorem dX9_value_11 : decode cX9_value 11 = .ok (.aload_n 0, 1) := by decide +kernel
theorem dX9_value_12 : decode cX9_value 12 = .ok (.iload_n 1, 1) := by decide +kernel
theorem dX9_value_13 : decode cX9_value 13 = .ok (.i2l, 1) := by decide +kernel
theorem dX9_value_14 : decode cX9_value 14 = .ok (.lconst 0, 1) := by decide +kernel
theorem dX9_value_15 : decode cX9_value 15 = .ok (.ldc2_w 38, 3) := by decide +kernel
theorem dX9_value_18 : decode cX9_value 18 = .ok (.invokestatic 29, 3) := by decide +kernel
theorem dX9_value_21 : decode cX9_value 21 = .ok (.ifCond .ne 7, 3) := by decide +kernel
theorem dX9_value_24 : decode cX9_value 24 = .ok (.iconst 1, 1) := by decide +kernel
theorem dX9_value_25 : decode cX9_value 25 = .ok (.goto 4, 3) := by decide +kernel
theorem dX9_value_28 : decode cX9_value 28 = .ok (.iconst 0, 1) := by decide +kernel
theorem dX9_value_29 : decode cX9_value 29 = .ok (.iconst 2, 1) := by decide +kernel
theorem dX9_value_30 : decode cX9_value 30 = .ok (.invokevirtual 50, 3) := by decide +kernel
theorem dX9_value_33 : decode cX9_value 33 = .ok (.ifCond .eq 7, 3) := by decide +kernel
theorem dX9_value_36 : decode cX9_value 36 = .ok (.iconst (-1), 1) := by decide +kernel
theorem dX9_value_37 : decode cX9_value 37 = .ok (.goto 14, 3) := by decide +kernel
theorem dX9_value_40 : decode cX9_value 40 = .ok (.aload_n 0, 1) := by decide +kernel
theorem dX9_value_41 : decode cX9_value 41 = .ok (.getfield 106, 3) := by decide +kernel
theorem dX9_value_44 : decode cX9_value 44 = .ok (.getfield 110, 3) := by decide +kernel
theorem dX9_value_47 : decode cX9_value 47 = .ok (.iload_n 1, 1) := by decide +kernel
theorem dX9_value_48 : decode cX9_value 48 = .ok (.invokestatic 219, 3) := by decide +kernel
theorem dX9_value_51 : decode cX9_value 51 = .ok (.ireturn, 1) := by decide +kernel
theorem dX9_best_0 : decode cX9_best 0 = .ok (.aload_n 0, 1) := by decide +kernel
theorem dX9_best_1 : decode cX9_best 1 = .ok (.invokevirtual 33, 3) := by decide +kernel
theorem dX9_best_4 : decode cX9_best 4 = .ok (.aload_n 0, 1) := by decide +kernel
theorem dX9_best_5 : decode cX9_best 5 = .ok (.invokevirtual 128, 3) := by decide +kernel
theorem dX9_best_8 : decode cX9_best 8 = .ok (.ifCond .ne 46, 3) := by decide +kernel
theorem dX9_best_11 : decode cX9_best 11 = .ok (.aload_n 0, 1) := by decide +kernel
theorem dX9_best_12 : decode cX9_best 12 = .ok (.iload_n 1, 1) := by decide +kernel
theorem dX9_best_13 : decode cX9_best 13 = .ok (.i2l, 1) := by decide +kernel
theorem dX9_best_14 : decode cX9_best 14 = .ok (.lconst 1, 1) := by decide +kernel
theorem dX9_best_15 : decode cX9_best 15 = .ok (.ldc2_w 38, 3) := by decide +kernel
theorem dX9_best_18 : decode cX9_best 18 = .ok (.invokestatic 29, 3) := by decide +kernel
theorem dX9_best_21 : decode cX9_best 21 = .ok (.ifCond .ne 7, 3) := by decide +kernel
theorem dX9_best_24 : decode cX9_best 24 = .ok (.iconst 1, 1) := by decide +kernel
theorem dX9_best_25 : decode cX9_best 25 = .ok (.goto 4, 3) := by decide +kernel
theorem dX9_best_28 : decode cX9_best 28 = .ok (.iconst 0, 1) := by decide +kernel
theorem dX9_best_29 : decode cX9_best 29 = .ok (.iconst 2, 1) := by decide +kernel
theorem dX9_best_30 : decode cX9_best 30 = .ok (.invokevirtual 50, 3) := by decide +kernel
theorem dX9_best_33 : decode cX9_best 33 = .ok (.ifCond .ne 21, 3) := by decide +kernel
theorem dX9_best_36 : decode cX9_best 36 = .ok (.aload_n 0, 1) := by decide +kernel
theorem dX9_best_37 : decode cX9_best 37 = .ok (.aload_n 0, 1) := by decide +kernel
theorem dX9_best_38 : decode cX9_best 38 = .ok (.getfield 106, 3) := by decide +kernel
theorem dX9_best_41 : decode cX9_best 41 = .ok (.getfield 110, 3) := by decide +kernel
theorem dX9_best_44 : decode cX9_best 44 = .ok (.invokevirtual 213, 3) := by decide +kernel
theorem dX9_best_47 : decode cX9_best 47 = .ok (.iconst 3, 1) := by decide +kernel
theorem dX9_best_48 : decode cX9_best 48 = .ok (.invokevirtual 50, 3) := by decide +kernel
theorem dX9_best_51 : decode cX9_best 51 = .ok (.ifCond .eq 5, 3) := by decide +kernel
theorem dX9_best_54 : decode cX9_best 54 = .ok (.iconst (-1), 1) := by decide +kernel
theorem dX9_best_55 : decode cX9_best 55 = .ok (.ireturn, 1) := by decide +kernel
theorem dX9_best_56 : decode cX9_best 56 = .ok (.aload_n 0, 1) := by decide +kernel
theorem dX9_best_57 : decode cX9_best 57 = .ok (.getfield 106, 3) := by decide +kernel
theorem dX9_best_60 : decode cX9_best 60 = .ok (.getfield 110, 3) := by decide +kernel
theorem dX9_best_63 : decode cX9_best 63 = .ok (.iload_n 1, 1) := by decide +kernel
theorem dX9_best_64 : decode cX9_best 64 = .ok (.invokestatic 219, 3) := by decide +kernel
theorem dX9_best_67 : decode cX9_best 67 = .ok (.istore_n 2, 1) := by decide +kernel
theorem dX9_best_68 : decode cX9_best 68 = .ok (.iconst 0, 1) := by decide +kernel
theorem dX9_best_69 : decode cX9_best 69 = .ok (.istore_n 3, 1) := by decide +kernel
theorem dX9_best_70 : decode cX9_best 70 = .ok (.aload_n 0, 1) := by decide +kernel
theorem dX9_best_71 : decode cX9_best 71 = .ok (.getfield 106, 3) := by decide +kernel
theorem dX9_best_74 : decode cX9_best 74 = .ok (.getfield 110, 3) := by decide +kernel
theorem dX9_best_77 : decode cX9_best 77 = .ok (.iload_n 3, 1) := by decide +kernel
theorem dX9_best_78 : decode cX9_best 78 = .ok (.invokevirtual 144, 3) := by decide +kernel
theorem dX9_best_81 : decode cX9_best 81 = .ok (.bipush 45, 2) := by decide +kernel
theorem dX9_best_83 : decode cX9_best 83 = .ok (.if_icmp .ne 19, 3) := by decide +kernel
theorem dX9_best_86 : decode cX9_best 86 = .ok (.aload_n 0, 1) := by decide +kernel
theorem dX9_best_87 : decode cX9_best 87 = .ok (.getfield 106, 3) := by decide +kernel
theorem dX9_best_90 : decode cX9_best 90 = .ok (.getfield 110, 3) := by decide +kernel
theorem dX9_best_93 : decode cX9_best 93 = .ok (.iload_n 3, 1) := by decide +kernel
theorem dX9_best_94 : decode cX9_best 94 = .ok (.iload_n 1, 1) := by decide +kernel
theorem dX9_best_95 : decode cX9_best 95 = .ok (.invokestatic 199, 3) := by decide +kernel
theorem dX9_best_98 : decode cX9_best 98 = .ok (.iload_n 2, 1) := by decide +kernel
theorem dX9_best_99 : decode cX9_best 99 = .ok (.if_icmp .eq 9, 3) := by decide +kernel
theorem dX9_best_102 : decode cX9_best 102 = .ok (.iinc 3 1, 3) := by decide +kernel
theorem dX9_best_105 : decode cX9_best 105 = .ok (.goto (-35), 3) := by decide +kernel
theorem dX9_best_108 : decode cX9_best 108 = .ok (.iload_n 3, 1) := by decide +kernel
theorem dX9_best_109 : decode cX9_best 109 = .ok (.ireturn, 1) := by decide +kernel
theorem dX9_blunder_0 : decode cX9_blunder 0 = .ok (.aload_n 0, 1) := by decide +kernel
theorem dX9_blunder_1 : decode cX9_blunder 1 = .ok (.invokevirtual 33, 3) := by decide +kernel
theorem dX9_blunder_4 : decode cX9_blunder 4 = .ok (.aload_n 0, 1) := by decide +kernel
theorem dX9_blunder_5 : decode cX9_blunder 5 = .ok (.invokevirtual 128, 3) := by decide +kernel
theorem dX9_blunder_8 : decode cX9_blunder 8 = .ok (.ifCond .ne 78, 3) := by decide +kernel
theorem dX9_blunder_11 : decode cX9_blunder 11 = .ok (.aload_n 0, 1) := by decide +kernel
theorem dX9_blunder_12 : decode cX9_blunder 12 = .ok (.aload_n 0, 1) := by decide +kernel
theorem dX9_blunder_13 : decode cX9_blunder 13 = .ok (.iload_n 1, 1) := by decide +kernel
theorem dX9_blunder_14 : decode cX9_blunder 14 = .ok (.invokevirtual 132, 3) := by decide +kernel
theorem dX9_blunder_17 : decode cX9_blunder 17 = .ok (.ifCond .ne 7, 3) := by decide +kernel
theorem dX9_blunder_20 : decode cX9_blunder 20 = .ok (.iconst 1, 1) := by decide +kernel
theorem dX9_blunder_21 : decode cX9_blunder 21 = .ok (.goto 4, 3) := by decide +kernel
theorem dX9_blunder_24 : decode cX9_blunder 24 = .ok (.iconst 0, 1) := by decide +kernel
theorem dX9_blunder_25 : decode cX9_blunder 25 = .ok (.iconst 2, 1) := by decide +kernel
theorem dX9_blunder_26 : decode cX9_blunder 26 = .ok (.invokevirtual 50, 3) := by decide +kernel
theorem dX9_blunder_29 : decode cX9_blunder 29 = .ok (.ifCond .ne 57, 3) := by decide +kernel
theorem dX9_blunder_32 : decode cX9_blunder 32 = .ok (.aload_n 0, 1) := by decide +kernel
theorem dX9_blunder_33 : decode cX9_blunder 33 = .ok (.iload_n 2, 1) := by decide +kernel
theorem dX9_blunder_34 : decode cX9_blunder 34 = .ok (.i2l, 1) := by decide +kernel
theorem dX9_blunder_35 : decode cX9_blunder 35 = .ok (.lconst 1, 1) := by decide +kernel
theorem dX9_blunder_36 : decode cX9_blunder 36 = .ok (.ldc2_w 38, 3) := by decide +kernel
theorem dX9_blunder_39 : decode cX9_blunder 39 = .ok (.invokestatic 29, 3) := by decide +kernel
theorem dX9_blunder_42 : decode cX9_blunder 42 = .ok (.ifCond .ne 7, 3) := by decide +kernel
theorem dX9_blunder_45 : decode cX9_blunder 45 = .ok (.iconst 1, 1) := by decide +kernel
theorem dX9_blunder_46 : decode cX9_blunder 46 = .ok (.goto 4, 3) := by decide +kernel
theorem dX9_blunder_49 : decode cX9_blunder 49 = .ok (.iconst 0, 1) := by decide +kernel
theorem dX9_blunder_50 : decode cX9_blunder 50 = .ok (.iconst 3, 1) := by decide +kernel
theorem dX9_blunder_51 : decode cX9_blunder 51 = .ok (.invokevirtual 50, 3) := by decide +kernel
theorem dX9_blunder_54 : decode cX9_blunder 54 = .ok (.ifCond .ne 32, 3) := by decide +kernel
theorem dX9_blunder_57 : decode cX9_blunder 57 = .ok (.aload_n 0, 1) := by decide +kernel
theorem dX9_blunder_58 : decode cX9_blunder 58 = .ok (.aload_n 0, 1) := by decide +kernel
theorem dX9_blunder_59 : decode cX9_blunder 59 = .ok (.getfield 106, 3) := by decide +kernel
theorem dX9_blunder_62 : decode cX9_blunder 62 = .ok (.getfield 110, 3) := by decide +kernel
theorem dX9_blunder_65 : decode cX9_blunder 65 = .ok (.iload_n 1, 1) := by decide +kernel
theorem dX9_blunder_66 : decode cX9_blunder 66 = .ok (.invokevirtual 144, 3) := by decide +kernel
theorem dX9_blunder_69 : decode cX9_blunder 69 = .ok (.bipush 45, 2) := by decide +kernel
theorem dX9_blunder_71 : decode cX9_blunder 71 = .ok (.if_icmp .eq 7, 3) := by decide +kernel
theorem dX9_blunder_74 : decode cX9_blunder 74 = .ok (.iconst 1, 1) := by decide +kernel
theorem dX9_blunder_75 : decode cX9_blunder 75 = .ok (.goto 4, 3) := by decide +kernel
theorem dX9_blunder_78 : decode cX9_blunder 78 = .ok (.iconst 0, 1) := by decide +kernel
theorem dX9_blunder_79 : decode cX9_blunder 79 = .ok (.iconst 4, 1) := by decide +kernel
theorem dX9_blunder_80 : decode cX9_blunder 80 = .ok (.invokevirtual 50, 3) := by decide +kernel
theorem dX9_blunder_83 : decode cX9_blunder 83 = .ok (.ifCond .eq 5, 3) := by decide +kernel
theorem dX9_blunder_86 : decode cX9_blunder 86 = .ok (.iconst (-1), 1) := by decide +kernel
theorem dX9_blunder_87 : decode cX9_blunder 87 = .ok (.ireturn, 1) := by decide +kernel
theorem dX9_blunder_88 : decode cX9_blunder 88 = .ok (.aload_n 0, 1) := by decide +kernel
theorem dX9_blunder_89 : decode cX9_blunder 89 = .ok (.getfield 106, 3) := by decide +kernel
theorem dX9_blunder_92 : decode cX9_blunder 92 = .ok (.getfield 110, 3) := by decide +kernel
theorem dX9_blunder_95 : decode cX9_blunder 95 = .ok (.iload_n 2, 1) := by decide +kernel
theorem dX9_blunder_96 : decode cX9_blunder 96 = .ok (.invokestatic 219, 3) := by decide +kernel
theorem dX9_blunder_99 : decode cX9_blunder 99 = .ok (.aload_n 0, 1) := by decide +kernel
theorem dX9_blunder_100 : decode cX9_blunder 100 = .ok (.getfield 106, 3) := by decide +kernel
theorem dX9_blunder_103 : decode cX9_blunder 103 = .ok (.getfield 110, 3) := by decide +kernel
theorem dX9_blunder_106 : decode cX9_blunder 106 = .ok (.iload_n 1, 1) := by decide +kernel
theorem dX9_blunder_107 : decode cX9_blunder 107 = .ok (.iload_n 2, 1) := by decide +kernel
theorem dX9_blunder_108 : decode cX9_blunder 108 = .ok (.invokestatic 199, 3) := by decide +kernel
theorem dX9_blunder_111 : decode cX9_blunder 111 = .ok (.isub, 1) := by decide +kernel
theorem dX9_blunder_112 : decode cX9_blunder 112 = .ok (.ireturn, 1) := by decide +kernel
theorem dX9_isPuzzle_0 : decode cX9_isPuzzle 0 = .ok (.aload_n 0, 1) := by decide +kernel
theorem dX9_isPuzzle_1 : decode cX9_isPuzzle 1 = .ok (.invokevirtual 33, 3) := by decide +kernel
theorem dX9_isPuzzle_4 : decode cX9_isPuzzle 4 = .ok (.aload_n 0, 1) := by decide +kernel
theorem dX9_isPuzzle_5 : decode cX9_isPuzzle 5 = .ok (.invokevirtual 128, 3) := by decide +kernel
theorem dX9_isPuzzle_8 : decode cX9_isPuzzle 8 = .ok (.ifCond .ne 28, 3) := by decide +kernel
theorem dX9_isPuzzle_11 : decode cX9_isPuzzle 11 = .ok (.aload_n 0, 1) := by decide +kernel
theorem dX9_isPuzzle_12 : decode cX9_isPuzzle 12 = .ok (.iload_n 1, 1) := by decide +kernel
theorem dX9_isPuzzle_13 : decode cX9_isPuzzle 13 = .ok (.i2l, 1) := by decide +kernel
theorem dX9_isPuzzle_14 : decode cX9_isPuzzle 14 = .ok (.lconst 1, 1) := by decide +kernel
theorem dX9_isPuzzle_15 : decode cX9_isPuzzle 15 = .ok (.ldc2_w 38, 3) := by decide +kernel
theorem dX9_isPuzzle_18 : decode cX9_isPuzzle 18 = .ok (.invokestatic 29, 3) := by decide +kernel
theorem dX9_isPuzzle_21 : decode cX9_isPuzzle 21 = .ok (.ifCond .ne 7, 3) := by decide +kernel
theorem dX9_isPuzzle_24 : decode cX9_isPuzzle 24 = .ok (.iconst 1, 1) := by decide +kernel
theorem dX9_isPuzzle_25 : decode cX9_isPuzzle 25 = .ok (.goto 4, 3) := by decide +kernel
theorem dX9_isPuzzle_28 : decode cX9_isPuzzle 28 = .ok (.iconst 0, 1) := by decide +kernel
theorem dX9_isPuzzle_29 : decode cX9_isPuzzle 29 = .ok (.iconst 2, 1) := by decide +kernel
theorem dX9_isPuzzle_30 : decode cX9_isPuzzle 30 = .ok (.invokevirtual 50, 3) := by decide +kernel
theorem dX9_isPuzzle_33 : decode cX9_isPuzzle 33 = .ok (.ifCond .eq 5, 3) := by decide +kernel
theorem dX9_isPuzzle_36 : decode cX9_isPuzzle 36 = .ok (.iconst 0, 1) := by decide +kernel
theorem dX9_isPuzzle_37 : decode cX9_isPuzzle 37 = .ok (.ireturn, 1) := by decide +kernel
theorem dX9_isPuzzle_38 : decode cX9_isPuzzle 38 = .ok (.aload_n 0, 1) := by decide +kernel
theorem dX9_isPuzzle_39 : decode cX9_isPuzzle 39 = .ok (.getfield 106, 3) := by decide +kernel
theorem dX9_isPuzzle_42 : decode cX9_isPuzzle 42 = .ok (.getfield 110, 3) := by decide +kernel
theorem dX9_isPuzzle_45 : decode cX9_isPuzzle 45 = .ok (.iload_n 1, 1) := by decide +kernel
theorem dX9_isPuzzle_46 : decode cX9_isPuzzle 46 = .ok (.invokestatic 219, 3) := by decide +kernel
theorem dX9_isPuzzle_49 : decode cX9_isPuzzle 49 = .ok (.istore_n 2, 1) := by decide +kernel
theorem dX9_isPuzzle_50 : decode cX9_isPuzzle 50 = .ok (.iconst 0, 1) := by decide +kernel
theorem dX9_isPuzzle_51 : decode cX9_isPuzzle 51 = .ok (.istore_n 3, 1) := by decide +kernel
theorem dX9_isPuzzle_52 : decode cX9_isPuzzle 52 = .ok (.iconst 0, 1) := by decide +kernel
theorem dX9_isPuzzle_53 : decode cX9_isPuzzle 53 = .ok (.istore 4, 2) := by decide +kernel
theorem dX9_isPuzzle_55 : decode cX9_isPuzzle 55 = .ok (.iload 4, 2) := by decide +kernel
theorem dX9_isPuzzle_57 : decode cX9_isPuzzle 57 = .ok (.aload_n 0, 1) := by decide +kernel
theorem dX9_isPuzzle_58 : decode cX9_isPuzzle 58 = .ok (.getfield 106, 3) := by decide +kernel
theorem dX9_isPuzzle_61 : decode cX9_isPuzzle 61 = .ok (.getfield 110, 3) := by decide +kernel
theorem dX9_isPuzzle_64 : decode cX9_isPuzzle 64 = .ok (.getfield 122, 3) := by decide +kernel
theorem dX9_isPuzzle_67 : decode cX9_isPuzzle 67 = .ok (.arraylength, 1) := by decide +kernel
theorem dX9_isPuzzle_68 : decode cX9_isPuzzle 68 = .ok (.if_icmp .ge 51, 3) := by decide +kernel
theorem dX9_isPuzzle_71 : decode cX9_isPuzzle 71 = .ok (.iload_n 3, 1) := by decide +kernel
theorem dX9_isPuzzle_72 : decode cX9_isPuzzle 72 = .ok (.aload_n 0, 1) := by decide +kernel
theorem dX9_isPuzzle_73 : decode cX9_isPuzzle 73 = .ok (.getfield 106, 3) := by decide +kernel
theorem dX9_isPuzzle_76 : decode cX9_isPuzzle 76 = .ok (.getfield 110, 3) := by decide +kernel
theorem dX9_isPuzzle_79 : decode cX9_isPuzzle 79 = .ok (.iload 4, 2) := by decide +kernel
theorem dX9_isPuzzle_81 : decode cX9_isPuzzle 81 = .ok (.invokevirtual 144, 3) := by decide +kernel
theorem dX9_isPuzzle_84 : decode cX9_isPuzzle 84 = .ok (.bipush 45, 2) := by decide +kernel
theorem dX9_isPuzzle_86 : decode cX9_isPuzzle 86 = .ok (.if_icmp .ne 24, 3) := by decide +kernel
theorem dX9_isPuzzle_89 : decode cX9_isPuzzle 89 = .ok (.aload_n 0, 1) := by decide +kernel
theorem dX9_isPuzzle_90 : decode cX9_isPuzzle 90 = .ok (.getfield 106, 3) := by decide +kernel
theorem dX9_isPuzzle_93 : decode cX9_isPuzzle 93 = .ok (.getfield 110, 3) := by decide +kernel
theorem dX9_isPuzzle_96 : decode cX9_isPuzzle 96 = .ok (.iload 4, 2) := by decide +kernel
theorem dX9_isPuzzle_98 : decode cX9_isPuzzle 98 = .ok (.iload_n 1, 1) := by decide +kernel
theorem dX9_isPuzzle_99 : decode cX9_isPuzzle 99 = .ok (.invokestatic 199, 3) := by decide +kernel
theorem dX9_isPuzzle_102 : decode cX9_isPuzzle 102 = .ok (.iload_n 2, 1) := by decide +kernel
theorem dX9_isPuzzle_103 : decode cX9_isPuzzle 103 = .ok (.if_icmp .ne 7, 3) := by decide +kernel
theorem dX9_isPuzzle_106 : decode cX9_isPuzzle 106 = .ok (.iconst 1, 1) := by decide +kernel
theorem dX9_isPuzzle_107 : decode cX9_isPuzzle 107 = .ok (.goto 4, 3) := by decide +kernel
theorem dX9_isPuzzle_110 : decode cX9_isPuzzle 110 = .ok (.iconst 0, 1) := by decide +kernel
theorem dX9_isPuzzle_111 : decode cX9_isPuzzle 111 = .ok (.iadd, 1) := by decide +kernel
theorem dX9_isPuzzle_112 : decode cX9_isPuzzle 112 = .ok (.istore_n 3, 1) := by decide +kernel
theorem dX9_isPuzzle_113 : decode cX9_isPuzzle 113 = .ok (.iinc 4 1, 3) := by decide +kernel
theorem dX9_isPuzzle_116 : decode cX9_isPuzzle 116 = .ok (.goto (-61), 3) := by decide +kernel
theorem dX9_isPuzzle_119 : decode cX9_isPuzzle 119 = .ok (.iload_n 3, 1) := by decide +kernel
theorem dX9_isPuzzle_120 : decode cX9_isPuzzle 120 = .ok (.iconst 1, 1) := by decide +kernel
theorem dX9_isPuzzle_121 : decode cX9_isPuzzle 121 = .ok (.if_icmp .ne 7, 3) := by decide +kernel
theorem dX9_isPuzzle_124 : decode cX9_isPuzzle 124 = .ok (.iconst 1, 1) := by decide +kernel
theorem dX9_isPuzzle_125 : decode cX9_isPuzzle 125 = .ok (.goto 4, 3) := by decide +kernel
theorem dX9_isPuzzle_128 : decode cX9_isPuzzle 128 = .ok (.iconst 0, 1) := by decide +kernel
theorem dX9_isPuzzle_129 : decode cX9_isPuzzle 129 = .ok (.ireturn, 1) := by decide +kernel
theorem dX9_play_0 : decode cX9_play 0 = .ok (.aload_n 0, 1) := by decide +kernel
theorem dX9_play_1 : decode cX9_play 1 = .ok (.invokevirtual 33, 3) := by decide +kernel
theorem dX9_play_4 : decode cX9_play 4 = .ok (.aload_n 0, 1) := by decide +kernel
theorem dX9_play_5 : decode cX9_play 5 = .ok (.aload_n 0, 1) := by decide +kernel
theorem dX9_play_6 : decode cX9_play 6 = .ok (.getfield 10, 3) := by decide +kernel
theorem dX9_play_9 : decode cX9_play 9 = .ok (.iload_n 1, 1) := by decide +kernel
theorem dX9_play_10 : decode cX9_play 10 = .ok (.invokestatic 74, 3) := by decide +kernel
theorem dX9_play_13 : decode cX9_play 13 = .ok (.ifCond .ne 7, 3) := by decide +kernel
theorem dX9_play_16 : decode cX9_play 16 = .ok (.iconst 1, 1) := by decide +kernel
theorem dX9_play_17 : decode cX9_play 17 = .ok (.goto 4, 3) := by decide +kernel
theorem dX9_play_20 : decode cX9_play 20 = .ok (.iconst 0, 1) := by decide +kernel
theorem dX9_play_21 : decode cX9_play 21 = .ok (.iconst 1, 1) := by decide +kernel
theorem dX9_play_22 : decode cX9_play 22 = .ok (.invokevirtual 50, 3) := by decide +kernel
theorem dX9_play_25 : decode cX9_play 25 = .ok (.ifCond .ne 25, 3) := by decide +kernel
theorem dX9_play_28 : decode cX9_play 28 = .ok (.aload_n 0, 1) := by decide +kernel
theorem dX9_play_29 : decode cX9_play 29 = .ok (.ldc 223, 2) := by decide +kernel
theorem dX9_play_31 : decode cX9_play 31 = .ok (.iload_n 2, 1) := by decide +kernel
theorem dX9_play_32 : decode cX9_play 32 = .ok (.invokevirtual 42, 3) := by decide +kernel
theorem dX9_play_35 : decode cX9_play 35 = .ok (.ifCond .ge 7, 3) := by decide +kernel
theorem dX9_play_38 : decode cX9_play 38 = .ok (.iconst 1, 1) := by decide +kernel
theorem dX9_play_39 : decode cX9_play 39 = .ok (.goto 4, 3) := by decide +kernel
theorem dX9_play_42 : decode cX9_play 42 = .ok (.iconst 0, 1) := by decide +kernel
theorem dX9_play_43 : decode cX9_play 43 = .ok (.iconst 2, 1) := by decide +kernel
theorem dX9_play_44 : decode cX9_play 44 = .ok (.invokevirtual 50, 3) := by decide +kernel
theorem dX9_play_47 : decode cX9_play 47 = .ok (.ifCond .eq 5, 3) := by decide +kernel
theorem dX9_play_50 : decode cX9_play 50 = .ok (.iconst (-1), 1) := by decide +kernel
theorem dX9_play_51 : decode cX9_play 51 = .ok (.ireturn, 1) := by decide +kernel
theorem dX9_play_52 : decode cX9_play 52 = .ok (.new 111, 3) := by decide +kernel
theorem dX9_play_55 : decode cX9_play 55 = .ok (.dup, 1) := by decide +kernel
theorem dX9_play_56 : decode cX9_play 56 = .ok (.aload_n 0, 1) := by decide +kernel
theorem dX9_play_57 : decode cX9_play 57 = .ok (.getfield 10, 3) := by decide +kernel
theorem dX9_play_60 : decode cX9_play 60 = .ok (.iload_n 1, 1) := by decide +kernel
theorem dX9_play_61 : decode cX9_play 61 = .ok (.invokeinterface 84 2, 5) := by decide +kernel
theorem dX9_play_66 : decode cX9_play 66 = .ok (.checkcast 54, 3) := by decide +kernel
theorem dX9_play_69 : decode cX9_play 69 = .ok (.invokespecial 125, 3) := by decide +kernel
theorem dX9_play_72 : decode cX9_play 72 = .ok (.astore_n 3, 1) := by decide +kernel
theorem dX9_play_73 : decode cX9_play 73 = .ok (.iconst 0, 1) := by decide +kernel
theorem dX9_play_74 : decode cX9_play 74 = .ok (.istore 4, 2) := by decide +kernel
theorem dX9_play_76 : decode cX9_play 76 = .ok (.iconst 0, 1) := by decide +kernel
theorem dX9_play_77 : decode cX9_play 77 = .ok (.istore 5, 2) := by decide +kernel
theorem dX9_play_79 : decode cX9_play 79 = .ok (.iconst 0, 1) := by decide +kernel
theorem dX9_play_80 : decode cX9_play 80 = .ok (.istore 6, 2) := by decide +kernel
theorem dX9_play_82 : decode cX9_play 82 = .ok (.aload_n 3, 1) := by decide +kernel
theorem dX9_play_83 : decode cX9_play 83 = .ok (.getfield 110, 3) := by decide +kernel
theorem dX9_play_86 : decode cX9_play 86 = .ok (.invokevirtual 213, 3) := by decide +kernel
theorem dX9_play_89 : decode cX9_play 89 = .ok (.ifCond .ne 7, 3) := by decide +kernel
theorem dX9_play_92 : decode cX9_play 92 = .ok (.iconst 1, 1) := by decide +kernel
theorem dX9_play_93 : decode cX9_play 93 = .ok (.goto 4, 3) := by decide +kernel
theorem dX9_play_96 : decode cX9_play 96 = .ok (.iconst 0, 1) := by decide +kernel
theorem dX9_play_97 : decode cX9_play 97 = .ok (.istore 7, 2) := by decide +kernel
theorem dX9_play_99 : decode cX9_play 99 = .ok (.iload 7, 2) := by decide +kernel
theorem dX9_play_101 : decode cX9_play 101 = .ok (.ifCond .eq 182, 3) := by decide +kernel
theorem dX9_play_104 : decode cX9_play 104 = .ok (.iconst (-1), 1) := by decide +kernel
theorem dX9_play_105 : decode cX9_play 105 = .ok (.istore 8, 2) := by decide +kernel
theorem dX9_play_107 : decode cX9_play 107 = .ok (.iconst (-1), 1) := by decide +kernel
theorem dX9_play_108 : decode cX9_play 108 = .ok (.istore 9, 2) := by decide +kernel
theorem dX9_play_110 : decode cX9_play 110 = .ok (.iconst 0, 1) := by decide +kernel
theorem dX9_play_111 : decode cX9_play 111 = .ok (.istore 10, 2) := by decide +kernel
theorem dX9_play_113 : decode cX9_play 113 = .ok (.iload 10, 2) := by decide +kernel
theorem dX9_play_115 : decode cX9_play 115 = .ok (.aload_n 3, 1) := by decide +kernel
theorem dX9_play_116 : decode cX9_play 116 = .ok (.getfield 110, 3) := by decide +kernel
theorem dX9_play_119 : decode cX9_play 119 = .ok (.getfield 122, 3) := by decide +kernel
theorem dX9_play_122 : decode cX9_play 122 = .ok (.arraylength, 1) := by decide +kernel
theorem dX9_play_123 : decode cX9_play 123 = .ok (.if_icmp .ge 58, 3) := by decide +kernel
theorem dX9_play_126 : decode cX9_play 126 = .ok (.aload_n 3, 1) := by decide +kernel
theorem dX9_play_127 : decode cX9_play 127 = .ok (.getfield 110, 3) := by decide +kernel
theorem dX9_play_130 : decode cX9_play 130 = .ok (.iload 10, 2) := by decide +kernel
theorem dX9_play_132 : decode cX9_play 132 = .ok (.invokevirtual 144, 3) := by decide +kernel
theorem dX9_play_135 : decode cX9_play 135 = .ok (.bipush 45, 2) := by decide +kernel
theorem dX9_play_137 : decode cX9_play 137 = .ok (.if_icmp .ne 38, 3) := by decide +kernel
theorem dX9_play_140 : decode cX9_play 140 = .ok (.aload_n 3, 1) := by decide +kernel
theorem dX9_play_141 : decode cX9_play 141 = .ok (.getfield 110, 3) := by decide +kernel
theorem dX9_play_144 : decode cX9_play 144 = .ok (.iload 10, 2) := by decide +kernel
theorem dX9_play_146 : decode cX9_play 146 = .ok (.invokevirtual 209, 3) := by decide +kernel
theorem dX9_play_149 : decode cX9_play 149 = .ok (.getfield 156, 3) := by decide +kernel
theorem dX9_play_152 : decode cX9_play 152 = .ok (.iload 9, 2) := by decide +kernel
theorem dX9_play_154 : decode cX9_play 154 = .ok (.if_icmp .le 21, 3) := by decide +kernel
theorem dX9_play_157 : decode cX9_play 157 = .ok (.aload_n 3, 1) := by decide +kernel
theorem dX9_play_158 : decode cX9_play 158 = .ok (.getfield 110, 3) := by decide +kernel
theorem dX9_play_161 : decode cX9_play 161 = .ok (.iload 10, 2) := by decide +kernel
theorem dX9_play_163 : decode cX9_play 163 = .ok (.invokevirtual 209, 3) := by decide +kernel
theorem dX9_play_166 : decode cX9_play 166 = .ok (.getfield 156, 3) := by decide +kernel
theorem dX9_play_169 : decode cX9_play 169 = .ok (.istore 9, 2) := by decide +kernel
theorem dX9_play_171 : decode cX9_play 171 = .ok (.iload 10, 2) := by decide +kernel
theorem dX9_play_173 : decode cX9_play 173 = .ok (.istore 8, 2) := by decide +kernel
theorem dX9_play_175 : decode cX9_play 175 = .ok (.iinc 10 1, 3) := by decide +kernel
theorem dX9_play_178 : decode cX9_play 178 = .ok (.goto (-65), 3) := by decide +kernel
theorem dX9_play_181 : decode cX9_play 181 = .ok (.aload_n 3, 1) := by decide +kernel
theorem dX9_play_182 : decode cX9_play 182 = .ok (.iload 8, 2) := by decide +kernel
theorem dX9_play_184 : decode cX9_play 184 = .ok (.invokevirtual 148, 3) := by decide +kernel
theorem dX9_play_187 : decode cX9_play 187 = .ok (.iinc 6 1, 3) := by decide +kernel
theorem dX9_play_190 : decode cX9_play 190 = .ok (.aload_n 3, 1) := by decide +kernel
theorem dX9_play_191 : decode cX9_play 191 = .ok (.getfield 110, 3) := by decide +kernel
theorem dX9_play_194 : decode cX9_play 194 = .ok (.getfield 171, 3) := by decide +kernel
theorem dX9_play_197 : decode cX9_play 197 = .ok (.iconst 0, 1) := by decide +kernel
theorem dX9_play_198 : decode cX9_play 198 = .ok (.iaload, 1) := by decide +kernel
theorem dX9_play_199 : decode cX9_play 199 = .ok (.aload_n 3, 1) := by decide +kernel
theorem dX9_play_200 : decode cX9_play 200 = .ok (.getfield 110, 3) := by decide +kernel
theorem dX9_play_203 : decode cX9_play 203 = .ok (.getfield 171, 3) := by decide +kernel
theorem dX9_play_206 : decode cX9_play 206 = .ok (.iconst 1, 1) := by decide +kernel
theorem dX9_play_207 : decode cX9_play 207 = .ok (.iaload, 1) := by decide +kernel
theorem dX9_play_208 : decode cX9_play 208 = .ok (.isub, 1) := by decide +kernel
theorem dX9_play_209 : decode cX9_play 209 = .ok (.invokestatic 225, 3) := by decide +kernel
theorem dX9_play_212 : decode cX9_play 212 = .ok (.istore 10, 2) := by decide +kernel
theorem dX9_play_214 : decode cX9_play 214 = .ok (.iload 5, 2) := by decide +kernel
theorem dX9_play_216 : decode cX9_play 216 = .ok (.iload 10, 2) := by decide +kernel
theorem dX9_play_218 : decode cX9_play 218 = .ok (.ifCond .eq 19, 3) := by decide +kernel
theorem dX9_play_221 : decode cX9_play 221 = .ok (.iload 4, 2) := by decide +kernel
theorem dX9_play_223 : decode cX9_play 223 = .ok (.ifCond .eq 14, 3) := by decide +kernel
theorem dX9_play_226 : decode cX9_play 226 = .ok (.iload 10, 2) := by decide +kernel
theorem dX9_play_228 : decode cX9_play 228 = .ok (.iload 4, 2) := by decide +kernel
theorem dX9_play_230 : decode cX9_play 230 = .ok (.if_icmp .eq 7, 3) := by decide +kernel
theorem dX9_play_233 : decode cX9_play 233 = .ok (.iconst 1, 1) := by decide +kernel
theorem dX9_play_234 : decode cX9_play 234 = .ok (.goto 4, 3) := by decide +kernel
theorem dX9_play_237 : decode cX9_play 237 = .ok (.iconst 0, 1) := by decide +kernel
theorem dX9_play_238 : decode cX9_play 238 = .ok (.iadd, 1) := by decide +kernel
theorem dX9_play_239 : decode cX9_play 239 = .ok (.istore 5, 2) := by decide +kernel
theorem dX9_play_241 : decode cX9_play 241 = .ok (.iload 10, 2) := by decide +kernel
theorem dX9_play_243 : decode cX9_play 243 = .ok (.ifCond .ne 8, 3) := by decide +kernel
theorem dX9_play_246 : decode cX9_play 246 = .ok (.iload 4, 2) := by decide +kernel
theorem dX9_play_248 : decode cX9_play 248 = .ok (.goto 5, 3) := by decide +kernel
theorem dX9_play_251 : decode cX9_play 251 = .ok (.iload 10, 2) := by decide +kernel
theorem dX9_play_253 : decode cX9_play 253 = .ok (.istore 4, 2) := by decide +kernel
theorem dX9_play_255 : decode cX9_play 255 = .ok (.aload_n 3, 1) := by decide +kernel
theorem dX9_play_256 : decode cX9_play 256 = .ok (.getfield 110, 3) := by decide +kernel
theorem dX9_play_259 : decode cX9_play 259 = .ok (.getfield 116, 3) := by decide +kernel
theorem dX9_play_262 : decode cX9_play 262 = .ok (.ifCond .ne 15, 3) := by decide +kernel
theorem dX9_play_265 : decode cX9_play 265 = .ok (.iload 6, 2) := by decide +kernel
theorem dX9_play_267 : decode cX9_play 267 = .ok (.sipush 200, 3) := by decide +kernel
theorem dX9_play_270 : decode cX9_play 270 = .ok (.if_icmp .ge 7, 3) := by decide +kernel
theorem dX9_play_273 : decode cX9_play 273 = .ok (.iconst 1, 1) := by decide +kernel
theorem dX9_play_274 : decode cX9_play 274 = .ok (.goto 4, 3) := by decide +kernel
theorem dX9_play_277 : decode cX9_play 277 = .ok (.iconst 0, 1) := by decide +kernel
theorem dX9_play_278 : decode cX9_play 278 = .ok (.istore 7, 2) := by decide +kernel
theorem dX9_play_280 : decode cX9_play 280 = .ok (.goto (-181), 3) := by decide +kernel
theorem dX9_play_283 : decode cX9_play 283 = .ok (.iload_n 2, 1) := by decide +kernel
theorem dX9_play_284 : decode cX9_play 284 = .ok (.bipush 108, 2) := by decide +kernel
theorem dX9_play_286 : decode cX9_play 286 = .ok (.if_icmp .ne 8, 3) := by decide +kernel
theorem dX9_play_289 : decode cX9_play 289 = .ok (.iload 6, 2) := by decide +kernel
theorem dX9_play_291 : decode cX9_play 291 = .ok (.goto 33, 3) := by decide +kernel
theorem dX9_play_294 : decode cX9_play 294 = .ok (.iload_n 2, 1) := by decide +kernel
theorem dX9_play_295 : decode cX9_play 295 = .ok (.bipush 99, 2) := by decide +kernel
theorem dX9_play_297 : decode cX9_play 297 = .ok (.if_icmp .ne 8, 3) := by decide +kernel
theorem dX9_play_300 : decode cX9_play 300 = .ok (.iload 5, 2) := by decide +kernel
theorem dX9_play_302 : decode cX9_play 302 = .ok (.goto 22, 3) := by decide +kernel
theorem dX9_play_305 : decode cX9_play 305 = .ok (.aload_n 3, 1) := by decide +kernel
theorem dX9_play_306 : decode cX9_play 306 = .ok (.getfield 110, 3) := by decide +kernel
theorem dX9_play_309 : decode cX9_play 309 = .ok (.getfield 171, 3) := by decide +kernel
theorem dX9_play_312 : decode cX9_play 312 = .ok (.iconst 0, 1) := by decide +kernel
theorem dX9_play_313 : decode cX9_play 313 = .ok (.iaload, 1) := by decide +kernel
theorem dX9_play_314 : decode cX9_play 314 = .ok (.aload_n 3, 1) := by decide +kernel
theorem dX9_play_315 : decode cX9_play 315 = .ok (.getfield 110, 3) := by decide +kernel
theorem dX9_play_318 : decode cX9_play 318 = .ok (.getfield 171, 3) := by decide +kernel
theorem dX9_play_321 : decode cX9_play 321 = .ok (.iconst 1, 1) := by decide +kernel
theorem dX9_play_322 : decode cX9_play 322 = .ok (.iaload, 1) := by decide +kernel
theorem dX9_play_323 : decode cX9_play 323 = .ok (.isub, 1) := by decide +kernel
theorem dX9_play_324 : decode cX9_play 324 = .ok (.ireturn, 1) := by decide +kernel
theorem dX9_type_0 : decode cX9_type 0 = .ok (.aload_n 0, 1) := by decide +kernel
theorem dX9_type_1 : decode cX9_type 1 = .ok (.invokevirtual 33, 3) := by decide +kernel
theorem dX9_type_4 : decode cX9_type 4 = .ok (.aload_n 0, 1) := by decide +kernel
theorem dX9_type_5 : decode cX9_type 5 = .ok (.iload_n 1, 1) := by decide +kernel
theorem dX9_type_6 : decode cX9_type 6 = .ok (.i2l, 1) := by decide +kernel
theorem dX9_type_7 : decode cX9_type 7 = .ok (.lconst 0, 1) := by decide +kernel
theorem dX9_type_8 : decode cX9_type 8 = .ok (.ldc2_w 136, 3) := by decide +kernel
theorem dX9_type_11 : decode cX9_type 11 = .ok (.invokestatic 29, 3) := by decide +kernel
theorem dX9_type_14 : decode cX9_type 14 = .ok (.ifCond .ne 7, 3) := by decide +kernel
theorem dX9_type_17 : decode cX9_type 17 = .ok (.iconst 1, 1) := by decide +kernel
theorem dX9_type_18 : decode cX9_type 18 = .ok (.goto 4, 3) := by decide +kernel
theorem dX9_type_21 : decode cX9_type 21 = .ok (.iconst 0, 1) := by decide +kernel
theorem dX9_type_22 : decode cX9_type 22 = .ok (.iconst 1, 1) := by decide +kernel
theorem dX9_type_23 : decode cX9_type 23 = .ok (.invokevirtual 50, 3) := by decide +kernel
theorem dX9_type_26 : decode cX9_type 26 = .ok (.ifCond .ne 30, 3) := by decide +kernel
theorem dX9_type_29 : decode cX9_type 29 = .ok (.aload_n 0, 1) := by decide +kernel
theorem dX9_type_30 : decode cX9_type 30 = .ok (.aload_n 0, 1) := by decide +kernel
theorem dX9_type_31 : decode cX9_type 31 = .ok (.getfield 16, 3) := by decide +kernel
theorem dX9_type_34 : decode cX9_type 34 = .ok (.invokeinterface 23 1, 5) := by decide +kernel
theorem dX9_type_39 : decode cX9_type 39 = .ok (.bipush 60, 2) := by decide +kernel
theorem dX9_type_41 : decode cX9_type 41 = .ok (.if_icmp .ne 7, 3) := by decide +kernel
theorem dX9_type_44 : decode cX9_type 44 = .ok (.iconst 1, 1) := by decide +kernel
theorem dX9_type_45 : decode cX9_type 45 = .ok (.goto 4, 3) := by decide +kernel
theorem dX9_type_48 : decode cX9_type 48 = .ok (.iconst 0, 1) := by decide +kernel
theorem dX9_type_49 : decode cX9_type 49 = .ok (.iconst 2, 1) := by decide +kernel
theorem dX9_type_50 : decode cX9_type 50 = .ok (.invokevirtual 50, 3) := by decide +kernel
theorem dX9_type_53 : decode cX9_type 53 = .ok (.ifCond .eq 5, 3) := by decide +kernel
theorem dX9_type_56 : decode cX9_type 56 = .ok (.iconst (-1), 1) := by decide +kernel
theorem dX9_type_57 : decode cX9_type 57 = .ok (.ireturn, 1) := by decide +kernel
theorem dX9_type_58 : decode cX9_type 58 = .ok (.aload_n 0, 1) := by decide +kernel
theorem dX9_type_59 : decode cX9_type 59 = .ok (.getfield 16, 3) := by decide +kernel
theorem dX9_type_62 : decode cX9_type 62 = .ok (.iload_n 1, 1) := by decide +kernel
theorem dX9_type_63 : decode cX9_type 63 = .ok (.invokestatic 228, 3) := by decide +kernel
theorem dX9_type_66 : decode cX9_type 66 = .ok (.invokeinterface 70 2, 5) := by decide +kernel
theorem dX9_type_71 : decode cX9_type 71 = .ok (.pop, 1) := by decide +kernel
theorem dX9_type_72 : decode cX9_type 72 = .ok (.aload_n 0, 1) := by decide +kernel
theorem dX9_type_73 : decode cX9_type 73 = .ok (.getfield 16, 3) := by decide +kernel
theorem dX9_type_76 : decode cX9_type 76 = .ok (.invokeinterface 23 1, 5) := by decide +kernel
theorem dX9_type_81 : decode cX9_type 81 = .ok (.ireturn, 1) := by decide +kernel
theorem dX9_wipe_0 : decode cX9_wipe 0 = .ok (.aload_n 0, 1) := by decide +kernel
theorem dX9_wipe_1 : decode cX9_wipe 1 = .ok (.invokevirtual 33, 3) := by decide +kernel
theorem dX9_wipe_4 : decode cX9_wipe 4 = .ok (.aload_n 0, 1) := by decide +kernel
theorem dX9_wipe_5 : decode cX9_wipe 5 = .ok (.getfield 16, 3) := by decide +kernel
theorem dX9_wipe_8 : decode cX9_wipe 8 = .ok (.invokeinterface 23 1, 5) := by decide +kernel
theorem dX9_wipe_13 : decode cX9_wipe 13 = .ok (.istore_n 1, 1) := by decide +kernel
theorem dX9_wipe_14 : decode cX9_wipe 14 = .ok (.aload_n 0, 1) := by decide +kernel
theorem dX9_wipe_15 : decode cX9_wipe 15 = .ok (.getfield 16, 3) := by decide +kernel
theorem dX9_wipe_18 : decode cX9_wipe 18 = .ok (.invokeinterface 232 1, 5) := by decide +kernel
theorem dX9_wipe_23 : decode cX9_wipe 23 = .ok (.iload_n 1, 1) := by decide +kernel
theorem dX9_wipe_24 : decode cX9_wipe 24 = .ok (.ireturn, 1) := by decide +kernel
theorem dX9_explains_0 : decode cX9_explains 0 = .ok (.aload_n 0, 1) := by decide +kernel
theorem dX9_explains_1 : decode cX9_explains 1 = .ok (.invokevirtual 33, 3) := by decide +kernel
theorem dX9_explains_4 : decode cX9_explains 4 = .ok (.aload_n 0, 1) := by decide +kernel
theorem dX9_explains_5 : decode cX9_explains 5 = .ok (.aload_n 0, 1) := by decide +kernel
theorem dX9_explains_6 : decode cX9_explains 6 = .ok (.getfield 10, 3) := by decide +kernel
theorem dX9_explains_9 : decode cX9_explains 9 = .ok (.iload_n 1, 1) := by decide +kernel
theorem dX9_explains_10 : decode cX9_explains 10 = .ok (.invokestatic 74, 3) := by decide +kernel
theorem dX9_explains_13 : decode cX9_explains 13 = .ok (.ifCond .ne 7, 3) := by decide +kernel
theorem dX9_explains_16 : decode cX9_explains 16 = .ok (.iconst 1, 1) := by decide +kernel
theorem dX9_explains_17 : decode cX9_explains 17 = .ok (.goto 4, 3) := by decide +kernel
theorem dX9_explains_20 : decode cX9_explains 20 = .ok (.iconst 0, 1) := by decide +kernel
theorem dX9_explains_21 : decode cX9_explains 21 = .ok (.iconst 1, 1) := by decide +kernel
theorem dX9_explains_22 : decode cX9_explains 22 = .ok (.invokevirtual 50, 3) := by decide +kernel
theorem dX9_explains_25 : decode cX9_explains 25 = .ok (.ifCond .eq 7, 3) := by decide +kernel
theorem dX9_explains_28 : decode cX9_explains 28 = .ok (.iconst (-1), 1) := by decide +kernel
theorem dX9_explains_29 : decode cX9_explains 29 = .ok (.goto 8, 3) := by decide +kernel
theorem dX9_explains_32 : decode cX9_explains 32 = .ok (.aload_n 0, 1) := by decide +kernel
theorem dX9_explains_33 : decode cX9_explains 33 = .ok (.iload_n 1, 1) := by decide +kernel
theorem dX9_explains_34 : decode cX9_explains 34 = .ok (.invokevirtual 238, 3) := by decide +kernel
theorem dX9_explains_37 : decode cX9_explains 37 = .ok (.ireturn, 1) := by decide +kernel
theorem dX9_explainer_0 : decode cX9_explainer 0 = .ok (.aload_n 0, 1) := by decide +kernel
theorem dX9_explainer_1 : decode cX9_explainer 1 = .ok (.invokevirtual 33, 3) := by decide +kernel
theorem dX9_explainer_4 : decode cX9_explainer 4 = .ok (.aload_n 0, 1) := by decide +kernel
theorem dX9_explainer_5 : decode cX9_explainer 5 = .ok (.aload_n 0, 1) := by decide +kernel
theorem dX9_explainer_6 : decode cX9_explainer 6 = .ok (.getfield 10, 3) := by decide +kernel
theorem dX9_explainer_9 : decode cX9_explainer 9 = .ok (.invokeinterface 241 1, 5) := by decide +kernel
theorem dX9_explainer_14 : decode cX9_explainer 14 = .ok (.ifCond .ne 15, 3) := by decide +kernel
theorem dX9_explainer_17 : decode cX9_explainer 17 = .ok (.aload_n 0, 1) := by decide +kernel
theorem dX9_explainer_18 : decode cX9_explainer 18 = .ok (.getfield 16, 3) := by decide +kernel
theorem dX9_explainer_21 : decode cX9_explainer 21 = .ok (.invokeinterface 241 1, 5) := by decide +kernel
theorem dX9_explainer_26 : decode cX9_explainer 26 = .ok (.ifCond .eq 7, 3) := by decide +kernel
theorem dX9_explainer_29 : decode cX9_explainer 29 = .ok (.iconst 1, 1) := by decide +kernel
theorem dX9_explainer_30 : decode cX9_explainer 30 = .ok (.goto 4, 3) := by decide +kernel
theorem dX9_explainer_33 : decode cX9_explainer 33 = .ok (.iconst 0, 1) := by decide +kernel
theorem dX9_explainer_34 : decode cX9_explainer 34 = .ok (.iconst 1, 1) := by decide +kernel
theorem dX9_explainer_35 : decode cX9_explainer 35 = .ok (.invokevirtual 50, 3) := by decide +kernel
theorem dX9_explainer_38 : decode cX9_explainer 38 = .ok (.ifCond .eq 5, 3) := by decide +kernel
theorem dX9_explainer_41 : decode cX9_explainer 41 = .ok (.iconst (-1), 1) := by decide +kernel
theorem dX9_explainer_42 : decode cX9_explainer 42 = .ok (.ireturn, 1) := by decide +kernel
theorem dX9_explainer_43 : decode cX9_explainer 43 = .ok (.iconst 0, 1) := by decide +kernel
theorem dX9_explainer_44 : decode cX9_explainer 44 = .ok (.istore_n 1, 1) := by decide +kernel
theorem dX9_explainer_45 : decode cX9_explainer 45 = .ok (.iconst 1, 1) := by decide +kernel
theorem dX9_explainer_46 : decode cX9_explainer 46 = .ok (.istore_n 2, 1) := by decide +kernel
theorem dX9_explainer_47 : decode cX9_explainer 47 = .ok (.iload_n 2, 1) := by decide +kernel
theorem dX9_explainer_48 : decode cX9_explainer 48 = .ok (.aload_n 0, 1) := by decide +kernel
theorem dX9_explainer_49 : decode cX9_explainer 49 = .ok (.getfield 10, 3) := by decide +kernel
theorem dX9_explainer_52 : decode cX9_explainer 52 = .ok (.invokeinterface 23 1, 5) := by decide +kernel
theorem dX9_explainer_57 : decode cX9_explainer 57 = .ok (.if_icmp .ge 101, 3) := by decide +kernel
theorem dX9_explainer_60 : decode cX9_explainer 60 = .ok (.aload_n 0, 1) := by decide +kernel
theorem dX9_explainer_61 : decode cX9_explainer 61 = .ok (.iload_n 2, 1) := by decide +kernel
theorem dX9_explainer_62 : decode cX9_explainer 62 = .ok (.invokevirtual 238, 3) := by decide +kernel
theorem dX9_explainer_65 : decode cX9_explainer 65 = .ok (.aload_n 0, 1) := by decide +kernel
theorem dX9_explainer_66 : decode cX9_explainer 66 = .ok (.iload_n 1, 1) := by decide +kernel
theorem dX9_explainer_67 : decode cX9_explainer 67 = .ok (.invokevirtual 238, 3) := by decide +kernel
theorem dX9_explainer_70 : decode cX9_explainer 70 = .ok (.isub, 1) := by decide +kernel
theorem dX9_explainer_71 : decode cX9_explainer 71 = .ok (.istore_n 3, 1) := by decide +kernel
theorem dX9_explainer_72 : decode cX9_explainer 72 = .ok (.aload_n 0, 1) := by decide +kernel
theorem dX9_explainer_73 : decode cX9_explainer 73 = .ok (.getfield 10, 3) := by decide +kernel
theorem dX9_explainer_76 : decode cX9_explainer 76 = .ok (.iload_n 1, 1) := by decide +kernel
theorem dX9_explainer_77 : decode cX9_explainer 77 = .ok (.invokeinterface 84 2, 5) := by decide +kernel
theorem dX9_explainer_82 : decode cX9_explainer 82 = .ok (.checkcast 54, 3) := by decide +kernel
theorem dX9_explainer_85 : decode cX9_explainer 85 = .ok (.aload_n 0, 1) := by decide +kernel
theorem dX9_explainer_86 : decode cX9_explainer 86 = .ok (.getfield 10, 3) := by decide +kernel
theorem dX9_explainer_89 : decode cX9_explainer 89 = .ok (.iconst 0, 1) := by decide +kernel
theorem dX9_explainer_90 : decode cX9_explainer 90 = .ok (.invokeinterface 84 2, 5) := by decide +kernel
theorem dX9_explainer_95 : decode cX9_explainer 95 = .ok (.checkcast 54, 3) := by decide +kernel
theorem dX9_explainer_98 : decode cX9_explainer 98 = .ok (.invokevirtual 99, 3) := by decide +kernel
theorem dX9_explainer_101 : decode cX9_explainer 101 = .ok (.aload_n 0, 1) := by decide +kernel
theorem dX9_explainer_102 : decode cX9_explainer 102 = .ok (.getfield 10, 3) := by decide +kernel
theorem dX9_explainer_105 : decode cX9_explainer 105 = .ok (.iload_n 2, 1) := by decide +kernel
theorem dX9_explainer_106 : decode cX9_explainer 106 = .ok (.invokeinterface 84 2, 5) := by decide +kernel
theorem dX9_explainer_111 : decode cX9_explainer 111 = .ok (.checkcast 54, 3) := by decide +kernel
theorem dX9_explainer_114 : decode cX9_explainer 114 = .ok (.aload_n 0, 1) := by decide +kernel
theorem dX9_explainer_115 : decode cX9_explainer 115 = .ok (.getfield 10, 3) := by decide +kernel
theorem dX9_explainer_118 : decode cX9_explainer 118 = .ok (.iconst 0, 1) := by decide +kernel
theorem dX9_explainer_119 : decode cX9_explainer 119 = .ok (.invokeinterface 84 2, 5) := by decide +kernel
theorem dX9_explainer_124 : decode cX9_explainer 124 = .ok (.checkcast 54, 3) := by decide +kernel
theorem dX9_explainer_127 : decode cX9_explainer 127 = .ok (.invokevirtual 99, 3) := by decide +kernel
theorem dX9_explainer_130 : decode cX9_explainer 130 = .ok (.isub, 1) := by decide +kernel
theorem dX9_explainer_131 : decode cX9_explainer 131 = .ok (.istore 4, 2) := by decide +kernel
theorem dX9_explainer_133 : decode cX9_explainer 133 = .ok (.iload_n 3, 1) := by decide +kernel
theorem dX9_explainer_134 : decode cX9_explainer 134 = .ok (.ifCond .gt 12, 3) := by decide +kernel
theorem dX9_explainer_137 : decode cX9_explainer 137 = .ok (.iload_n 3, 1) := by decide +kernel
theorem dX9_explainer_138 : decode cX9_explainer 138 = .ok (.ifCond .ne 12, 3) := by decide +kernel
theorem dX9_explainer_141 : decode cX9_explainer 141 = .ok (.iload 4, 2) := by decide +kernel
theorem dX9_explainer_143 : decode cX9_explainer 143 = .ok (.ifCond .le 7, 3) := by decide +kernel
theorem dX9_explainer_146 : decode cX9_explainer 146 = .ok (.iload_n 2, 1) := by decide +kernel
theorem dX9_explainer_147 : decode cX9_explainer 147 = .ok (.goto 4, 3) := by decide +kernel
theorem dX9_explainer_150 : decode cX9_explainer 150 = .ok (.iload_n 1, 1) := by decide +kernel
theorem dX9_explainer_151 : decode cX9_explainer 151 = .ok (.istore_n 1, 1) := by decide +kernel
theorem dX9_explainer_152 : decode cX9_explainer 152 = .ok (.iinc 2 1, 3) := by decide +kernel
theorem dX9_explainer_155 : decode cX9_explainer 155 = .ok (.goto (-108), 3) := by decide +kernel
theorem dX9_explainer_158 : decode cX9_explainer 158 = .ok (.iload_n 1, 1) := by decide +kernel
theorem dX9_explainer_159 : decode cX9_explainer 159 = .ok (.ireturn, 1) := by decide +kernel
theorem dX9_line_0 : decode cX9_line 0 = .ok (.aload_n 0, 1) := by decide +kernel
theorem dX9_line_1 : decode cX9_line 1 = .ok (.invokevirtual 33, 3) := by decide +kernel
theorem dX9_line_4 : decode cX9_line 4 = .ok (.aload_n 0, 1) := by decide +kernel
theorem dX9_line_5 : decode cX9_line 5 = .ok (.invokevirtual 168, 3) := by decide +kernel
theorem dX9_line_8 : decode cX9_line 8 = .ok (.ifCond .eq 7, 3) := by decide +kernel
theorem dX9_line_11 : decode cX9_line 11 = .ok (.iconst (-1), 1) := by decide +kernel
theorem dX9_line_12 : decode cX9_line 12 = .ok (.goto 10, 3) := by decide +kernel
theorem dX9_line_15 : decode cX9_line 15 = .ok (.aload_n 0, 1) := by decide +kernel
theorem dX9_line_16 : decode cX9_line 16 = .ok (.invokevirtual 268, 3) := by decide +kernel
theorem dX9_line_19 : decode cX9_line 19 = .ok (.invokevirtual 271, 3) := by decide +kernel
theorem dX9_line_22 : decode cX9_line 22 = .ok (.ireturn, 1) := by decide +kernel
theorem dX9_sign_0 : decode cX9_sign 0 = .ok (.aload_n 0, 1) := by decide +kernel
theorem dX9_sign_1 : decode cX9_sign 1 = .ok (.invokevirtual 33, 3) := by decide +kernel
theorem dX9_sign_4 : decode cX9_sign 4 = .ok (.aload_n 0, 1) := by decide +kernel
theorem dX9_sign_5 : decode cX9_sign 5 = .ok (.invokevirtual 168, 3) := by decide +kernel
theorem dX9_sign_8 : decode cX9_sign 8 = .ok (.ifCond .ne 35, 3) := by decide +kernel
theorem dX9_sign_11 : decode cX9_sign 11 = .ok (.aload_n 0, 1) := by decide +kernel
theorem dX9_sign_12 : decode cX9_sign 12 = .ok (.iload_n 1, 1) := by decide +kernel
theorem dX9_sign_13 : decode cX9_sign 13 = .ok (.i2l, 1) := by decide +kernel
theorem dX9_sign_14 : decode cX9_sign 14 = .ok (.lconst 0, 1) := by decide +kernel
theorem dX9_sign_15 : decode cX9_sign 15 = .ok (.aload_n 0, 1) := by decide +kernel
theorem dX9_sign_16 : decode cX9_sign 16 = .ok (.invokevirtual 268, 3) := by decide +kernel
theorem dX9_sign_19 : decode cX9_sign 19 = .ok (.invokevirtual 271, 3) := by decide +kernel
theorem dX9_sign_22 : decode cX9_sign 22 = .ok (.iconst 1, 1) := by decide +kernel
theorem dX9_sign_23 : decode cX9_sign 23 = .ok (.isub, 1) := by decide +kernel
theorem dX9_sign_24 : decode cX9_sign 24 = .ok (.i2l, 1) := by decide +kernel
theorem dX9_sign_25 : decode cX9_sign 25 = .ok (.invokestatic 29, 3) := by decide +kernel
theorem dX9_sign_28 : decode cX9_sign 28 = .ok (.ifCond .ne 7, 3) := by decide +kernel
theorem dX9_sign_31 : decode cX9_sign 31 = .ok (.iconst 1, 1) := by decide +kernel
theorem dX9_sign_32 : decode cX9_sign 32 = .ok (.goto 4, 3) := by decide +kernel
theorem dX9_sign_35 : decode cX9_sign 35 = .ok (.iconst 0, 1) := by decide +kernel
theorem dX9_sign_36 : decode cX9_sign 36 = .ok (.iconst 2, 1) := by decide +kernel
theorem dX9_sign_37 : decode cX9_sign 37 = .ok (.invokevirtual 50, 3) := by decide +kernel
theorem dX9_sign_40 : decode cX9_sign 40 = .ok (.ifCond .eq 8, 3) := by decide +kernel
theorem dX9_sign_43 : decode cX9_sign 43 = .ok (.bipush 32, 2) := by decide +kernel
theorem dX9_sign_45 : decode cX9_sign 45 = .ok (.goto 11, 3) := by decide +kernel
theorem dX9_sign_48 : decode cX9_sign 48 = .ok (.aload_n 0, 1) := by decide +kernel
theorem dX9_sign_49 : decode cX9_sign 49 = .ok (.invokevirtual 268, 3) := by decide +kernel
theorem dX9_sign_52 : decode cX9_sign 52 = .ok (.iload_n 1, 1) := by decide +kernel
theorem dX9_sign_53 : decode cX9_sign 53 = .ok (.invokevirtual 274, 3) := by decide +kernel
theorem dX9_sign_56 : decode cX9_sign 56 = .ok (.ireturn, 1) := by decide +kernel
theorem dX9_checksum_0 : decode cX9_checksum 0 = .ok (.aload_n 0, 1) := by decide +kernel
theorem dX9_checksum_1 : decode cX9_checksum 1 = .ok (.invokevirtual 33, 3) := by decide +kernel
theorem dX9_checksum_4 : decode cX9_checksum 4 = .ok (.ldc2_w 277, 3) := by decide +kernel
theorem dX9_checksum_7 : decode cX9_checksum 7 = .ok (.lstore_n 1, 1) := by decide +kernel
theorem dX9_checksum_8 : decode cX9_checksum 8 = .ok (.aload_n 0, 1) := by decide +kernel
theorem dX9_checksum_9 : decode cX9_checksum 9 = .ok (.getfield 106, 3) := by decide +kernel
theorem dX9_checksum_12 : decode cX9_checksum 12 = .ok (.ifnull 112, 3) := by decide +kernel
theorem dX9_checksum_15 : decode cX9_checksum 15 = .ok (.aload_n 0, 1) := by decide +kernel
theorem dX9_checksum_16 : decode cX9_checksum 16 = .ok (.getfield 106, 3) := by decide +kernel
theorem dX9_checksum_19 : decode cX9_checksum 19 = .ok (.getfield 110, 3) := by decide +kernel
theorem dX9_checksum_22 : decode cX9_checksum 22 = .ok (.getfield 122, 3) := by decide +kernel
theorem dX9_checksum_25 : decode cX9_checksum 25 = .ok (.astore_n 3, 1) := by decide +kernel
theorem dX9_checksum_26 : decode cX9_checksum 26 = .ok (.aload_n 3, 1) := by decide +kernel
theorem dX9_checksum_27 : decode cX9_checksum 27 = .ok (.arraylength, 1) := by decide +kernel
theorem dX9_checksum_28 : decode cX9_checksum 28 = .ok (.istore 4, 2) := by decide +kernel
theorem dX9_checksum_30 : decode cX9_checksum 30 = .ok (.iconst 0, 1) := by decide +kernel
theorem dX9_checksum_31 : decode cX9_checksum 31 = .ok (.istore 5, 2) := by decide +kernel
theorem dX9_checksum_33 : decode cX9_checksum 33 = .ok (.iload 5, 2) := by decide +kernel
theorem dX9_checksum_35 : decode cX9_checksum 35 = .ok (.iload 4, 2) := by decide +kernel
theorem dX9_checksum_37 : decode cX9_checksum 37 = .ok (.if_icmp .ge 25, 3) := by decide +kernel
theorem dX9_checksum_40 : decode cX9_checksum 40 = .ok (.aload_n 3, 1) := by decide +kernel
theorem dX9_checksum_41 : decode cX9_checksum 41 = .ok (.iload 5, 2) := by decide +kernel
theorem dX9_checksum_43 : decode cX9_checksum 43 = .ok (.iaload, 1) := by decide +kernel
theorem dX9_checksum_44 : decode cX9_checksum 44 = .ok (.istore 6, 2) := by decide +kernel
theorem dX9_checksum_46 : decode cX9_checksum 46 = .ok (.ldc2_w 279, 3) := by decide +kernel
theorem dX9_checksum_49 : decode cX9_checksum 49 = .ok (.lload_n 1, 1) := by decide +kernel
theorem dX9_checksum_50 : decode cX9_checksum 50 = .ok (.lmul, 1) := by decide +kernel
theorem dX9_checksum_51 : decode cX9_checksum 51 = .ok (.iload 6, 2) := by decide +kernel
theorem dX9_checksum_53 : decode cX9_checksum 53 = .ok (.i2l, 1) := by decide +kernel
theorem dX9_checksum_54 : decode cX9_checksum 54 = .ok (.ladd, 1) := by decide +kernel
theorem dX9_checksum_55 : decode cX9_checksum 55 = .ok (.lstore_n 1, 1) := by decide +kernel
theorem dX9_checksum_56 : decode cX9_checksum 56 = .ok (.iinc 5 1, 3) := by decide +kernel
theorem dX9_checksum_59 : decode cX9_checksum 59 = .ok (.goto (-26), 3) := by decide +kernel
theorem dX9_checksum_62 : decode cX9_checksum 62 = .ok (.ldc2_w 279, 3) := by decide +kernel
theorem dX9_checksum_65 : decode cX9_checksum 65 = .ok (.lload_n 1, 1) := by decide +kernel
theorem dX9_checksum_66 : decode cX9_checksum 66 = .ok (.lmul, 1) := by decide +kernel
theorem dX9_checksum_67 : decode cX9_checksum 67 = .ok (.aload_n 0, 1) := by decide +kernel
theorem dX9_checksum_68 : decode cX9_checksum 68 = .ok (.getfield 106, 3) := by decide +kernel
theorem dX9_checksum_71 : decode cX9_checksum 71 = .ok (.getfield 110, 3) := by decide +kernel
theorem dX9_checksum_74 : decode cX9_checksum 74 = .ok (.getfield 171, 3) := by decide +kernel
theorem dX9_checksum_77 : decode cX9_checksum 77 = .ok (.iconst 0, 1) := by decide +kernel
theorem dX9_checksum_78 : decode cX9_checksum 78 = .ok (.iaload, 1) := by decide +kernel
theorem dX9_checksum_79 : decode cX9_checksum 79 = .ok (.i2l, 1) := by decide +kernel
theorem dX9_checksum_80 : decode cX9_checksum 80 = .ok (.ladd, 1) := by decide +kernel
theorem dX9_checksum_81 : decode cX9_checksum 81 = .ok (.lstore_n 1, 1) := by decide +kernel
theorem dX9_checksum_82 : decode cX9_checksum 82 = .ok (.ldc2_w 279, 3) := by decide +kernel
theorem dX9_checksum_85 : decode cX9_checksum 85 = .ok (.lload_n 1, 1) := by decide +kernel
theorem dX9_checksum_86 : decode cX9_checksum 86 = .ok (.lmul, 1) := by decide +kernel
theorem dX9_checksum_87 : decode cX9_checksum 87 = .ok (.aload_n 0, 1) := by decide +kernel
theorem dX9_checksum_88 : decode cX9_checksum 88 = .ok (.getfield 106, 3) := by decide +kernel
theorem dX9_checksum_91 : decode cX9_checksum 91 = .ok (.getfield 110, 3) := by decide +kernel
theorem dX9_checksum_94 : decode cX9_checksum 94 = .ok (.getfield 171, 3) := by decide +kernel
theorem dX9_checksum_97 : decode cX9_checksum 97 = .ok (.iconst 1, 1) := by decide +kernel
theorem dX9_checksum_98 : decode cX9_checksum 98 = .ok (.iaload, 1) := by decide +kernel
theorem dX9_checksum_99 : decode cX9_checksum 99 = .ok (.i2l, 1) := by decide +kernel
theorem dX9_checksum_100 : decode cX9_checksum 100 = .ok (.ladd, 1) := by decide +kernel
theorem dX9_checksum_101 : decode cX9_checksum 101 = .ok (.lstore_n 1, 1) := by decide +kernel
theorem dX9_checksum_102 : decode cX9_checksum 102 = .ok (.ldc2_w 279, 3) := by decide +kernel
theorem dX9_checksum_105 : decode cX9_checksum 105 = .ok (.lload_n 1, 1) := by decide +kernel
theorem dX9_checksum_106 : decode cX9_checksum 106 = .ok (.lmul, 1) := by decide +kernel
theorem dX9_checksum_107 : decode cX9_checksum 107 = .ok (.aload_n 0, 1) := by decide +kernel
theorem dX9_checksum_108 : decode cX9_checksum 108 = .ok (.getfield 106, 3) := by decide +kernel
theorem dX9_checksum_111 : decode cX9_checksum 111 = .ok (.getfield 159, 3) := by decide +kernel
theorem dX9_checksum_114 : decode cX9_checksum 114 = .ok (.invokeinterface 23 1, 5) := by decide +kernel
theorem dX9_checksum_119 : decode cX9_checksum 119 = .ok (.i2l, 1) := by decide +kernel
theorem dX9_checksum_120 : decode cX9_checksum 120 = .ok (.ladd, 1) := by decide +kernel
theorem dX9_checksum_121 : decode cX9_checksum 121 = .ok (.lconst 1, 1) := by decide +kernel
theorem dX9_checksum_122 : decode cX9_checksum 122 = .ok (.lsub, 1) := by decide +kernel
theorem dX9_checksum_123 : decode cX9_checksum 123 = .ok (.lstore_n 1, 1) := by decide +kernel
theorem dX9_checksum_124 : decode cX9_checksum 124 = .ok (.lload_n 1, 1) := by decide +kernel
theorem dX9_checksum_125 : decode cX9_checksum 125 = .ok (.lreturn, 1) := by decide +kernel
theorem dX9_freeShare_0 : decode cX9_freeShare 0 = .ok (.aload_n 0, 1) := by decide +kernel
theorem dX9_freeShare_1 : decode cX9_freeShare 1 = .ok (.invokevirtual 33, 3) := by decide +kernel
theorem dX9_freeShare_4 : decode cX9_freeShare 4 = .ok (.aload_n 0, 1) := by decide +kernel
theorem dX9_freeShare_5 : decode cX9_freeShare 5 = .ok (.invokevirtual 128, 3) := by decide +kernel
theorem dX9_freeShare_8 : decode cX9_freeShare 8 = .ok (.ifCond .eq 5, 3) := by decide +kernel
theorem dX9_freeShare_11 : decode cX9_freeShare 11 = .ok (.fconst 0, 1) := by decide +kernel
theorem dX9_freeShare_12 : decode cX9_freeShare 12 = .ok (.freturn, 1) := by decide +kernel
theorem dX9_freeShare_13 : decode cX9_freeShare 13 = .ok (.iconst 0, 1) := by decide +kernel
theorem dX9_freeShare_14 : decode cX9_freeShare 14 = .ok (.istore_n 1, 1) := by decide +kernel
theorem dX9_freeShare_15 : decode cX9_freeShare 15 = .ok (.iconst 0, 1) := by decide +kernel
theorem dX9_freeShare_16 : decode cX9_freeShare 16 = .ok (.istore_n 2, 1) := by decide +kernel
theorem dX9_freeShare_17 : decode cX9_freeShare 17 = .ok (.iload_n 2, 1) := by decide +kernel
theorem dX9_freeShare_18 : decode cX9_freeShare 18 = .ok (.aload_n 0, 1) := by decide +kernel
theorem dX9_freeShare_19 : decode cX9_freeShare 19 = .ok (.getfield 106, 3) := by decide +kernel
theorem dX9_freeShare_22 : decode cX9_freeShare 22 = .ok (.getfield 110, 3) := by decide +kernel
theorem dX9_freeShare_25 : decode cX9_freeShare 25 = .ok (.getfield 122, 3) := by decide +kernel
theorem dX9_freeShare_28 : decode cX9_freeShare 28 = .ok (.arraylength, 1) := by decide +kernel
theorem dX9_freeShare_29 : decode cX9_freeShare 29 = .ok (.if_icmp .ge 33, 3) := by decide +kernel
theorem dX9_freeShare_32 : decode cX9_freeShare 32 = .ok (.iload_n 1, 1) := by decide +kernel
theorem dX9_freeShare_33 : decode cX9_freeShare 33 = .ok (.aload_n 0, 1) := by decide +kernel
theorem dX9_freeShare_34 : decode cX9_freeShare 34 = .ok (.getfield 106, 3) := by decide +kernel
theorem dX9_freeShare_37 : decode cX9_freeShare 37 = .ok (.getfield 110, 3) := by decide +kernel
theorem dX9_freeShare_40 : decode cX9_freeShare 40 = .ok (.iload_n 2, 1) := by decide +kernel
theorem dX9_freeShare_41 : decode cX9_freeShare 41 = .ok (.invokevirtual 144, 3) := by decide +kernel
theorem dX9_freeShare_44 : decode cX9_freeShare 44 = .ok (.bipush 45, 2) := by decide +kernel
theorem dX9_freeShare_46 : decode cX9_freeShare 46 = .ok (.if_icmp .ne 7, 3) := by decide +kernel
theorem dX9_freeShare_49 : decode cX9_freeShare 49 = .ok (.iconst 1, 1) := by decide +kernel
theorem dX9_freeShare_50 : decode cX9_freeShare 50 = .ok (.goto 4, 3) := by decide +kernel
theorem dX9_freeShare_53 : decode cX9_freeShare 53 = .ok (.iconst 0, 1) := by decide +kernel
theorem dX9_freeShare_54 : decode cX9_freeShare 54 = .ok (.iadd, 1) := by decide +kernel
theorem dX9_freeShare_55 : decode cX9_freeShare 55 = .ok (.istore_n 1, 1) := by decide +kernel
theorem dX9_freeShare_56 : decode cX9_freeShare 56 = .ok (.iinc 2 1, 3) := by decide +kernel
theorem dX9_freeShare_59 : decode cX9_freeShare 59 = .ok (.goto (-42), 3) := by decide +kernel
theorem dX9_freeShare_62 : decode cX9_freeShare 62 = .ok (.iload_n 1, 1) := by decide +kernel
theorem dX9_freeShare_63 : decode cX9_freeShare 63 = .ok (.i2f, 1) := by decide +kernel
theorem dX9_freeShare_64 : decode cX9_freeShare 64 = .ok (.aload_n 0, 1) := by decide +kernel
theorem dX9_freeShare_65 : decode cX9_freeShare 65 = .ok (.getfield 106, 3) := by decide +kernel
theorem dX9_freeShare_68 : decode cX9_freeShare 68 = .ok (.getfield 110, 3) := by decide +kernel
theorem dX9_freeShare_71 : decode cX9_freeShare 71 = .ok (.getfield 253, 3) := by decide +kernel
theorem dX9_freeShare_74 : decode cX9_freeShare 74 = .ok (.getfield 57, 3) := by decide +kernel
theorem dX9_freeShare_77 : decode cX9_freeShare 77 = .ok (.i2f, 1) := by decide +kernel
theorem dX9_freeShare_78 : decode cX9_freeShare 78 = .ok (.fdiv, 1) := by decide +kernel
theorem dX9_freeShare_79 : decode cX9_freeShare 79 = .ok (.freturn, 1) := by decide +kernel
theorem dX9_meanUnlike_0 : decode cX9_meanUnlike 0 = .ok (.aload_n 0, 1) := by decide +kernel
theorem dX9_meanUnlike_1 : decode cX9_meanUnlike 1 = .ok (.invokevirtual 33, 3) := by decide +kernel
theorem dX9_meanUnlike_4 : decode cX9_meanUnlike 4 = .ok (.iconst 0, 1) := by decide +kernel
theorem dX9_meanUnlike_5 : decode cX9_meanUnlike 5 = .ok (.istore_n 1, 1) := by decide +kernel
theorem dX9_meanUnlike_6 : decode cX9_meanUnlike 6 = .ok (.iconst 1, 1) := by decide +kernel
theorem dX9_meanUnlike_7 : decode cX9_meanUnlike 7 = .ok (.istore_n 2, 1) := by decide +kernel
theorem dX9_meanUnlike_8 : decode cX9_meanUnlike 8 = .ok (.iload_n 2, 1) := by decide +kernel
theorem dX9_meanUnlike_9 : decode cX9_meanUnlike 9 = .ok (.aload_n 0, 1) := by decide +kernel
theorem dX9_meanUnlike_10 : decode cX9_meanUnlike 10 = .ok (.getfield 10, 3) := by decide +kernel
theorem dX9_meanUnlike_13 : decode cX9_meanUnlike 13 = .ok (.invokeinterface 23 1, 5) := by decide +kernel
theorem dX9_meanUnlike_18 : decode cX9_meanUnlike 18 = .ok (.if_icmp .ge 45, 3) := by decide +kernel
theorem dX9_meanUnlike_21 : decode cX9_meanUnlike 21 = .ok (.iload_n 1, 1) := by decide +kernel
theorem dX9_meanUnlike_22 : decode cX9_meanUnlike 22 = .ok (.aload_n 0, 1) := by decide +kernel
theorem dX9_meanUnlike_23 : decode cX9_meanUnlike 23 = .ok (.getfield 10, 3) := by decide +kernel
theorem dX9_meanUnlike_26 : decode cX9_meanUnlike 26 = .ok (.iload_n 2, 1) := by decide +kernel
theorem dX9_meanUnlike_27 : decode cX9_meanUnlike 27 = .ok (.invokeinterface 84 2, 5) := by decide +kernel
theorem dX9_meanUnlike_32 : decode cX9_meanUnlike 32 = .ok (.checkcast 54, 3) := by decide +kernel
theorem dX9_meanUnlike_35 : decode cX9_meanUnlike 35 = .ok (.aload_n 0, 1) := by decide +kernel
theorem dX9_meanUnlike_36 : decode cX9_meanUnlike 36 = .ok (.getfield 10, 3) := by decide +kernel
theorem dX9_meanUnlike_39 : decode cX9_meanUnlike 39 = .ok (.aload_n 0, 1) := by decide +kernel
theorem dX9_meanUnlike_40 : decode cX9_meanUnlike 40 = .ok (.iload_n 2, 1) := by decide +kernel
theorem dX9_meanUnlike_41 : decode cX9_meanUnlike 41 = .ok (.invokevirtual 103, 3) := by decide +kernel
theorem dX9_meanUnlike_44 : decode cX9_meanUnlike 44 = .ok (.invokeinterface 84 2, 5) := by decide +kernel
theorem dX9_meanUnlike_49 : decode cX9_meanUnlike 49 = .ok (.checkcast 54, 3) := by decide +kernel
theorem dX9_meanUnlike_52 : decode cX9_meanUnlike 52 = .ok (.invokevirtual 99, 3) := by decide +kernel
theorem dX9_meanUnlike_55 : decode cX9_meanUnlike 55 = .ok (.iadd, 1) := by decide +kernel
theorem dX9_meanUnlike_56 : decode cX9_meanUnlike 56 = .ok (.istore_n 1, 1) := by decide +kernel
theorem dX9_meanUnlike_57 : decode cX9_meanUnlike 57 = .ok (.iinc 2 1, 3) := by decide +kernel
theorem dX9_meanUnlike_60 : decode cX9_meanUnlike 60 = .ok (.goto (-52), 3) := by decide +kernel
theorem dX9_meanUnlike_63 : decode cX9_meanUnlike 63 = .ok (.aload_n 0, 1) := by decide +kernel
theorem dX9_meanUnlike_64 : decode cX9_meanUnlike 64 = .ok (.aload_n 0, 1) := by decide +kernel
theorem dX9_meanUnlike_65 : decode cX9_meanUnlike 65 = .ok (.getfield 10, 3) := by decide +kernel
theorem dX9_meanUnlike_68 : decode cX9_meanUnlike 68 = .ok (.invokeinterface 23 1, 5) := by decide +kernel
theorem dX9_meanUnlike_73 : decode cX9_meanUnlike 73 = .ok (.iconst 2, 1) := by decide +kernel
theorem dX9_meanUnlike_74 : decode cX9_meanUnlike 74 = .ok (.if_icmp .ge 7, 3) := by decide +kernel
theorem dX9_meanUnlike_77 : decode cX9_meanUnlike 77 = .ok (.iconst 1, 1) := by decide +kernel
theorem dX9_meanUnlike_78 : decode cX9_meanUnlike 78 = .ok (.goto 4, 3) := by decide +kernel
theorem dX9_meanUnlike_81 : decode cX9_meanUnlike 81 = .ok (.iconst 0, 1) := by decide +kernel
theorem dX9_meanUnlike_82 : decode cX9_meanUnlike 82 = .ok (.iconst 1, 1) := by decide +kernel
theorem dX9_meanUnlike_83 : decode cX9_meanUnlike 83 = .ok (.invokevirtual 50, 3) := by decide +kernel
theorem dX9_meanUnlike_86 : decode cX9_meanUnlike 86 = .ok (.ifCond .eq 7, 3) := by decide +kernel
theorem dX9_meanUnlike_89 : decode cX9_meanUnlike 89 = .ok (.dconst 0, 1) := by decide +kernel
theorem dX9_meanUnlike_90 : decode cX9_meanUnlike 90 = .ok (.goto 18, 3) := by decide +kernel
theorem dX9_meanUnlike_93 : decode cX9_meanUnlike 93 = .ok (.iload_n 1, 1) := by decide +kernel
theorem dX9_meanUnlike_94 : decode cX9_meanUnlike 94 = .ok (.i2d, 1) := by decide +kernel
theorem dX9_meanUnlike_95 : decode cX9_meanUnlike 95 = .ok (.aload_n 0, 1) := by decide +kernel
theorem dX9_meanUnlike_96 : decode cX9_meanUnlike 96 = .ok (.getfield 10, 3) := by decide +kernel
theorem dX9_meanUnlike_99 : decode cX9_meanUnlike 99 = .ok (.invokeinterface 23 1, 5) := by decide +kernel
theorem dX9_meanUnlike_104 : decode cX9_meanUnlike 104 = .ok (.iconst 1, 1) := by decide +kernel
theorem dX9_meanUnlike_105 : decode cX9_meanUnlike 105 = .ok (.isub, 1) := by decide +kernel
theorem dX9_meanUnlike_106 : decode cX9_meanUnlike 106 = .ok (.i2d, 1) := by decide +kernel
theorem dX9_meanUnlike_107 : decode cX9_meanUnlike 107 = .ok (.ddiv, 1) := by decide +kernel
theorem dX9_meanUnlike_108 : decode cX9_meanUnlike 108 = .ok (.dreturn, 1) := by decide +kernel
theorem dX9_isSound_0 : decode cX9_isSound 0 = .ok (.aload_n 0, 1) := by decide +kernel
theorem dX9_isSound_1 : decode cX9_isSound 1 = .ok (.invokevirtual 33, 3) := by decide +kernel
theorem dX9_isSound_4 : decode cX9_isSound 4 = .ok (.iconst 1, 1) := by decide +kernel
theorem dX9_isSound_5 : decode cX9_isSound 5 = .ok (.ireturn, 1) := by decide +kernel
theorem dJ5_init_d00df_0 : decode cJ5_init_d00df 0 = .ok (.aload_n 0, 1) := by decide +kernel
theorem dJ5_init_d00df_1 : decode cJ5_init_d00df 1 = .ok (.invokespecial 3, 3) := by decide +kernel
theorem dJ5_init_d00df_4 : decode cJ5_init_d00df 4 = .ok (.getstatic 18, 3) := by decide +kernel
theorem dJ5_init_d00df_7 : decode cJ5_init_d00df 7 = .ok (.ifCond .eq 18, 3) := by decide +kernel
theorem dJ5_init_d00df_10 : decode cJ5_init_d00df 10 = .ok (.aload_n 0, 1) := by decide +kernel
theorem dJ5_init_d00df_11 : decode cJ5_init_d00df 11 = .ok (.iload_n 1, 1) := by decide +kernel
theorem dJ5_init_d00df_12 : decode cJ5_init_d00df 12 = .ok (.newarray .byte, 2) := by decide +kernel
theorem dJ5_init_d00df_14 : decode cJ5_init_d00df 14 = .ok (.putfield 15, 3) := by decide +kernel
theorem dJ5_init_d00df_17 : decode cJ5_init_d00df 17 = .ok (.aload_n 0, 1) := by decide +kernel
theorem dJ5_init_d00df_18 : decode cJ5_init_d00df 18 = .ok (.iconst 0, 1) := by decide +kernel
theorem dJ5_init_d00df_19 : decode cJ5_init_d00df 19 = .ok (.putfield 22, 3) := by decide +kernel
theorem dJ5_init_d00df_22 : decode cJ5_init_d00df 22 = .ok (.goto 16, 3) := by decide +kernel
theorem dJ5_init_d00df_25 : decode cJ5_init_d00df 25 = .ok (.aload_n 0, 1) := by decide +kernel
theorem dJ5_init_d00df_26 : decode cJ5_init_d00df 26 = .ok (.iload_n 1, 1) := by decide +kernel
theorem dJ5_init_d00df_27 : decode cJ5_init_d00df 27 = .ok (.invokestatic 26, 3) := by decide +kernel
theorem dJ5_init_d00df_30 : decode cJ5_init_d00df 30 = .ok (.putfield 15, 3) := by decide +kernel
theorem dJ5_init_d00df_33 : decode cJ5_init_d00df 33 = .ok (.aload_n 0, 1) := by decide +kernel
theorem dJ5_init_d00df_34 : decode cJ5_init_d00df 34 = .ok (.iconst 1, 1) := by decide +kernel
theorem dJ5_init_d00df_35 : decode cJ5_init_d00df 35 = .ok (.putfield 22, 3) := by decide +kernel
theorem dJ5_init_d00df_38 : decode cJ5_init_d00df 38 = .ok (.return_, 1) := by decide +kernel
theorem dJ6_valueOf_2dffe_0 : decode cJ6_valueOf_2dffe 0 = .ok (.iload_n 0, 1) := by decide +kernel
theorem dJ6_valueOf_2dffe_1 : decode cJ6_valueOf_2dffe 1 = .ok (.bipush (-128), 2) := by decide +kernel
theorem dJ6_valueOf_2dffe_3 : decode cJ6_valueOf_2dffe 3 = .ok (.if_icmp .lt 20, 3) := by decide +kernel
theorem dJ6_valueOf_2dffe_6 : decode cJ6_valueOf_2dffe 6 = .ok (.iload_n 0, 1) := by decide +kernel
theorem dJ6_valueOf_2dffe_7 : decode cJ6_valueOf_2dffe 7 = .ok (.getstatic 191, 3) := by decide +kernel
theorem dJ6_valueOf_2dffe_10 : decode cJ6_valueOf_2dffe 10 = .ok (.if_icmp .gt 13, 3) := by decide +kernel
theorem dJ6_valueOf_2dffe_13 : decode cJ6_valueOf_2dffe 13 = .ok (.getstatic 195, 3) := by decide +kernel
theorem dJ6_valueOf_2dffe_16 : decode cJ6_valueOf_2dffe 16 = .ok (.iload_n 0, 1) := by decide +kernel
theorem dJ6_valueOf_2dffe_17 : decode cJ6_valueOf_2dffe 17 = .ok (.sipush 128, 3) := by decide +kernel
theorem dJ6_valueOf_2dffe_20 : decode cJ6_valueOf_2dffe 20 = .ok (.iadd, 1) := by decide +kernel
theorem dJ6_valueOf_2dffe_21 : decode cJ6_valueOf_2dffe 21 = .ok (.aaload, 1) := by decide +kernel
theorem dJ6_valueOf_2dffe_22 : decode cJ6_valueOf_2dffe 22 = .ok (.areturn, 1) := by decide +kernel
theorem dJ6_valueOf_2dffe_23 : decode cJ6_valueOf_2dffe 23 = .ok (.new 1, 3) := by decide +kernel
theorem dJ6_valueOf_2dffe_26 : decode cJ6_valueOf_2dffe 26 = .ok (.dup, 1) := by decide +kernel
theorem dJ6_valueOf_2dffe_27 : decode cJ6_valueOf_2dffe 27 = .ok (.iload_n 0, 1) := by decide +kernel
theorem dJ6_valueOf_2dffe_28 : decode cJ6_valueOf_2dffe 28 = .ok (.invokespecial 199, 3) := by decide +kernel
theorem dJ6_valueOf_2dffe_31 : decode cJ6_valueOf_2dffe 31 = .ok (.areturn, 1) := by decide +kernel
theorem dJ9_max_7cf53_0 : decode cJ9_max_7cf53 0 = .ok (.iload_n 0, 1) := by decide +kernel
theorem dJ9_max_7cf53_1 : decode cJ9_max_7cf53 1 = .ok (.iload_n 1, 1) := by decide +kernel
theorem dJ9_max_7cf53_2 : decode cJ9_max_7cf53 2 = .ok (.if_icmp .lt 7, 3) := by decide +kernel
theorem dJ9_max_7cf53_5 : decode cJ9_max_7cf53 5 = .ok (.iload_n 0, 1) := by decide +kernel
theorem dJ9_max_7cf53_6 : decode cJ9_max_7cf53 6 = .ok (.goto 4, 3) := by decide +kernel
theorem dJ9_max_7cf53_9 : decode cJ9_max_7cf53 9 = .ok (.iload_n 1, 1) := by decide +kernel
theorem dJ9_max_7cf53_10 : decode cJ9_max_7cf53 10 = .ok (.ireturn, 1) := by decide +kernel
theorem dJ9_min_7cf53_0 : decode cJ9_min_7cf53 0 = .ok (.iload_n 0, 1) := by decide +kernel
theorem dJ9_min_7cf53_1 : decode cJ9_min_7cf53 1 = .ok (.iload_n 1, 1) := by decide +kernel
theorem dJ9_min_7cf53_2 : decode cJ9_min_7cf53 2 = .ok (.if_icmp .gt 7, 3) := by decide +kernel
theorem dJ9_min_7cf53_5 : decode cJ9_min_7cf53 5 = .ok (.iload_n 0, 1) := by decide +kernel
theorem dJ9_min_7cf53_6 : decode cJ9_min_7cf53 6 = .ok (.goto 4, 3) := by decide +kernel
theorem dJ9_min_7cf53_9 : decode cJ9_min_7cf53 9 = .ok (.iload_n 1, 1) := by decide +kernel
theorem dJ9_min_7cf53_10 : decode cJ9_min_7cf53 10 = .ok (.ireturn, 1) := by decide +kernel
theorem dJ0_length_8abf5_0 : decode cJ0_length_8abf5 0 = .ok (.aload_n 0, 1) := by decide +kernel
theorem dJ0_length_8abf5_1 : decode cJ0_length_8abf5 1 = .ok (.getfield 9, 3) := by decide +kernel
theorem dJ0_length_8abf5_4 : decode cJ0_length_8abf5 4 = .ok (.arraylength, 1) := by decide +kernel
theorem dJ0_length_8abf5_5 : decode cJ0_length_8abf5 5 = .ok (.aload_n 0, 1) := by decide +kernel
theorem dJ0_length_8abf5_6 : decode cJ0_length_8abf5 6 = .ok (.invokevirtual 335, 3) := by decide +kernel
theorem dJ0_length_8abf5_9 : decode cJ0_length_8abf5 9 = .ok (.ishr, 1) := by decide +kernel
theorem dJ0_length_8abf5_10 : decode cJ0_length_8abf5 10 = .ok (.ireturn, 1) := by decide +kernel
theorem dJ0_indexOf_0f7a4_0 : decode cJ0_indexOf_0f7a4 0 = .ok (.aload_n 0, 1) := by decide +kernel
theorem dJ0_indexOf_0f7a4_1 : decode cJ0_indexOf_0f7a4 1 = .ok (.iload_n 1, 1) := by decide +kernel
theorem dJ0_indexOf_0f7a4_2 : decode cJ0_indexOf_0f7a4 2 = .ok (.iconst 0, 1) := by decide +kernel
theorem dJ0_indexOf_0f7a4_3 : decode cJ0_indexOf_0f7a4 3 = .ok (.invokevirtual 633, 3) := by decide +kernel
theorem dJ0_indexOf_0f7a4_6 : decode cJ0_indexOf_0f7a4 6 = .ok (.ireturn, 1) := by decide +kernel
theorem dJ0_indexOf_7cf53_0 : decode cJ0_indexOf_7cf53 0 = .ok (.aload_n 0, 1) := by decide +kernel
theorem dJ0_indexOf_7cf53_1 : decode cJ0_indexOf_7cf53 1 = .ok (.invokevirtual 492, 3) := by decide +kernel
theorem dJ0_indexOf_7cf53_4 : decode cJ0_indexOf_7cf53 4 = .ok (.ifCond .eq 19, 3) := by decide +kernel
theorem dJ0_indexOf_7cf53_7 : decode cJ0_indexOf_7cf53 7 = .ok (.aload_n 0, 1) := by decide +kernel
theorem dJ0_indexOf_7cf53_8 : decode cJ0_indexOf_7cf53 8 = .ok (.getfield 9, 3) := by decide +kernel
theorem dJ0_indexOf_7cf53_11 : decode cJ0_indexOf_7cf53 11 = .ok (.iload_n 1, 1) := by decide +kernel
theorem dJ0_indexOf_7cf53_12 : decode cJ0_indexOf_7cf53 12 = .ok (.iload_n 2, 1) := by decide +kernel
theorem dJ0_indexOf_7cf53_13 : decode cJ0_indexOf_7cf53 13 = .ok (.aload_n 0, 1) := by decide +kernel
theorem dJ0_indexOf_7cf53_14 : decode cJ0_indexOf_7cf53 14 = .ok (.invokevirtual 505, 3) := by decide +kernel
theorem dJ0_indexOf_7cf53_17 : decode cJ0_indexOf_7cf53 17 = .ok (.invokestatic 637, 3) := by decide +kernel
theorem dJ0_indexOf_7cf53_20 : decode cJ0_indexOf_7cf53 20 = .ok (.goto 16, 3) := by decide +kernel
theorem dJ0_indexOf_7cf53_23 : decode cJ0_indexOf_7cf53 23 = .ok (.aload_n 0, 1) := by decide +kernel
theorem dJ0_indexOf_7cf53_24 : decode cJ0_indexOf_7cf53 24 = .ok (.getfield 9, 3) := by decide +kernel
theorem dJ0_indexOf_7cf53_27 : decode cJ0_indexOf_7cf53 27 = .ok (.iload_n 1, 1) := by decide +kernel
theorem dJ0_indexOf_7cf53_28 : decode cJ0_indexOf_7cf53 28 = .ok (.iload_n 2, 1) := by decide +kernel
theorem dJ0_indexOf_7cf53_29 : decode cJ0_indexOf_7cf53 29 = .ok (.aload_n 0, 1) := by decide +kernel
theorem dJ0_indexOf_7cf53_30 : decode cJ0_indexOf_7cf53 30 = .ok (.invokevirtual 505, 3) := by decide +kernel
theorem dJ0_indexOf_7cf53_33 : decode cJ0_indexOf_7cf53 33 = .ok (.invokestatic 640, 3) := by decide +kernel
theorem dJ0_indexOf_7cf53_36 : decode cJ0_indexOf_7cf53 36 = .ok (.ireturn, 1) := by decide +kernel
theorem dJ0_coder_7d493_0 : decode cJ0_coder_7d493 0 = .ok (.getstatic 38, 3) := by decide +kernel
theorem dJ0_coder_7d493_3 : decode cJ0_coder_7d493 3 = .ok (.ifCond .eq 10, 3) := by decide +kernel
theorem dJ0_coder_7d493_6 : decode cJ0_coder_7d493 6 = .ok (.aload_n 0, 1) := by decide +kernel
theorem dJ0_coder_7d493_7 : decode cJ0_coder_7d493 7 = .ok (.getfield 15, 3) := by decide +kernel
theorem dJ0_coder_7d493_10 : decode cJ0_coder_7d493 10 = .ok (.goto 4, 3) := by decide +kernel
theorem dJ0_coder_7d493_13 : decode cJ0_coder_7d493 13 = .ok (.iconst 1, 1) := by decide +kernel
theorem dJ0_coder_7d493_14 : decode cJ0_coder_7d493 14 = .ok (.ireturn, 1) := by decide +kernel
theorem dJ0_isLatin1_aae02_0 : decode cJ0_isLatin1_aae02 0 = .ok (.getstatic 38, 3) := by decide +kernel
theorem dJ0_isLatin1_aae02_3 : decode cJ0_isLatin1_aae02 3 = .ok (.ifCond .eq 14, 3) := by decide +kernel
theorem dJ0_isLatin1_aae02_6 : decode cJ0_isLatin1_aae02 6 = .ok (.aload_n 0, 1) := by decide +kernel
theorem dJ0_isLatin1_aae02_7 : decode cJ0_isLatin1_aae02 7 = .ok (.getfield 15, 3) := by decide +kernel
theorem dJ0_isLatin1_aae02_10 : decode cJ0_isLatin1_aae02 10 = .ok (.ifCond .ne 7, 3) := by decide +kernel
theorem dJ0_isLatin1_aae02_13 : decode cJ0_isLatin1_aae02 13 = .ok (.iconst 1, 1) := by decide +kernel
theorem dJ0_isLatin1_aae02_14 : decode cJ0_isLatin1_aae02 14 = .ok (.goto 4, 3) := by decide +kernel
theorem dJ0_isLatin1_aae02_17 : decode cJ0_isLatin1_aae02 17 = .ok (.iconst 0, 1) := by decide +kernel
theorem dJ0_isLatin1_aae02_18 : decode cJ0_isLatin1_aae02 18 = .ok (.ireturn, 1) := by decide +kernel
theorem dJ4_init_da8c8_0 : decode cJ4_init_da8c8 0 = .ok (.aload_n 0, 1) := by decide +kernel
theorem dJ4_init_da8c8_1 : decode cJ4_init_da8c8 1 = .ok (.bipush 16, 2) := by decide +kernel
theorem dJ4_init_da8c8_3 : decode cJ4_init_da8c8 3 = .ok (.invokespecial 1, 3) := by decide +kernel
theorem dJ4_init_da8c8_6 : decode cJ4_init_da8c8 6 = .ok (.return_, 1) := by decide +kernel
theorem dJ1_canEncode_9a6ad_0 : decode cJ1_canEncode_9a6ad 0 = .ok (.iload_n 0, 1) := by decide +kernel
theorem dJ1_canEncode_9a6ad_1 : decode cJ1_canEncode_9a6ad 1 = .ok (.ifCond .lt 14, 3) := by decide +kernel
theorem dJ1_canEncode_9a6ad_4 : decode cJ1_canEncode_9a6ad 4 = .ok (.iload_n 0, 1) := by decide +kernel
theorem dJ1_canEncode_9a6ad_5 : decode cJ1_canEncode_9a6ad 5 = .ok (.sipush 255, 3) := by decide +kernel
theorem dJ1_canEncode_9a6ad_8 : decode cJ1_canEncode_9a6ad 8 = .ok (.if_icmp .gt 7, 3) := by decide +kernel
theorem dJ1_canEncode_9a6ad_11 : decode cJ1_canEncode_9a6ad 11 = .ok (.iconst 1, 1) := by decide +kernel
theorem dJ1_canEncode_9a6ad_12 : decode cJ1_canEncode_9a6ad 12 = .ok (.goto 4, 3) := by decide +kernel
theorem dJ1_canEncode_9a6ad_15 : decode cJ1_canEncode_9a6ad 15 = .ok (.iconst 0, 1) := by decide +kernel
theorem dJ1_canEncode_9a6ad_16 : decode cJ1_canEncode_9a6ad 16 = .ok (.ireturn, 1) := by decide +kernel
theorem dJ1_indexOf_4cfef_0 : decode cJ1_indexOf_4cfef 0 = .ok (.iload_n 1, 1) := by decide +kernel
theorem dJ1_indexOf_4cfef_1 : decode cJ1_indexOf_4cfef 1 = .ok (.invokestatic 88, 3) := by decide +kernel
theorem dJ1_indexOf_4cfef_4 : decode cJ1_indexOf_4cfef 4 = .ok (.ifCond .ne 5, 3) := by decide +kernel
theorem dJ1_indexOf_4cfef_7 : decode cJ1_indexOf_4cfef 7 = .ok (.iconst (-1), 1) := by decide +kernel
theorem dJ1_indexOf_4cfef_8 : decode cJ1_indexOf_4cfef 8 = .ok (.ireturn, 1) := by decide +kernel
theorem dJ1_indexOf_4cfef_9 : decode cJ1_indexOf_4cfef 9 = .ok (.iload_n 2, 1) := by decide +kernel
theorem dJ1_indexOf_4cfef_10 : decode cJ1_indexOf_4cfef 10 = .ok (.iconst 0, 1) := by decide +kernel
theorem dJ1_indexOf_4cfef_11 : decode cJ1_indexOf_4cfef 11 = .ok (.invokestatic 92, 3) := by decide +kernel
theorem dJ1_indexOf_4cfef_14 : decode cJ1_indexOf_4cfef 14 = .ok (.istore_n 2, 1) := by decide +kernel
theorem dJ1_indexOf_4cfef_15 : decode cJ1_indexOf_4cfef 15 = .ok (.iload_n 3, 1) := by decide +kernel
theorem dJ1_indexOf_4cfef_16 : decode cJ1_indexOf_4cfef 16 = .ok (.aload_n 0, 1) := by decide +kernel
theorem dJ1_indexOf_4cfef_17 : decode cJ1_indexOf_4cfef 17 = .ok (.arraylength, 1) := by decide +kernel
theorem dJ1_indexOf_4cfef_18 : decode cJ1_indexOf_4cfef 18 = .ok (.invokestatic 38, 3) := by decide +kernel
theorem dJ1_indexOf_4cfef_21 : decode cJ1_indexOf_4cfef 21 = .ok (.istore_n 3, 1) := by decide +kernel
theorem dJ1_indexOf_4cfef_22 : decode cJ1_indexOf_4cfef 22 = .ok (.iload_n 2, 1) := by decide +kernel
theorem dJ1_indexOf_4cfef_23 : decode cJ1_indexOf_4cfef 23 = .ok (.iload_n 3, 1) := by decide +kernel
theorem dJ1_indexOf_4cfef_24 : decode cJ1_indexOf_4cfef 24 = .ok (.if_icmp .lt 5, 3) := by decide +kernel
theorem dJ1_indexOf_4cfef_27 : decode cJ1_indexOf_4cfef 27 = .ok (.iconst (-1), 1) := by decide +kernel
theorem dJ1_indexOf_4cfef_28 : decode cJ1_indexOf_4cfef 28 = .ok (.ireturn, 1) := by decide +kernel
theorem dJ1_indexOf_4cfef_29 : decode cJ1_indexOf_4cfef 29 = .ok (.aload_n 0, 1) := by decide +kernel
theorem dJ1_indexOf_4cfef_30 : decode cJ1_indexOf_4cfef 30 = .ok (.iload_n 1, 1) := by decide +kernel
theorem dJ1_indexOf_4cfef_31 : decode cJ1_indexOf_4cfef 31 = .ok (.iload_n 2, 1) := by decide +kernel
theorem dJ1_indexOf_4cfef_32 : decode cJ1_indexOf_4cfef 32 = .ok (.iload_n 3, 1) := by decide +kernel
theorem dJ1_indexOf_4cfef_33 : decode cJ1_indexOf_4cfef 33 = .ok (.invokestatic 95, 3) := by decide +kernel
theorem dJ1_indexOf_4cfef_36 : decode cJ1_indexOf_4cfef 36 = .ok (.ireturn, 1) := by decide +kernel
theorem dJ1_indexOfChar_4cfef_0 : decode cJ1_indexOfChar_4cfef 0 = .ok (.iload_n 1, 1) := by decide +kernel
theorem dJ1_indexOfChar_4cfef_1 : decode cJ1_indexOfChar_4cfef 1 = .ok (.i2b, 1) := by decide +kernel
theorem dJ1_indexOfChar_4cfef_2 : decode cJ1_indexOfChar_4cfef 2 = .ok (.istore 4, 2) := by decide +kernel
theorem dJ1_indexOfChar_4cfef_4 : decode cJ1_indexOfChar_4cfef 4 = .ok (.iload_n 2, 1) := by decide +kernel
theorem dJ1_indexOfChar_4cfef_5 : decode cJ1_indexOfChar_4cfef 5 = .ok (.istore 5, 2) := by decide +kernel
theorem dJ1_indexOfChar_4cfef_7 : decode cJ1_indexOfChar_4cfef 7 = .ok (.iload 5, 2) := by decide +kernel
theorem dJ1_indexOfChar_4cfef_9 : decode cJ1_indexOfChar_4cfef 9 = .ok (.iload_n 3, 1) := by decide +kernel
theorem dJ1_indexOfChar_4cfef_10 : decode cJ1_indexOfChar_4cfef 10 = .ok (.if_icmp .ge 21, 3) := by decide +kernel
theorem dJ1_indexOfChar_4cfef_13 : decode cJ1_indexOfChar_4cfef 13 = .ok (.aload_n 0, 1) := by decide +kernel
theorem dJ1_indexOfChar_4cfef_14 : decode cJ1_indexOfChar_4cfef 14 = .ok (.iload 5, 2) := by decide +kernel
theorem dJ1_indexOfChar_4cfef_16 : decode cJ1_indexOfChar_4cfef 16 = .ok (.baload, 1) := by decide +kernel
theorem dJ1_indexOfChar_4cfef_17 : decode cJ1_indexOfChar_4cfef 17 = .ok (.iload 4, 2) := by decide +kernel
theorem dJ1_indexOfChar_4cfef_19 : decode cJ1_indexOfChar_4cfef 19 = .ok (.if_icmp .ne 6, 3) := by decide +kernel
theorem dJ1_indexOfChar_4cfef_22 : decode cJ1_indexOfChar_4cfef 22 = .ok (.iload 5, 2) := by decide +kernel
theorem dJ1_indexOfChar_4cfef_24 : decode cJ1_indexOfChar_4cfef 24 = .ok (.ireturn, 1) := by decide +kernel
theorem dJ1_indexOfChar_4cfef_25 : decode cJ1_indexOfChar_4cfef 25 = .ok (.iinc 5 1, 3) := by decide +kernel
theorem dJ1_indexOfChar_4cfef_28 : decode cJ1_indexOfChar_4cfef 28 = .ok (.goto (-21), 3) := by decide +kernel
theorem dJ1_indexOfChar_4cfef_31 : decode cJ1_indexOfChar_4cfef 31 = .ok (.iconst (-1), 1) := by decide +kernel
theorem dJ1_indexOfChar_4cfef_32 : decode cJ1_indexOfChar_4cfef 32 = .ok (.ireturn, 1) := by decide +kernel
theorem dJxa1e45_init_da8c8_0 : decode cJxa1e45_init_da8c8 0 = .ok (.aload_n 0, 1) := by decide +kernel
theorem dJxa1e45_init_da8c8_1 : decode cJxa1e45_init_da8c8 1 = .ok (.invokespecial 1, 3) := by decide +kernel
theorem dJxa1e45_init_da8c8_4 : decode cJxa1e45_init_da8c8 4 = .ok (.return_, 1) := by decide +kernel
theorem dJxc12de_init_da8c8_0 : decode cJxc12de_init_da8c8 0 = .ok (.aload_n 0, 1) := by decide +kernel
theorem dJxc12de_init_da8c8_1 : decode cJxc12de_init_da8c8 1 = .ok (.invokespecial 1, 3) := by decide +kernel
theorem dJxc12de_init_da8c8_4 : decode cJxc12de_init_da8c8 4 = .ok (.aload_n 0, 1) := by decide +kernel
theorem dJxc12de_init_da8c8_5 : decode cJxc12de_init_da8c8 5 = .ok (.iconst 0, 1) := by decide +kernel
theorem dJxc12de_init_da8c8_6 : decode cJxc12de_init_da8c8 6 = .ok (.putfield 7, 3) := by decide +kernel
theorem dJxc12de_init_da8c8_9 : decode cJxc12de_init_da8c8 9 = .ok (.return_, 1) := by decide +kernel
theorem dJx4a65c_init_da8c8_0 : decode cJx4a65c_init_da8c8 0 = .ok (.aload_n 0, 1) := by decide +kernel
theorem dJx4a65c_init_da8c8_1 : decode cJx4a65c_init_da8c8 1 = .ok (.invokespecial 1, 3) := by decide +kernel
theorem dJx4a65c_init_da8c8_4 : decode cJx4a65c_init_da8c8 4 = .ok (.aload_n 0, 1) := by decide +kernel
theorem dJx4a65c_init_da8c8_5 : decode cJx4a65c_init_da8c8 5 = .ok (.getstatic 39, 3) := by decide +kernel
theorem dJx4a65c_init_da8c8_8 : decode cJx4a65c_init_da8c8 8 = .ok (.putfield 9, 3) := by decide +kernel
theorem dJx4a65c_init_da8c8_11 : decode cJx4a65c_init_da8c8 11 = .ok (.return_, 1) := by decide +kernel
theorem dJx4a65c_grow_92f84_0 : decode cJx4a65c_grow_92f84 0 = .ok (.aload_n 0, 1) := by decide +kernel
theorem dJx4a65c_grow_92f84_1 : decode cJx4a65c_grow_92f84 1 = .ok (.getfield 9, 3) := by decide +kernel
theorem dJx4a65c_grow_92f84_4 : decode cJx4a65c_grow_92f84 4 = .ok (.arraylength, 1) := by decide +kernel
theorem dJx4a65c_grow_92f84_5 : decode cJx4a65c_grow_92f84 5 = .ok (.istore_n 2, 1) := by decide +kernel
theorem dJx4a65c_grow_92f84_6 : decode cJx4a65c_grow_92f84 6 = .ok (.iload_n 2, 1) := by decide +kernel
theorem dJx4a65c_grow_92f84_7 : decode cJx4a65c_grow_92f84 7 = .ok (.ifCond .gt 13, 3) := by decide +kernel
theorem dJx4a65c_grow_92f84_10 : decode cJx4a65c_grow_92f84 10 = .ok (.aload_n 0, 1) := by decide +kernel
theorem dJx4a65c_grow_92f84_11 : decode cJx4a65c_grow_92f84 11 = .ok (.getfield 9, 3) := by decide +kernel
theorem dJx4a65c_grow_92f84_14 : decode cJx4a65c_grow_92f84 14 = .ok (.getstatic 39, 3) := by decide +kernel
theorem dJx4a65c_grow_92f84_17 : decode cJx4a65c_grow_92f84 17 = .ok (.if_acmp .eq 28, 3) := by decide +kernel
theorem dJx4a65c_grow_92f84_20 : decode cJx4a65c_grow_92f84 20 = .ok (.iload_n 2, 1) := by decide +kernel
theorem dJx4a65c_grow_92f84_21 : decode cJx4a65c_grow_92f84 21 = .ok (.iload_n 1, 1) := by decide +kernel
theorem dJx4a65c_grow_92f84_22 : decode cJx4a65c_grow_92f84 22 = .ok (.iload_n 2, 1) := by decide +kernel
theorem dJx4a65c_grow_92f84_23 : decode cJx4a65c_grow_92f84 23 = .ok (.isub, 1) := by decide +kernel
theorem dJx4a65c_grow_92f84_24 : decode cJx4a65c_grow_92f84 24 = .ok (.iload_n 2, 1) := by decide +kernel
theorem dJx4a65c_grow_92f84_25 : decode cJx4a65c_grow_92f84 25 = .ok (.iconst 1, 1) := by decide +kernel
theorem dJx4a65c_grow_92f84_26 : decode cJx4a65c_grow_92f84 26 = .ok (.ishr, 1) := by decide +kernel
theorem dJx4a65c_grow_92f84_27 : decode cJx4a65c_grow_92f84 27 = .ok (.invokestatic 73, 3) := by decide +kernel
theorem dJx4a65c_grow_92f84_30 : decode cJx4a65c_grow_92f84 30 = .ok (.istore_n 3, 1) := by decide +kernel
theorem dJx4a65c_grow_92f84_31 : decode cJx4a65c_grow_92f84 31 = .ok (.aload_n 0, 1) := by decide +kernel
theorem dJx4a65c_grow_92f84_32 : decode cJx4a65c_grow_92f84 32 = .ok (.aload_n 0, 1) := by decide +kernel
theorem dJx4a65c_grow_92f84_33 : decode cJx4a65c_grow_92f84 33 = .ok (.getfield 9, 3) := by decide +kernel
theorem dJx4a65c_grow_92f84_36 : decode cJx4a65c_grow_92f84 36 = .ok (.iload_n 3, 1) := by decide +kernel
theorem dJx4a65c_grow_92f84_37 : decode cJx4a65c_grow_92f84 37 = .ok (.invokestatic 66, 3) := by decide +kernel
theorem dJx4a65c_grow_92f84_40 : decode cJx4a65c_grow_92f84 40 = .ok (.dup_x1, 1) := by decide +kernel
theorem dJx4a65c_grow_92f84_41 : decode cJx4a65c_grow_92f84 41 = .ok (.putfield 9, 3) := by decide +kernel
theorem dJx4a65c_grow_92f84_44 : decode cJx4a65c_grow_92f84 44 = .ok (.areturn, 1) := by decide +kernel
theorem dJx4a65c_grow_92f84_45 : decode cJx4a65c_grow_92f84 45 = .ok (.aload_n 0, 1) := by decide +kernel
theorem dJx4a65c_grow_92f84_46 : decode cJx4a65c_grow_92f84 46 = .ok (.bipush 10, 2) := by decide +kernel
theorem dJx4a65c_grow_92f84_48 : decode cJx4a65c_grow_92f84 48 = .ok (.iload_n 1, 1) := by decide +kernel
theorem dJx4a65c_grow_92f84_49 : decode cJx4a65c_grow_92f84 49 = .ok (.invokestatic 79, 3) := by decide +kernel
theorem dJx4a65c_grow_92f84_52 : decode cJx4a65c_grow_92f84 52 = .ok (.anewarray 7, 3) := by decide +kernel
theorem dJx4a65c_grow_92f84_55 : decode cJx4a65c_grow_92f84 55 = .ok (.dup_x1, 1) := by decide +kernel
theorem dJx4a65c_grow_92f84_56 : decode cJx4a65c_grow_92f84 56 = .ok (.putfield 9, 3) := by decide +kernel
theorem dJx4a65c_grow_92f84_59 : decode cJx4a65c_grow_92f84 59 = .ok (.areturn, 1) := by decide +kernel
theorem dJx4a65c_grow_d5877_0 : decode cJx4a65c_grow_d5877 0 = .ok (.aload_n 0, 1) := by decide +kernel
theorem dJx4a65c_grow_d5877_1 : decode cJx4a65c_grow_d5877 1 = .ok (.aload_n 0, 1) := by decide +kernel
theorem dJx4a65c_grow_d5877_2 : decode cJx4a65c_grow_d5877 2 = .ok (.getfield 48, 3) := by decide +kernel
theorem dJx4a65c_grow_d5877_5 : decode cJx4a65c_grow_d5877 5 = .ok (.iconst 1, 1) := by decide +kernel
theorem dJx4a65c_grow_d5877_6 : decode cJx4a65c_grow_d5877 6 = .ok (.iadd, 1) := by decide +kernel
theorem dJx4a65c_grow_d5877_7 : decode cJx4a65c_grow_d5877 7 = .ok (.invokevirtual 69, 3) := by decide +kernel
theorem dJx4a65c_grow_d5877_10 : decode cJx4a65c_grow_d5877 10 = .ok (.areturn, 1) := by decide +kernel
theorem dJx4a65c_size_8abf5_0 : decode cJx4a65c_size_8abf5 0 = .ok (.aload_n 0, 1) := by decide +kernel
theorem dJx4a65c_size_8abf5_1 : decode cJx4a65c_size_8abf5 1 = .ok (.getfield 48, 3) := by decide +kernel
theorem dJx4a65c_size_8abf5_4 : decode cJx4a65c_size_8abf5 4 = .ok (.ireturn, 1) := by decide +kernel
theorem dJx4a65c_isEmpty_aae02_0 : decode cJx4a65c_isEmpty_aae02 0 = .ok (.aload_n 0, 1) := by decide +kernel
theorem dJx4a65c_isEmpty_aae02_1 : decode cJx4a65c_isEmpty_aae02 1 = .ok (.getfield 48, 3) := by decide +kernel
theorem dJx4a65c_isEmpty_aae02_4 : decode cJx4a65c_isEmpty_aae02 4 = .ok (.ifCond .ne 7, 3) := by decide +kernel
theorem dJx4a65c_isEmpty_aae02_7 : decode cJx4a65c_isEmpty_aae02 7 = .ok (.iconst 1, 1) := by decide +kernel
theorem dJx4a65c_isEmpty_aae02_8 : decode cJx4a65c_isEmpty_aae02 8 = .ok (.goto 4, 3) := by decide +kernel
theorem dJx4a65c_isEmpty_aae02_11 : decode cJx4a65c_isEmpty_aae02 11 = .ok (.iconst 0, 1) := by decide +kernel
theorem dJx4a65c_isEmpty_aae02_12 : decode cJx4a65c_isEmpty_aae02 12 = .ok (.ireturn, 1) := by decide +kernel
theorem dJx4a65c_add_72be8_0 : decode cJx4a65c_add_72be8 0 = .ok (.iload_n 3, 1) := by decide +kernel
theorem dJx4a65c_add_72be8_1 : decode cJx4a65c_add_72be8 1 = .ok (.aload_n 2, 1) := by decide +kernel
theorem dJx4a65c_add_72be8_2 : decode cJx4a65c_add_72be8 2 = .ok (.arraylength, 1) := by decide +kernel
theorem dJx4a65c_add_72be8_3 : decode cJx4a65c_add_72be8 3 = .ok (.if_icmp .ne 8, 3) := by decide +kernel
theorem dJx4a65c_add_72be8_6 : decode cJx4a65c_add_72be8 6 = .ok (.aload_n 0, 1) := by decide +kernel
theorem dJx4a65c_add_72be8_7 : decode cJx4a65c_add_72be8 7 = .ok (.invokevirtual 129, 3) := by decide +kernel
theorem dJx4a65c_add_72be8_10 : decode cJx4a65c_add_72be8 10 = .ok (.astore_n 2, 1) := by decide +kernel
theorem dJx4a65c_add_72be8_11 : decode cJx4a65c_add_72be8 11 = .ok (.aload_n 2, 1) := by decide +kernel
theorem dJx4a65c_add_72be8_12 : decode cJx4a65c_add_72be8 12 = .ok (.iload_n 3, 1) := by decide +kernel
theorem dJx4a65c_add_72be8_13 : decode cJx4a65c_add_72be8 13 = .ok (.aload_n 1, 1) := by decide +kernel
theorem dJx4a65c_add_72be8_14 : decode cJx4a65c_add_72be8 14 = .ok (.aastore, 1) := by decide +kernel
theorem dJx4a65c_add_72be8_15 : decode cJx4a65c_add_72be8 15 = .ok (.aload_n 0, 1) := by decide +kernel
theorem dJx4a65c_add_72be8_16 : decode cJx4a65c_add_72be8 16 = .ok (.iload_n 3, 1) := by decide +kernel
theorem dJx4a65c_add_72be8_17 : decode cJx4a65c_add_72be8 17 = .ok (.iconst 1, 1) := by decide +kernel
theorem dJx4a65c_add_72be8_18 : decode cJx4a65c_add_72be8 18 = .ok (.iadd, 1) := by decide +kernel
theorem dJx4a65c_add_72be8_19 : decode cJx4a65c_add_72be8 19 = .ok (.putfield 48, 3) := by decide +kernel
theorem dJx4a65c_add_72be8_22 : decode cJx4a65c_add_72be8 22 = .ok (.return_, 1) := by decide +kernel
theorem dJx4a65c_add_9ea2d_0 : decode cJx4a65c_add_9ea2d 0 = .ok (.aload_n 0, 1) := by decide +kernel
theorem dJx4a65c_add_9ea2d_1 : decode cJx4a65c_add_9ea2d 1 = .ok (.dup, 1) := by decide +kernel
theorem dJx4a65c_add_9ea2d_2 : decode cJx4a65c_add_9ea2d 2 = .ok (.getfield 63, 3) := by decide +kernel
theorem dJx4a65c_add_9ea2d_5 : decode cJx4a65c_add_9ea2d 5 = .ok (.iconst 1, 1) := by decide +kernel
theorem dJx4a65c_add_9ea2d_6 : decode cJx4a65c_add_9ea2d 6 = .ok (.iadd, 1) := by decide +kernel
theorem dJx4a65c_add_9ea2d_7 : decode cJx4a65c_add_9ea2d 7 = .ok (.putfield 63, 3) := by decide +kernel
theorem dJx4a65c_add_9ea2d_10 : decode cJx4a65c_add_9ea2d 10 = .ok (.aload_n 0, 1) := by decide +kernel
theorem dJx4a65c_add_9ea2d_11 : decode cJx4a65c_add_9ea2d 11 = .ok (.aload_n 1, 1) := by decide +kernel
theorem dJx4a65c_add_9ea2d_12 : decode cJx4a65c_add_9ea2d 12 = .ok (.aload_n 0, 1) := by decide +kernel
theorem dJx4a65c_add_9ea2d_13 : decode cJx4a65c_add_9ea2d 13 = .ok (.getfield 9, 3) := by decide +kernel
theorem dJx4a65c_add_9ea2d_16 : decode cJx4a65c_add_9ea2d 16 = .ok (.aload_n 0, 1) := by decide +kernel
theorem dJx4a65c_add_9ea2d_17 : decode cJx4a65c_add_9ea2d 17 = .ok (.getfield 48, 3) := by decide +kernel
theorem dJx4a65c_add_9ea2d_20 : decode cJx4a65c_add_9ea2d 20 = .ok (.invokevirtual 131, 3) := by decide +kernel
theorem dJx4a65c_add_9ea2d_23 : decode cJx4a65c_add_9ea2d 23 = .ok (.iconst 1, 1) := by decide +kernel
theorem dJx4a65c_add_9ea2d_24 : decode cJx4a65c_add_9ea2d 24 = .ok (.ireturn, 1) := by decide +kernel
theorem dJx4a65c_clear_da8c8_0 : decode cJx4a65c_clear_da8c8 0 = .ok (.aload_n 0, 1) := by decide +kernel
theorem dJx4a65c_clear_da8c8_1 : decode cJx4a65c_clear_da8c8 1 = .ok (.dup, 1) := by decide +kernel
theorem dJx4a65c_clear_da8c8_2 : decode cJx4a65c_clear_da8c8 2 = .ok (.getfield 63, 3) := by decide +kernel
theorem dJx4a65c_clear_da8c8_5 : decode cJx4a65c_clear_da8c8 5 = .ok (.iconst 1, 1) := by decide +kernel
theorem dJx4a65c_clear_da8c8_6 : decode cJx4a65c_clear_da8c8 6 = .ok (.iadd, 1) := by decide +kernel
theorem dJx4a65c_clear_da8c8_7 : decode cJx4a65c_clear_da8c8 7 = .ok (.putfield 63, 3) := by decide +kernel
theorem dJx4a65c_clear_da8c8_10 : decode cJx4a65c_clear_da8c8 10 = .ok (.aload_n 0, 1) := by decide +kernel
theorem dJx4a65c_clear_da8c8_11 : decode cJx4a65c_clear_da8c8 11 = .ok (.getfield 9, 3) := by decide +kernel
theorem dJx4a65c_clear_da8c8_14 : decode cJx4a65c_clear_da8c8 14 = .ok (.astore_n 1, 1) := by decide +kernel
theorem dJx4a65c_clear_da8c8_15 : decode cJx4a65c_clear_da8c8 15 = .ok (.aload_n 0, 1) := by decide +kernel
theorem dJx4a65c_clear_da8c8_16 : decode cJx4a65c_clear_da8c8 16 = .ok (.getfield 48, 3) := by decide +kernel
theorem dJx4a65c_clear_da8c8_19 : decode cJx4a65c_clear_da8c8 19 = .ok (.istore_n 2, 1) := by decide +kernel
theorem dJx4a65c_clear_da8c8_20 : decode cJx4a65c_clear_da8c8 20 = .ok (.aload_n 0, 1) := by decide +kernel
theorem dJx4a65c_clear_da8c8_21 : decode cJx4a65c_clear_da8c8 21 = .ok (.iconst 0, 1) := by decide +kernel
theorem dJx4a65c_clear_da8c8_22 : decode cJx4a65c_clear_da8c8 22 = .ok (.dup_x1, 1) := by decide +kernel
theorem dJx4a65c_clear_da8c8_23 : decode cJx4a65c_clear_da8c8 23 = .ok (.putfield 48, 3) := by decide +kernel
theorem dJx4a65c_clear_da8c8_26 : decode cJx4a65c_clear_da8c8 26 = .ok (.istore_n 3, 1) := by decide +kernel
theorem dJx4a65c_clear_da8c8_27 : decode cJx4a65c_clear_da8c8 27 = .ok (.iload_n 3, 1) := by decide +kernel
theorem dJx4a65c_clear_da8c8_28 : decode cJx4a65c_clear_da8c8 28 = .ok (.iload_n 2, 1) := by decide +kernel
theorem dJx4a65c_clear_da8c8_29 : decode cJx4a65c_clear_da8c8 29 = .ok (.if_icmp .ge 13, 3) := by decide +kernel
theorem dJx4a65c_clear_da8c8_32 : decode cJx4a65c_clear_da8c8 32 = .ok (.aload_n 1, 1) := by decide +kernel
theorem dJx4a65c_clear_da8c8_33 : decode cJx4a65c_clear_da8c8 33 = .ok (.iload_n 3, 1) := by decide +kernel
theorem dJx4a65c_clear_da8c8_34 : decode cJx4a65c_clear_da8c8 34 = .ok (.aconst_null, 1) := by decide +kernel
theorem dJx4a65c_clear_da8c8_35 : decode cJx4a65c_clear_da8c8 35 = .ok (.aastore, 1) := by decide +kernel
theorem dJx4a65c_clear_da8c8_36 : decode cJx4a65c_clear_da8c8 36 = .ok (.iinc 3 1, 3) := by decide +kernel
theorem dJx4a65c_clear_da8c8_39 : decode cJx4a65c_clear_da8c8 39 = .ok (.goto (-12), 3) := by decide +kernel
theorem dJx4a65c_clear_da8c8_42 : decode cJx4a65c_clear_da8c8 42 = .ok (.return_, 1) := by decide +kernel
theorem dL_kind_0 : decode cL_kind 0 = .ok (.aload 5, 2) := by decide +kernel
theorem dL_kind_2 : decode cL_kind 2 = .ok (.iconst 0, 1) := by decide +kernel
theorem dL_kind_3 : decode cL_kind 3 = .ok (.aload_n 0, 1) := by decide +kernel
theorem dL_kind_4 : decode cL_kind 4 = .ok (.iload_n 1, 1) := by decide +kernel
theorem dL_kind_5 : decode cL_kind 5 = .ok (.iload_n 2, 1) := by decide +kernel
theorem dL_kind_6 : decode cL_kind 6 = .ok (.iload_n 3, 1) := by decide +kernel
theorem dL_kind_7 : decode cL_kind 7 = .ok (.iload 4, 2) := by decide +kernel
theorem dL_kind_9 : decode cL_kind 9 = .ok (.invokevirtual 7, 3) := by decide +kernel
theorem dL_kind_12 : decode cL_kind 12 = .ok (.i2l, 1) := by decide +kernel
theorem dL_kind_13 : decode cL_kind 13 = .ok (.lastore, 1) := by decide +kernel
theorem dL_kind_14 : decode cL_kind 14 = .ok (.goto 11, 3) := by decide +kernel
theorem dL_kind_17 : decode cL_kind 17 = .ok (.astore 6, 2) := by decide +kernel
theorem dL_kind_19 : decode cL_kind 19 = .ok (.iconst 1, 1) := by decide +kernel
theorem dL_kind_20 : decode cL_kind 20 = .ok (.ireturn, 1) := by decide +kernel
theorem dL_kind_21 : decode cL_kind 21 = .ok (.astore 6, 2) := by decide +kernel
theorem dL_kind_23 : decode cL_kind 23 = .ok (.iconst 2, 1) := by decide +kernel
theorem dL_kind_24 : decode cL_kind 24 = .ok (.ireturn, 1) := by decide +kernel
theorem dL_kind_25 : decode cL_kind 25 = .ok (.iconst 0, 1) := by decide +kernel
theorem dL_kind_26 : decode cL_kind 26 = .ok (.ireturn, 1) := by decide +kernel
theorem dL_rule_0 : decode cL_rule 0 = .ok (.aload 4, 2) := by decide +kernel
theorem dL_rule_2 : decode cL_rule 2 = .ok (.iconst 0, 1) := by decide +kernel
theorem dL_rule_3 : decode cL_rule 3 = .ok (.aload_n 0, 1) := by decide +kernel
theorem dL_rule_4 : decode cL_rule 4 = .ok (.iload_n 1, 1) := by decide +kernel
theorem dL_rule_5 : decode cL_rule 5 = .ok (.iload_n 2, 1) := by decide +kernel
theorem dL_rule_6 : decode cL_rule 6 = .ok (.iload_n 3, 1) := by decide +kernel
theorem dL_rule_7 : decode cL_rule 7 = .ok (.invokevirtual 17, 3) := by decide +kernel
theorem dL_rule_10 : decode cL_rule 10 = .ok (.ifCond .eq 7, 3) := by decide +kernel
theorem dL_rule_13 : decode cL_rule 13 = .ok (.lconst 1, 1) := by decide +kernel
theorem dL_rule_14 : decode cL_rule 14 = .ok (.goto 4, 3) := by decide +kernel
theorem dL_rule_17 : decode cL_rule 17 = .ok (.lconst 0, 1) := by decide +kernel
theorem dL_rule_18 : decode cL_rule 18 = .ok (.lastore, 1) := by decide +kernel
theorem dL_rule_19 : decode cL_rule 19 = .ok (.goto 11, 3) := by decide +kernel
theorem dL_rule_22 : decode cL_rule 22 = .ok (.astore 5, 2) := by decide +kernel
theorem dL_rule_24 : decode cL_rule 24 = .ok (.iconst 1, 1) := by decide +kernel
theorem dL_rule_25 : decode cL_rule 25 = .ok (.ireturn, 1) := by decide +kernel
theorem dL_rule_26 : decode cL_rule 26 = .ok (.astore 5, 2) := by decide +kernel
theorem dL_rule_28 : decode cL_rule 28 = .ok (.iconst 2, 1) := by decide +kernel
theorem dL_rule_29 : decode cL_rule 29 = .ok (.ireturn, 1) := by decide +kernel
theorem dL_rule_30 : decode cL_rule 30 = .ok (.iconst 0, 1) := by decide +kernel
theorem dL_rule_31 : decode cL_rule 31 = .ok (.ireturn, 1) := by decide +kernel
theorem dL_holds_0 : decode cL_holds 0 = .ok (.aload_n 3, 1) := by decide +kernel
theorem dL_holds_1 : decode cL_holds 1 = .ok (.iconst 0, 1) := by decide +kernel
theorem dL_holds_2 : decode cL_holds 2 = .ok (.aload_n 0, 1) := by decide +kernel
theorem dL_holds_3 : decode cL_holds 3 = .ok (.iload_n 1, 1) := by decide +kernel
theorem dL_holds_4 : decode cL_holds 4 = .ok (.iload_n 2, 1) := by decide +kernel
theorem dL_holds_5 : decode cL_holds 5 = .ok (.invokevirtual 23, 3) := by decide +kernel
theorem dL_holds_8 : decode cL_holds 8 = .ok (.ifCond .eq 7, 3) := by decide +kernel
theorem dL_holds_11 : decode cL_holds 11 = .ok (.lconst 1, 1) := by decide +kernel
theorem dL_holds_12 : decode cL_holds 12 = .ok (.goto 4, 3) := by decide +kernel
theorem dL_holds_15 : decode cL_holds 15 = .ok (.lconst 0, 1) := by decide +kernel
theorem dL_holds_16 : decode cL_holds 16 = .ok (.lastore, 1) := by decide +kernel
theorem dL_holds_17 : decode cL_holds 17 = .ok (.goto 11, 3) := by decide +kernel
theorem dL_holds_20 : decode cL_holds 20 = .ok (.astore 4, 2) := by decide +kernel
theorem dL_holds_22 : decode cL_holds 22 = .ok (.iconst 1, 1) := by decide +kernel
theorem dL_holds_23 : decode cL_holds 23 = .ok (.ireturn, 1) := by decide +kernel
theorem dL_holds_24 : decode cL_holds 24 = .ok (.astore 4, 2) := by decide +kernel
theorem dL_holds_26 : decode cL_holds 26 = .ok (.iconst 2, 1) := by decide +kernel
theorem dL_holds_27 : decode cL_holds 27 = .ok (.ireturn, 1) := by decide +kernel
theorem dL_holds_28 : decode cL_holds 28 = .ok (.iconst 0, 1) := by decide +kernel
theorem dL_holds_29 : decode cL_holds 29 = .ok (.ireturn, 1) := by decide +kernel
theorem dL_copy_0 : decode cL_copy 0 = .ok (.aload_n 2, 1) := by decide +kernel
theorem dL_copy_1 : decode cL_copy 1 = .ok (.iconst 0, 1) := by decide +kernel
theorem dL_copy_2 : decode cL_copy 2 = .ok (.aload_n 0, 1) := by decide +kernel
theorem dL_copy_3 : decode cL_copy 3 = .ok (.iload_n 1, 1) := by decide +kernel
theorem dL_copy_4 : decode cL_copy 4 = .ok (.invokevirtual 27, 3) := by decide +kernel
theorem dL_copy_7 : decode cL_copy 7 = .ok (.i2l, 1) := by decide +kernel
theorem dL_copy_8 : decode cL_copy 8 = .ok (.lastore, 1) := by decide +kernel
theorem dL_copy_9 : decode cL_copy 9 = .ok (.goto 9, 3) := by decide +kernel
theorem dL_copy_12 : decode cL_copy 12 = .ok (.astore_n 3, 1) := by decide +kernel
theorem dL_copy_13 : decode cL_copy 13 = .ok (.iconst 1, 1) := by decide +kernel
theorem dL_copy_14 : decode cL_copy 14 = .ok (.ireturn, 1) := by decide +kernel
theorem dL_copy_15 : decode cL_copy 15 = .ok (.astore_n 3, 1) := by decide +kernel
theorem dL_copy_16 : decode cL_copy 16 = .ok (.iconst 2, 1) := by decide +kernel
theorem dL_copy_17 : decode cL_copy 17 = .ok (.ireturn, 1) := by decide +kernel
theorem dL_copy_18 : decode cL_copy 18 = .ok (.iconst 0, 1) := by decide +kernel
theorem dL_copy_19 : decode cL_copy 19 = .ok (.ireturn, 1) := by decide +kernel
theorem dL_unlike_0 : decode cL_unlike 0 = .ok (.aload_n 3, 1) := by decide +kernel
theorem dL_unlike_1 : decode cL_unlike 1 = .ok (.iconst 0, 1) := by decide +kernel
theorem dL_unlike_2 : decode cL_unlike 2 = .ok (.aload_n 0, 1) := by decide +kernel
theorem dL_unlike_3 : decode cL_unlike 3 = .ok (.iload_n 1, 1) := by decide +kernel
theorem dL_unlike_4 : decode cL_unlike 4 = .ok (.iload_n 2, 1) := by decide +kernel
theorem dL_unlike_5 : decode cL_unlike 5 = .ok (.invokevirtual 31, 3) := by decide +kernel
theorem dL_unlike_8 : decode cL_unlike 8 = .ok (.i2l, 1) := by decide +kernel
theorem dL_unlike_9 : decode cL_unlike 9 = .ok (.lastore, 1) := by decide +kernel
theorem dL_unlike_10 : decode cL_unlike 10 = .ok (.goto 7, 3) := by decide +kernel
theorem dL_unlike_13 : decode cL_unlike 13 = .ok (.astore 4, 2) := by decide +kernel
theorem dL_unlike_15 : decode cL_unlike 15 = .ok (.iconst 1, 1) := by decide +kernel
theorem dL_unlike_16 : decode cL_unlike 16 = .ok (.ireturn, 1) := by decide +kernel
theorem dL_unlike_17 : decode cL_unlike 17 = .ok (.iconst 0, 1) := by decide +kernel
theorem dL_unlike_18 : decode cL_unlike 18 = .ok (.ireturn, 1) := by decide +kernel
theorem dL_parent_0 : decode cL_parent 0 = .ok (.aload_n 2, 1) := by decide +kernel
theorem dL_parent_1 : decode cL_parent 1 = .ok (.iconst 0, 1) := by decide +kernel
theorem dL_parent_2 : decode cL_parent 2 = .ok (.aload_n 0, 1) := by decide +kernel
theorem dL_parent_3 : decode cL_parent 3 = .ok (.iload_n 1, 1) := by decide +kernel
theorem dL_parent_4 : decode cL_parent 4 = .ok (.invokevirtual 35, 3) := by decide +kernel
theorem dL_parent_7 : decode cL_parent 7 = .ok (.i2l, 1) := by decide +kernel
theorem dL_parent_8 : decode cL_parent 8 = .ok (.lastore, 1) := by decide +kernel
theorem dL_parent_9 : decode cL_parent 9 = .ok (.goto 9, 3) := by decide +kernel
theorem dL_parent_12 : decode cL_parent 12 = .ok (.astore_n 3, 1) := by decide +kernel
theorem dL_parent_13 : decode cL_parent 13 = .ok (.iconst 1, 1) := by decide +kernel
theorem dL_parent_14 : decode cL_parent 14 = .ok (.ireturn, 1) := by decide +kernel
theorem dL_parent_15 : decode cL_parent 15 = .ok (.astore_n 3, 1) := by decide +kernel
theorem dL_parent_16 : decode cL_parent 16 = .ok (.iconst 2, 1) := by decide +kernel
theorem dL_parent_17 : decode cL_parent 17 = .ok (.ireturn, 1) := by decide +kernel
theorem dL_parent_18 : decode cL_parent 18 = .ok (.iconst 0, 1) := by decide +kernel
theorem dL_parent_19 : decode cL_parent 19 = .ok (.ireturn, 1) := by decide +kernel
theorem dL_start_0 : decode cL_start 0 = .ok (.aload_n 2, 1) := by decide +kernel
theorem dL_start_1 : decode cL_start 1 = .ok (.iconst 0, 1) := by decide +kernel
theorem dL_start_2 : decode cL_start 2 = .ok (.aload_n 0, 1) := by decide +kernel
theorem dL_start_3 : decode cL_start 3 = .ok (.iload_n 1, 1) := by decide +kernel
theorem dL_start_4 : decode cL_start 4 = .ok (.invokevirtual 40, 3) := by decide +kernel
theorem dL_start_7 : decode cL_start 7 = .ok (.i2l, 1) := by decide +kernel
theorem dL_start_8 : decode cL_start 8 = .ok (.lastore, 1) := by decide +kernel
theorem dL_start_9 : decode cL_start 9 = .ok (.goto 6, 3) := by decide +kernel
theorem dL_start_12 : decode cL_start 12 = .ok (.astore_n 3, 1) := by decide +kernel
theorem dL_start_13 : decode cL_start 13 = .ok (.iconst 1, 1) := by decide +kernel
theorem dL_start_14 : decode cL_start 14 = .ok (.ireturn, 1) := by decide +kernel
theorem dL_start_15 : decode cL_start 15 = .ok (.iconst 0, 1) := by decide +kernel
theorem dL_start_16 : decode cL_start 16 = .ok (.ireturn, 1) := by decide +kernel
theorem dL_give_0 : decode cL_give 0 = .ok (.aload_n 3, 1) := by decide +kernel
theorem dL_give_1 : decode cL_give 1 = .ok (.iconst 0, 1) := by decide +kernel
theorem dL_give_2 : decode cL_give 2 = .ok (.aload_n 0, 1) := by decide +kernel
theorem dL_give_3 : decode cL_give 3 = .ok (.iload_n 1, 1) := by decide +kernel
theorem dL_give_4 : decode cL_give 4 = .ok (.iload_n 2, 1) := by decide +kernel
theorem dL_give_5 : decode cL_give 5 = .ok (.invokevirtual 43, 3) := by decide +kernel
theorem dL_give_8 : decode cL_give 8 = .ok (.i2l, 1) := by decide +kernel
theorem dL_give_9 : decode cL_give 9 = .ok (.lastore, 1) := by decide +kernel
theorem dL_give_10 : decode cL_give 10 = .ok (.goto 19, 3) := by decide +kernel
theorem dL_give_13 : decode cL_give 13 = .ok (.astore 4, 2) := by decide +kernel
theorem dL_give_15 : decode cL_give 15 = .ok (.iconst 1, 1) := by decide +kernel
theorem dL_give_16 : decode cL_give 16 = .ok (.ireturn, 1) := by decide +kernel
theorem dL_give_17 : decode cL_give 17 = .ok (.astore 4, 2) := by decide +kernel
theorem dL_give_19 : decode cL_give 19 = .ok (.iconst 2, 1) := by decide +kernel
theorem dL_give_20 : decode cL_give 20 = .ok (.ireturn, 1) := by decide +kernel
theorem dL_give_21 : decode cL_give 21 = .ok (.astore 4, 2) := by decide +kernel
theorem dL_give_23 : decode cL_give 23 = .ok (.iconst 3, 1) := by decide +kernel
theorem dL_give_24 : decode cL_give 24 = .ok (.ireturn, 1) := by decide +kernel
theorem dL_give_25 : decode cL_give 25 = .ok (.astore 4, 2) := by decide +kernel
theorem dL_give_27 : decode cL_give 27 = .ok (.iconst 4, 1) := by decide +kernel
theorem dL_give_28 : decode cL_give 28 = .ok (.ireturn, 1) := by decide +kernel
theorem dL_give_29 : decode cL_give 29 = .ok (.iconst 0, 1) := by decide +kernel
theorem dL_give_30 : decode cL_give 30 = .ok (.ireturn, 1) := by decide +kernel
theorem dL_move_0 : decode cL_move 0 = .ok (.aload_n 2, 1) := by decide +kernel
theorem dL_move_1 : decode cL_move 1 = .ok (.iconst 0, 1) := by decide +kernel
theorem dL_move_2 : decode cL_move 2 = .ok (.aload_n 0, 1) := by decide +kernel
theorem dL_move_3 : decode cL_move 3 = .ok (.iload_n 1, 1) := by decide +kernel
theorem dL_move_4 : decode cL_move 4 = .ok (.invokevirtual 48, 3) := by decide +kernel
theorem dL_move_7 : decode cL_move 7 = .ok (.i2l, 1) := by decide +kernel
theorem dL_move_8 : decode cL_move 8 = .ok (.lastore, 1) := by decide +kernel
theorem dL_move_9 : decode cL_move 9 = .ok (.goto 12, 3) := by decide +kernel
theorem dL_move_12 : decode cL_move 12 = .ok (.astore_n 3, 1) := by decide +kernel
theorem dL_move_13 : decode cL_move 13 = .ok (.iconst 1, 1) := by decide +kernel
theorem dL_move_14 : decode cL_move 14 = .ok (.ireturn, 1) := by decide +kernel
theorem dL_move_15 : decode cL_move 15 = .ok (.astore_n 3, 1) := by decide +kernel
theorem dL_move_16 : decode cL_move 16 = .ok (.iconst 2, 1) := by decide +kernel
theorem dL_move_17 : decode cL_move 17 = .ok (.ireturn, 1) := by decide +kernel
theorem dL_move_18 : decode cL_move 18 = .ok (.astore_n 3, 1) := by decide +kernel
theorem dL_move_19 : decode cL_move 19 = .ok (.iconst 3, 1) := by decide +kernel
theorem dL_move_20 : decode cL_move 20 = .ok (.ireturn, 1) := by decide +kernel
theorem dL_move_21 : decode cL_move 21 = .ok (.iconst 0, 1) := by decide +kernel
theorem dL_move_22 : decode cL_move 22 = .ok (.ireturn, 1) := by decide +kernel
theorem dL_barred_0 : decode cL_barred 0 = .ok (.aload_n 2, 1) := by decide +kernel
theorem dL_barred_1 : decode cL_barred 1 = .ok (.iconst 0, 1) := by decide +kernel
theorem dL_barred_2 : decode cL_barred 2 = .ok (.aload_n 0, 1) := by decide +kernel
theorem dL_barred_3 : decode cL_barred 3 = .ok (.iload_n 1, 1) := by decide +kernel
theorem dL_barred_4 : decode cL_barred 4 = .ok (.invokevirtual 51, 3) := by decide +kernel
theorem dL_barred_7 : decode cL_barred 7 = .ok (.i2l, 1) := by decide +kernel
theorem dL_barred_8 : decode cL_barred 8 = .ok (.lastore, 1) := by decide +kernel
theorem dL_barred_9 : decode cL_barred 9 = .ok (.goto 9, 3) := by decide +kernel
theorem dL_barred_12 : decode cL_barred 12 = .ok (.astore_n 3, 1) := by decide +kernel
theorem dL_barred_13 : decode cL_barred 13 = .ok (.iconst 1, 1) := by decide +kernel
theorem dL_barred_14 : decode cL_barred 14 = .ok (.ireturn, 1) := by decide +kernel
theorem dL_barred_15 : decode cL_barred 15 = .ok (.astore_n 3, 1) := by decide +kernel
theorem dL_barred_16 : decode cL_barred 16 = .ok (.iconst 2, 1) := by decide +kernel
theorem dL_barred_17 : decode cL_barred 17 = .ok (.ireturn, 1) := by decide +kernel
theorem dL_barred_18 : decode cL_barred 18 = .ok (.iconst 0, 1) := by decide +kernel
theorem dL_barred_19 : decode cL_barred 19 = .ok (.ireturn, 1) := by decide +kernel
theorem dL_moves_0 : decode cL_moves 0 = .ok (.aload_n 1, 1) := by decide +kernel
theorem dL_moves_1 : decode cL_moves 1 = .ok (.iconst 0, 1) := by decide +kernel
theorem dL_moves_2 : decode cL_moves 2 = .ok (.aload_n 0, 1) := by decide +kernel
theorem dL_moves_3 : decode cL_moves 3 = .ok (.invokevirtual 55, 3) := by decide +kernel
theorem dL_moves_6 : decode cL_moves 6 = .ok (.i2l, 1) := by decide +kernel
theorem dL_moves_7 : decode cL_moves 7 = .ok (.lastore, 1) := by decide +kernel
theorem dL_moves_8 : decode cL_moves 8 = .ok (.goto 6, 3) := by decide +kernel
theorem dL_moves_11 : decode cL_moves 11 = .ok (.astore_n 2, 1) := by decide +kernel
theorem dL_moves_12 : decode cL_moves 12 = .ok (.iconst 1, 1) := by decide +kernel
theorem dL_moves_13 : decode cL_moves 13 = .ok (.ireturn, 1) := by decide +kernel
theorem dL_moves_14 : decode cL_moves 14 = .ok (.iconst 0, 1) := by decide +kernel
theorem dL_moves_15 : decode cL_moves 15 = .ok (.ireturn, 1) := by decide +kernel
theorem dL_undo_0 : decode cL_undo 0 = .ok (.aload_n 1, 1) := by decide +kernel
theorem dL_undo_1 : decode cL_undo 1 = .ok (.iconst 0, 1) := by decide +kernel
theorem dL_undo_2 : decode cL_undo 2 = .ok (.aload_n 0, 1) := by decide +kernel
theorem dL_undo_3 : decode cL_undo 3 = .ok (.invokevirtual 59, 3) := by decide +kernel
theorem dL_undo_6 : decode cL_undo 6 = .ok (.i2l, 1) := by decide +kernel
theorem dL_undo_7 : decode cL_undo 7 = .ok (.lastore, 1) := by decide +kernel
theorem dL_undo_8 : decode cL_undo 8 = .ok (.goto 6, 3) := by decide +kernel
theorem dL_undo_11 : decode cL_undo 11 = .ok (.astore_n 2, 1) := by decide +kernel
theorem dL_undo_12 : decode cL_undo 12 = .ok (.iconst 1, 1) := by decide +kernel
theorem dL_undo_13 : decode cL_undo 13 = .ok (.ireturn, 1) := by decide +kernel
theorem dL_undo_14 : decode cL_undo 14 = .ok (.iconst 0, 1) := by decide +kernel
theorem dL_undo_15 : decode cL_undo 15 = .ok (.ireturn, 1) := by decide +kernel
theorem dL_seeds_0 : decode cL_seeds 0 = .ok (.aload_n 2, 1) := by decide +kernel
theorem dL_seeds_1 : decode cL_seeds 1 = .ok (.iconst 0, 1) := by decide +kernel
theorem dL_seeds_2 : decode cL_seeds 2 = .ok (.aload_n 0, 1) := by decide +kernel
theorem dL_seeds_3 : decode cL_seeds 3 = .ok (.iload_n 1, 1) := by decide +kernel
theorem dL_seeds_4 : decode cL_seeds 4 = .ok (.invokevirtual 62, 3) := by decide +kernel
theorem dL_seeds_7 : decode cL_seeds 7 = .ok (.i2l, 1) := by decide +kernel
theorem dL_seeds_8 : decode cL_seeds 8 = .ok (.lastore, 1) := by decide +kernel
theorem dL_seeds_9 : decode cL_seeds 9 = .ok (.goto 9, 3) := by decide +kernel
theorem dL_seeds_12 : decode cL_seeds 12 = .ok (.astore_n 3, 1) := by decide +kernel
theorem dL_seeds_13 : decode cL_seeds 13 = .ok (.iconst 1, 1) := by decide +kernel
theorem dL_seeds_14 : decode cL_seeds 14 = .ok (.ireturn, 1) := by decide +kernel
theorem dL_seeds_15 : decode cL_seeds 15 = .ok (.astore_n 3, 1) := by decide +kernel
theorem dL_seeds_16 : decode cL_seeds 16 = .ok (.iconst 2, 1) := by decide +kernel
theorem dL_seeds_17 : decode cL_seeds 17 = .ok (.ireturn, 1) := by decide +kernel
theorem dL_seeds_18 : decode cL_seeds 18 = .ok (.iconst 0, 1) := by decide +kernel
theorem dL_seeds_19 : decode cL_seeds 19 = .ok (.ireturn, 1) := by decide +kernel
theorem dL_store_0 : decode cL_store 0 = .ok (.aload_n 2, 1) := by decide +kernel
theorem dL_store_1 : decode cL_store 1 = .ok (.iconst 0, 1) := by decide +kernel
theorem dL_store_2 : decode cL_store 2 = .ok (.aload_n 0, 1) := by decide +kernel
theorem dL_store_3 : decode cL_store 3 = .ok (.iload_n 1, 1) := by decide +kernel
theorem dL_store_4 : decode cL_store 4 = .ok (.invokevirtual 65, 3) := by decide +kernel
theorem dL_store_7 : decode cL_store 7 = .ok (.i2l, 1) := by decide +kernel
theorem dL_store_8 : decode cL_store 8 = .ok (.lastore, 1) := by decide +kernel
theorem dL_store_9 : decode cL_store 9 = .ok (.goto 9, 3) := by decide +kernel
theorem dL_store_12 : decode cL_store 12 = .ok (.astore_n 3, 1) := by decide +kernel
theorem dL_store_13 : decode cL_store 13 = .ok (.iconst 1, 1) := by decide +kernel
theorem dL_store_14 : decode cL_store 14 = .ok (.ireturn, 1) := by decide +kernel
theorem dL_store_15 : decode cL_store 15 = .ok (.astore_n 3, 1) := by decide +kernel
theorem dL_store_16 : decode cL_store 16 = .ok (.iconst 2, 1) := by decide +kernel
theorem dL_store_17 : decode cL_store 17 = .ok (.ireturn, 1) := by decide +kernel
theorem dL_store_18 : decode cL_store 18 = .ok (.iconst 0, 1) := by decide +kernel
theorem dL_store_19 : decode cL_store 19 = .ok (.ireturn, 1) := by decide +kernel
theorem dL_turn_0 : decode cL_turn 0 = .ok (.aload_n 1, 1) := by decide +kernel
theorem dL_turn_1 : decode cL_turn 1 = .ok (.iconst 0, 1) := by decide +kernel
theorem dL_turn_2 : decode cL_turn 2 = .ok (.aload_n 0, 1) := by decide +kernel
theorem dL_turn_3 : decode cL_turn 3 = .ok (.invokevirtual 68, 3) := by decide +kernel
theorem dL_turn_6 : decode cL_turn 6 = .ok (.i2l, 1) := by decide +kernel
theorem dL_turn_7 : decode cL_turn 7 = .ok (.lastore, 1) := by decide +kernel
theorem dL_turn_8 : decode cL_turn 8 = .ok (.goto 6, 3) := by decide +kernel
theorem dL_turn_11 : decode cL_turn 11 = .ok (.astore_n 2, 1) := by decide +kernel
theorem dL_turn_12 : decode cL_turn 12 = .ok (.iconst 1, 1) := by decide +kernel
theorem dL_turn_13 : decode cL_turn 13 = .ok (.ireturn, 1) := by decide +kernel
theorem dL_turn_14 : decode cL_turn 14 = .ok (.iconst 0, 1) := by decide +kernel
theorem dL_turn_15 : decode cL_turn 15 = .ok (.ireturn, 1) := by decide +kernel
theorem dL_isOver_0 : decode cL_isOver 0 = .ok (.aload_n 1, 1) := by decide +kernel
theorem dL_isOver_1 : decode cL_isOver 1 = .ok (.iconst 0, 1) := by decide +kernel
theorem dL_isOver_2 : decode cL_isOver 2 = .ok (.aload_n 0, 1) := by decide +kernel
theorem dL_isOver_3 : decode cL_isOver 3 = .ok (.invokevirtual 71, 3) := by decide +kernel
theorem dL_isOver_6 : decode cL_isOver 6 = .ok (.ifCond .eq 7, 3) := by decide +kernel
theorem dL_isOver_9 : decode cL_isOver 9 = .ok (.lconst 1, 1) := by decide +kernel
theorem dL_isOver_10 : decode cL_isOver 10 = .ok (.goto 4, 3) := by decide +kernel
theorem dL_isOver_13 : decode cL_isOver 13 = .ok (.lconst 0, 1) := by decide +kernel
theorem dL_isOver_14 : decode cL_isOver 14 = .ok (.lastore, 1) := by decide +kernel
theorem dL_isOver_15 : decode cL_isOver 15 = .ok (.goto 6, 3) := by decide +kernel
theorem dL_isOver_18 : decode cL_isOver 18 = .ok (.astore_n 2, 1) := by decide +kernel
theorem dL_isOver_19 : decode cL_isOver 19 = .ok (.iconst 1, 1) := by decide +kernel
theorem dL_isOver_20 : decode cL_isOver 20 = .ok (.ireturn, 1) := by decide +kernel
theorem dL_isOver_21 : decode cL_isOver 21 = .ok (.iconst 0, 1) := by decide +kernel
theorem dL_isOver_22 : decode cL_isOver 22 = .ok (.ireturn, 1) := by decide +kernel
theorem dL_winner_0 : decode cL_winner 0 = .ok (.aload_n 1, 1) := by decide +kernel
theorem dL_winner_1 : decode cL_winner 1 = .ok (.iconst 0, 1) := by decide +kernel
theorem dL_winner_2 : decode cL_winner 2 = .ok (.aload_n 0, 1) := by decide +kernel
theorem dL_winner_3 : decode cL_winner 3 = .ok (.invokevirtual 75, 3) := by decide +kernel
theorem dL_winner_6 : decode cL_winner 6 = .ok (.i2l, 1) := by decide +kernel
theorem dL_winner_7 : decode cL_winner 7 = .ok (.lastore, 1) := by decide +kernel
theorem dL_winner_8 : decode cL_winner 8 = .ok (.goto 9, 3) := by decide +kernel
theorem dL_winner_11 : decode cL_winner 11 = .ok (.astore_n 2, 1) := by decide +kernel
theorem dL_winner_12 : decode cL_winner 12 = .ok (.iconst 1, 1) := by decide +kernel
theorem dL_winner_13 : decode cL_winner 13 = .ok (.ireturn, 1) := by decide +kernel
theorem dL_winner_14 : decode cL_winner 14 = .ok (.astore_n 2, 1) := by decide +kernel
theorem dL_winner_15 : decode cL_winner 15 = .ok (.iconst 2, 1) := by decide +kernel
theorem dL_winner_16 : decode cL_winner 16 = .ok (.ireturn, 1) := by decide +kernel
theorem dL_winner_17 : decode cL_winner 17 = .ok (.iconst 0, 1) := by decide +kernel
theorem dL_winner_18 : decode cL_winner 18 = .ok (.ireturn, 1) := by decide +kernel
theorem dL_laps_0 : decode cL_laps 0 = .ok (.aload_n 1, 1) := by decide +kernel
theorem dL_laps_1 : decode cL_laps 1 = .ok (.iconst 0, 1) := by decide +kernel
theorem dL_laps_2 : decode cL_laps 2 = .ok (.aload_n 0, 1) := by decide +kernel
theorem dL_laps_3 : decode cL_laps 3 = .ok (.invokevirtual 78, 3) := by decide +kernel
theorem dL_laps_6 : decode cL_laps 6 = .ok (.i2l, 1) := by decide +kernel
theorem dL_laps_7 : decode cL_laps 7 = .ok (.lastore, 1) := by decide +kernel
theorem dL_laps_8 : decode cL_laps 8 = .ok (.goto 9, 3) := by decide +kernel
theorem dL_laps_11 : decode cL_laps 11 = .ok (.astore_n 2, 1) := by decide +kernel
theorem dL_laps_12 : decode cL_laps 12 = .ok (.iconst 1, 1) := by decide +kernel
theorem dL_laps_13 : decode cL_laps 13 = .ok (.ireturn, 1) := by decide +kernel
theorem dL_laps_14 : decode cL_laps 14 = .ok (.astore_n 2, 1) := by decide +kernel
theorem dL_laps_15 : decode cL_laps 15 = .ok (.iconst 2, 1) := by decide +kernel
theorem dL_laps_16 : decode cL_laps 16 = .ok (.ireturn, 1) := by decide +kernel
theorem dL_laps_17 : decode cL_laps 17 = .ok (.iconst 0, 1) := by decide +kernel
theorem dL_laps_18 : decode cL_laps 18 = .ok (.ireturn, 1) := by decide +kernel
theorem dL_length_0 : decode cL_length 0 = .ok (.aload_n 1, 1) := by decide +kernel
theorem dL_length_1 : decode cL_length 1 = .ok (.iconst 0, 1) := by decide +kernel
theorem dL_length_2 : decode cL_length 2 = .ok (.aload_n 0, 1) := by decide +kernel
theorem dL_length_3 : decode cL_length 3 = .ok (.invokevirtual 81, 3) := by decide +kernel
theorem dL_length_6 : decode cL_length 6 = .ok (.i2l, 1) := by decide +kernel
theorem dL_length_7 : decode cL_length 7 = .ok (.lastore, 1) := by decide +kernel
theorem dL_length_8 : decode cL_length 8 = .ok (.goto 6, 3) := by decide +kernel
theorem dL_length_11 : decode cL_length 11 = .ok (.astore_n 2, 1) := by decide +kernel
theorem dL_length_12 : decode cL_length 12 = .ok (.iconst 1, 1) := by decide +kernel
theorem dL_length_13 : decode cL_length 13 = .ok (.ireturn, 1) := by decide +kernel
theorem dL_length_14 : decode cL_length 14 = .ok (.iconst 0, 1) := by decide +kernel
theorem dL_length_15 : decode cL_length 15 = .ok (.ireturn, 1) := by decide +kernel
theorem dL_times_0 : decode cL_times 0 = .ok (.aload_n 1, 1) := by decide +kernel
theorem dL_times_1 : decode cL_times 1 = .ok (.iconst 0, 1) := by decide +kernel
theorem dL_times_2 : decode cL_times 2 = .ok (.aload_n 0, 1) := by decide +kernel
theorem dL_times_3 : decode cL_times 3 = .ok (.invokevirtual 84, 3) := by decide +kernel
theorem dL_times_6 : decode cL_times 6 = .ok (.i2l, 1) := by decide +kernel
theorem dL_times_7 : decode cL_times 7 = .ok (.lastore, 1) := by decide +kernel
theorem dL_times_8 : decode cL_times 8 = .ok (.goto 6, 3) := by decide +kernel
theorem dL_times_11 : decode cL_times 11 = .ok (.astore_n 2, 1) := by decide +kernel
theorem dL_times_12 : decode cL_times 12 = .ok (.iconst 1, 1) := by decide +kernel
theorem dL_times_13 : decode cL_times 13 = .ok (.ireturn, 1) := by decide +kernel
theorem dL_times_14 : decode cL_times 14 = .ok (.iconst 0, 1) := by decide +kernel
theorem dL_times_15 : decode cL_times 15 = .ok (.ireturn, 1) := by decide +kernel
theorem dL_many_0 : decode cL_many 0 = .ok (.aload_n 3, 1) := by decide +kernel
theorem dL_many_1 : decode cL_many 1 = .ok (.iconst 0, 1) := by decide +kernel
theorem dL_many_2 : decode cL_many 2 = .ok (.aload_n 0, 1) := by decide +kernel
theorem dL_many_3 : decode cL_many 3 = .ok (.iload_n 1, 1) := by decide +kernel
theorem dL_many_4 : decode cL_many 4 = .ok (.iload_n 2, 1) := by decide +kernel
theorem dL_many_5 : decode cL_many 5 = .ok (.invokevirtual 87, 3) := by decide +kernel
theorem dL_many_8 : decode cL_many 8 = .ok (.lastore, 1) := by decide +kernel
theorem dL_many_9 : decode cL_many 9 = .ok (.goto 7, 3) := by decide +kernel
theorem dL_many_12 : decode cL_many 12 = .ok (.astore 4, 2) := by decide +kernel
theorem dL_many_14 : decode cL_many 14 = .ok (.iconst 1, 1) := by decide +kernel
theorem dL_many_15 : decode cL_many 15 = .ok (.ireturn, 1) := by decide +kernel
theorem dL_many_16 : decode cL_many 16 = .ok (.iconst 0, 1) := by decide +kernel
theorem dL_many_17 : decode cL_many 17 = .ok (.ireturn, 1) := by decide +kernel
theorem dL_number_0 : decode cL_number 0 = .ok (.aload_n 1, 1) := by decide +kernel
theorem dL_number_1 : decode cL_number 1 = .ok (.iconst 0, 1) := by decide +kernel
theorem dL_number_2 : decode cL_number 2 = .ok (.aload_n 0, 1) := by decide +kernel
theorem dL_number_3 : decode cL_number 3 = .ok (.invokevirtual 91, 3) := by decide +kernel
theorem dL_number_6 : decode cL_number 6 = .ok (.lastore, 1) := by decide +kernel
theorem dL_number_7 : decode cL_number 7 = .ok (.goto 6, 3) := by decide +kernel
theorem dL_number_10 : decode cL_number 10 = .ok (.astore_n 2, 1) := by decide +kernel
theorem dL_number_11 : decode cL_number 11 = .ok (.iconst 1, 1) := by decide +kernel
theorem dL_number_12 : decode cL_number 12 = .ok (.ireturn, 1) := by decide +kernel
theorem dL_number_13 : decode cL_number 13 = .ok (.iconst 0, 1) := by decide +kernel
theorem dL_number_14 : decode cL_number 14 = .ok (.ireturn, 1) := by decide +kernel
theorem dL_inRow_0 : decode cL_inRow 0 = .ok (.aload 6, 2) := by decide +kernel
theorem dL_inRow_2 : decode cL_inRow 2 = .ok (.iconst 0, 1) := by decide +kernel
theorem dL_inRow_3 : decode cL_inRow 3 = .ok (.aload_n 0, 1) := by decide +kernel
theorem dL_inRow_4 : decode cL_inRow 4 = .ok (.iload_n 1, 1) := by decide +kernel
theorem dL_inRow_5 : decode cL_inRow 5 = .ok (.iload_n 2, 1) := by decide +kernel
theorem dL_inRow_6 : decode cL_inRow 6 = .ok (.lload_n 3, 1) := by decide +kernel
theorem dL_inRow_7 : decode cL_inRow 7 = .ok (.iload 5, 2) := by decide +kernel
theorem dL_inRow_9 : decode cL_inRow 9 = .ok (.invokevirtual 95, 3) := by decide +kernel
theorem dL_inRow_12 : decode cL_inRow 12 = .ok (.i2l, 1) := by decide +kernel
theorem dL_inRow_13 : decode cL_inRow 13 = .ok (.lastore, 1) := by decide +kernel
theorem dL_inRow_14 : decode cL_inRow 14 = .ok (.goto 11, 3) := by decide +kernel
theorem dL_inRow_17 : decode cL_inRow 17 = .ok (.astore 7, 2) := by decide +kernel
theorem dL_inRow_19 : decode cL_inRow 19 = .ok (.iconst 1, 1) := by decide +kernel
theorem dL_inRow_20 : decode cL_inRow 20 = .ok (.ireturn, 1) := by decide +kernel
theorem dL_inRow_21 : decode cL_inRow 21 = .ok (.astore 7, 2) := by decide +kernel
theorem dL_inRow_23 : decode cL_inRow 23 = .ok (.iconst 2, 1) := by decide +kernel
theorem dL_inRow_24 : decode cL_inRow 24 = .ok (.ireturn, 1) := by decide +kernel
theorem dL_inRow_25 : decode cL_inRow 25 = .ok (.iconst 0, 1) := by decide +kernel
theorem dL_inRow_26 : decode cL_inRow 26 = .ok (.ireturn, 1) := by decide +kernel
theorem dL_value_0 : decode cL_value 0 = .ok (.aload_n 2, 1) := by decide +kernel
theorem dL_value_1 : decode cL_value 1 = .ok (.iconst 0, 1) := by decide +kernel
theorem dL_value_2 : decode cL_value 2 = .ok (.aload_n 0, 1) := by decide +kernel
theorem dL_value_3 : decode cL_value 3 = .ok (.iload_n 1, 1) := by decide +kernel
theorem dL_value_4 : decode cL_value 4 = .ok (.invokevirtual 99, 3) := by decide +kernel
theorem dL_value_7 : decode cL_value 7 = .ok (.i2l, 1) := by decide +kernel
theorem dL_value_8 : decode cL_value 8 = .ok (.lastore, 1) := by decide +kernel
theorem dL_value_9 : decode cL_value 9 = .ok (.goto 9, 3) := by decide +kernel
theorem dL_value_12 : decode cL_value 12 = .ok (.astore_n 3, 1) := by decide +kernel
theorem dL_value_13 : decode cL_value 13 = .ok (.iconst 1, 1) := by decide +kernel
theorem dL_value_14 : decode cL_value 14 = .ok (.ireturn, 1) := by decide +kernel
theorem dL_value_15 : decode cL_value 15 = .ok (.astore_n 3, 1) := by decide +kernel
theorem dL_value_16 : decode cL_value 16 = .ok (.iconst 2, 1) := by decide +kernel
theorem dL_value_17 : decode cL_value 17 = .ok (.ireturn, 1) := by decide +kernel
theorem dL_value_18 : decode cL_value 18 = .ok (.iconst 0, 1) := by decide +kernel
theorem dL_value_19 : decode cL_value 19 = .ok (.ireturn, 1) := by decide +kernel
theorem dL_best_0 : decode cL_best 0 = .ok (.aload_n 2, 1) := by decide +kernel
theorem dL_best_1 : decode cL_best 1 = .ok (.iconst 0, 1) := by decide +kernel
theorem dL_best_2 : decode cL_best 2 = .ok (.aload_n 0, 1) := by decide +kernel
theorem dL_best_3 : decode cL_best 3 = .ok (.iload_n 1, 1) := by decide +kernel
theorem dL_best_4 : decode cL_best 4 = .ok (.invokevirtual 102, 3) := by decide +kernel
theorem dL_best_7 : decode cL_best 7 = .ok (.i2l, 1) := by decide +kernel
theorem dL_best_8 : decode cL_best 8 = .ok (.lastore, 1) := by decide +kernel
theorem dL_best_9 : decode cL_best 9 = .ok (.goto 12, 3) := by decide +kernel
theorem dL_best_12 : decode cL_best 12 = .ok (.astore_n 3, 1) := by decide +kernel
theorem dL_best_13 : decode cL_best 13 = .ok (.iconst 1, 1) := by decide +kernel
theorem dL_best_14 : decode cL_best 14 = .ok (.ireturn, 1) := by decide +kernel
theorem dL_best_15 : decode cL_best 15 = .ok (.astore_n 3, 1) := by decide +kernel
theorem dL_best_16 : decode cL_best 16 = .ok (.iconst 2, 1) := by decide +kernel
theorem dL_best_17 : decode cL_best 17 = .ok (.ireturn, 1) := by decide +kernel
theorem dL_best_18 : decode cL_best 18 = .ok (.astore_n 3, 1) := by decide +kernel
theorem dL_best_19 : decode cL_best 19 = .ok (.iconst 3, 1) := by decide +kernel
theorem dL_best_20 : decode cL_best 20 = .ok (.ireturn, 1) := by decide +kernel
theorem dL_best_21 : decode cL_best 21 = .ok (.iconst 0, 1) := by decide +kernel
theorem dL_best_22 : decode cL_best 22 = .ok (.ireturn, 1) := by decide +kernel
theorem dL_blunder_0 : decode cL_blunder 0 = .ok (.aload_n 3, 1) := by decide +kernel
theorem dL_blunder_1 : decode cL_blunder 1 = .ok (.iconst 0, 1) := by decide +kernel
theorem dL_blunder_2 : decode cL_blunder 2 = .ok (.aload_n 0, 1) := by decide +kernel
theorem dL_blunder_3 : decode cL_blunder 3 = .ok (.iload_n 1, 1) := by decide +kernel
theorem dL_blunder_4 : decode cL_blunder 4 = .ok (.iload_n 2, 1) := by decide +kernel
theorem dL_blunder_5 : decode cL_blunder 5 = .ok (.invokevirtual 105, 3) := by decide +kernel
theorem dL_blunder_8 : decode cL_blunder 8 = .ok (.i2l, 1) := by decide +kernel
theorem dL_blunder_9 : decode cL_blunder 9 = .ok (.lastore, 1) := by decide +kernel
theorem dL_blunder_10 : decode cL_blunder 10 = .ok (.goto 19, 3) := by decide +kernel
theorem dL_blunder_13 : decode cL_blunder 13 = .ok (.astore 4, 2) := by decide +kernel
theorem dL_blunder_15 : decode cL_blunder 15 = .ok (.iconst 1, 1) := by decide +kernel
theorem dL_blunder_16 : decode cL_blunder 16 = .ok (.ireturn, 1) := by decide +kernel
theorem dL_blunder_17 : decode cL_blunder 17 = .ok (.astore 4, 2) := by decide +kernel
theorem dL_blunder_19 : decode cL_blunder 19 = .ok (.iconst 2, 1) := by decide +kernel
theorem dL_blunder_20 : decode cL_blunder 20 = .ok (.ireturn, 1) := by decide +kernel
theorem dL_blunder_21 : decode cL_blunder 21 = .ok (.astore 4, 2) := by decide +kernel
theorem dL_blunder_23 : decode cL_blunder 23 = .ok (.iconst 3, 1) := by decide +kernel
theorem dL_blunder_24 : decode cL_blunder 24 = .ok (.ireturn, 1) := by decide +kernel
theorem dL_blunder_25 : decode cL_blunder 25 = .ok (.astore 4, 2) := by decide +kernel
theorem dL_blunder_27 : decode cL_blunder 27 = .ok (.iconst 4, 1) := by decide +kernel
theorem dL_blunder_28 : decode cL_blunder 28 = .ok (.ireturn, 1) := by decide +kernel
theorem dL_blunder_29 : decode cL_blunder 29 = .ok (.iconst 0, 1) := by decide +kernel
theorem dL_blunder_30 : decode cL_blunder 30 = .ok (.ireturn, 1) := by decide +kernel
theorem dL_isPuzzle_0 : decode cL_isPuzzle 0 = .ok (.aload_n 2, 1) := by decide +kernel
theorem dL_isPuzzle_1 : decode cL_isPuzzle 1 = .ok (.iconst 0, 1) := by decide +kernel
theorem dL_isPuzzle_2 : decode cL_isPuzzle 2 = .ok (.aload_n 0, 1) := by decide +kernel
theorem dL_isPuzzle_3 : decode cL_isPuzzle 3 = .ok (.iload_n 1, 1) := by decide +kernel
theorem dL_isPuzzle_4 : decode cL_isPuzzle 4 = .ok (.invokevirtual 108, 3) := by decide +kernel
theorem dL_isPuzzle_7 : decode cL_isPuzzle 7 = .ok (.ifCond .eq 7, 3) := by decide +kernel
theorem dL_isPuzzle_10 : decode cL_isPuzzle 10 = .ok (.lconst 1, 1) := by decide +kernel
theorem dL_isPuzzle_11 : decode cL_isPuzzle 11 = .ok (.goto 4, 3) := by decide +kernel
theorem dL_isPuzzle_14 : decode cL_isPuzzle 14 = .ok (.lconst 0, 1) := by decide +kernel
theorem dL_isPuzzle_15 : decode cL_isPuzzle 15 = .ok (.lastore, 1) := by decide +kernel
theorem dL_isPuzzle_16 : decode cL_isPuzzle 16 = .ok (.goto 9, 3) := by decide +kernel
theorem dL_isPuzzle_19 : decode cL_isPuzzle 19 = .ok (.astore_n 3, 1) := by decide +kernel
theorem dL_isPuzzle_20 : decode cL_isPuzzle 20 = .ok (.iconst 1, 1) := by decide +kernel
theorem dL_isPuzzle_21 : decode cL_isPuzzle 21 = .ok (.ireturn, 1) := by decide +kernel
theorem dL_isPuzzle_22 : decode cL_isPuzzle 22 = .ok (.astore_n 3, 1) := by decide +kernel
theorem dL_isPuzzle_23 : decode cL_isPuzzle 23 = .ok (.iconst 2, 1) := by decide +kernel
theorem dL_isPuzzle_24 : decode cL_isPuzzle 24 = .ok (.ireturn, 1) := by decide +kernel
theorem dL_isPuzzle_25 : decode cL_isPuzzle 25 = .ok (.iconst 0, 1) := by decide +kernel
theorem dL_isPuzzle_26 : decode cL_isPuzzle 26 = .ok (.ireturn, 1) := by decide +kernel
theorem dL_play_0 : decode cL_play 0 = .ok (.aload_n 3, 1) := by decide +kernel
theorem dL_play_1 : decode cL_play 1 = .ok (.iconst 0, 1) := by decide +kernel
theorem dL_play_2 : decode cL_play 2 = .ok (.aload_n 0, 1) := by decide +kernel
theorem dL_play_3 : decode cL_play 3 = .ok (.iload_n 1, 1) := by decide +kernel
theorem dL_play_4 : decode cL_play 4 = .ok (.iload_n 2, 1) := by decide +kernel
theorem dL_play_5 : decode cL_play 5 = .ok (.invokevirtual 112, 3) := by decide +kernel
theorem dL_play_8 : decode cL_play 8 = .ok (.i2l, 1) := by decide +kernel
theorem dL_play_9 : decode cL_play 9 = .ok (.lastore, 1) := by decide +kernel
theorem dL_play_10 : decode cL_play 10 = .ok (.goto 11, 3) := by decide +kernel
theorem dL_play_13 : decode cL_play 13 = .ok (.astore 4, 2) := by decide +kernel
theorem dL_play_15 : decode cL_play 15 = .ok (.iconst 1, 1) := by decide +kernel
theorem dL_play_16 : decode cL_play 16 = .ok (.ireturn, 1) := by decide +kernel
theorem dL_play_17 : decode cL_play 17 = .ok (.astore 4, 2) := by decide +kernel
theorem dL_play_19 : decode cL_play 19 = .ok (.iconst 2, 1) := by decide +kernel
theorem dL_play_20 : decode cL_play 20 = .ok (.ireturn, 1) := by decide +kernel
theorem dL_play_21 : decode cL_play 21 = .ok (.iconst 0, 1) := by decide +kernel
theorem dL_play_22 : decode cL_play 22 = .ok (.ireturn, 1) := by decide +kernel
theorem dL_type_0 : decode cL_type 0 = .ok (.aload_n 2, 1) := by decide +kernel
theorem dL_type_1 : decode cL_type 1 = .ok (.iconst 0, 1) := by decide +kernel
theorem dL_type_2 : decode cL_type 2 = .ok (.aload_n 0, 1) := by decide +kernel
theorem dL_type_3 : decode cL_type 3 = .ok (.iload_n 1, 1) := by decide +kernel
theorem dL_type_4 : decode cL_type 4 = .ok (.invokevirtual 116, 3) := by decide +kernel
theorem dL_type_7 : decode cL_type 7 = .ok (.i2l, 1) := by decide +kernel
theorem dL_type_8 : decode cL_type 8 = .ok (.lastore, 1) := by decide +kernel
theorem dL_type_9 : decode cL_type 9 = .ok (.goto 9, 3) := by decide +kernel
theorem dL_type_12 : decode cL_type 12 = .ok (.astore_n 3, 1) := by decide +kernel
theorem dL_type_13 : decode cL_type 13 = .ok (.iconst 1, 1) := by decide +kernel
theorem dL_type_14 : decode cL_type 14 = .ok (.ireturn, 1) := by decide +kernel
theorem dL_type_15 : decode cL_type 15 = .ok (.astore_n 3, 1) := by decide +kernel
theorem dL_type_16 : decode cL_type 16 = .ok (.iconst 2, 1) := by decide +kernel
theorem dL_type_17 : decode cL_type 17 = .ok (.ireturn, 1) := by decide +kernel
theorem dL_type_18 : decode cL_type 18 = .ok (.iconst 0, 1) := by decide +kernel
theorem dL_type_19 : decode cL_type 19 = .ok (.ireturn, 1) := by decide +kernel
theorem dL_explains_0 : decode cL_explains 0 = .ok (.aload_n 2, 1) := by decide +kernel
theorem dL_explains_1 : decode cL_explains 1 = .ok (.iconst 0, 1) := by decide +kernel
theorem dL_explains_2 : decode cL_explains 2 = .ok (.aload_n 0, 1) := by decide +kernel
theorem dL_explains_3 : decode cL_explains 3 = .ok (.iload_n 1, 1) := by decide +kernel
theorem dL_explains_4 : decode cL_explains 4 = .ok (.invokevirtual 119, 3) := by decide +kernel
theorem dL_explains_7 : decode cL_explains 7 = .ok (.i2l, 1) := by decide +kernel
theorem dL_explains_8 : decode cL_explains 8 = .ok (.lastore, 1) := by decide +kernel
theorem dL_explains_9 : decode cL_explains 9 = .ok (.goto 6, 3) := by decide +kernel
theorem dL_explains_12 : decode cL_explains 12 = .ok (.astore_n 3, 1) := by decide +kernel
theorem dL_explains_13 : decode cL_explains 13 = .ok (.iconst 1, 1) := by decide +kernel
theorem dL_explains_14 : decode cL_explains 14 = .ok (.ireturn, 1) := by decide +kernel
theorem dL_explains_15 : decode cL_explains 15 = .ok (.iconst 0, 1) := by decide +kernel
theorem dL_explains_16 : decode cL_explains 16 = .ok (.ireturn, 1) := by decide +kernel
theorem dL_explainer_0 : decode cL_explainer 0 = .ok (.aload_n 1, 1) := by decide +kernel
theorem dL_explainer_1 : decode cL_explainer 1 = .ok (.iconst 0, 1) := by decide +kernel
theorem dL_explainer_2 : decode cL_explainer 2 = .ok (.aload_n 0, 1) := by decide +kernel
theorem dL_explainer_3 : decode cL_explainer 3 = .ok (.invokevirtual 122, 3) := by decide +kernel
theorem dL_explainer_6 : decode cL_explainer 6 = .ok (.i2l, 1) := by decide +kernel
theorem dL_explainer_7 : decode cL_explainer 7 = .ok (.lastore, 1) := by decide +kernel
theorem dL_explainer_8 : decode cL_explainer 8 = .ok (.goto 6, 3) := by decide +kernel
theorem dL_explainer_11 : decode cL_explainer 11 = .ok (.astore_n 2, 1) := by decide +kernel
theorem dL_explainer_12 : decode cL_explainer 12 = .ok (.iconst 1, 1) := by decide +kernel
theorem dL_explainer_13 : decode cL_explainer 13 = .ok (.ireturn, 1) := by decide +kernel
theorem dL_explainer_14 : decode cL_explainer 14 = .ok (.iconst 0, 1) := by decide +kernel
theorem dL_explainer_15 : decode cL_explainer 15 = .ok (.ireturn, 1) := by decide +kernel
theorem dL_line_0 : decode cL_line 0 = .ok (.aload_n 1, 1) := by decide +kernel
theorem dL_line_1 : decode cL_line 1 = .ok (.iconst 0, 1) := by decide +kernel
theorem dL_line_2 : decode cL_line 2 = .ok (.aload_n 0, 1) := by decide +kernel
theorem dL_line_3 : decode cL_line 3 = .ok (.invokevirtual 125, 3) := by decide +kernel
theorem dL_line_6 : decode cL_line 6 = .ok (.i2l, 1) := by decide +kernel
theorem dL_line_7 : decode cL_line 7 = .ok (.lastore, 1) := by decide +kernel
theorem dL_line_8 : decode cL_line 8 = .ok (.goto 6, 3) := by decide +kernel
theorem dL_line_11 : decode cL_line 11 = .ok (.astore_n 2, 1) := by decide +kernel
theorem dL_line_12 : decode cL_line 12 = .ok (.iconst 1, 1) := by decide +kernel
theorem dL_line_13 : decode cL_line 13 = .ok (.ireturn, 1) := by decide +kernel
theorem dL_line_14 : decode cL_line 14 = .ok (.iconst 0, 1) := by decide +kernel
theorem dL_line_15 : decode cL_line 15 = .ok (.ireturn, 1) := by decide +kernel
theorem dL_sign_0 : decode cL_sign 0 = .ok (.aload_n 2, 1) := by decide +kernel
theorem dL_sign_1 : decode cL_sign 1 = .ok (.iconst 0, 1) := by decide +kernel
theorem dL_sign_2 : decode cL_sign 2 = .ok (.aload_n 0, 1) := by decide +kernel
theorem dL_sign_3 : decode cL_sign 3 = .ok (.iload_n 1, 1) := by decide +kernel
theorem dL_sign_4 : decode cL_sign 4 = .ok (.invokevirtual 128, 3) := by decide +kernel
theorem dL_sign_7 : decode cL_sign 7 = .ok (.i2l, 1) := by decide +kernel
theorem dL_sign_8 : decode cL_sign 8 = .ok (.lastore, 1) := by decide +kernel
theorem dL_sign_9 : decode cL_sign 9 = .ok (.goto 9, 3) := by decide +kernel
theorem dL_sign_12 : decode cL_sign 12 = .ok (.astore_n 3, 1) := by decide +kernel
theorem dL_sign_13 : decode cL_sign 13 = .ok (.iconst 1, 1) := by decide +kernel
theorem dL_sign_14 : decode cL_sign 14 = .ok (.ireturn, 1) := by decide +kernel
theorem dL_sign_15 : decode cL_sign 15 = .ok (.astore_n 3, 1) := by decide +kernel
theorem dL_sign_16 : decode cL_sign 16 = .ok (.iconst 2, 1) := by decide +kernel
theorem dL_sign_17 : decode cL_sign 17 = .ok (.ireturn, 1) := by decide +kernel
theorem dL_sign_18 : decode cL_sign 18 = .ok (.iconst 0, 1) := by decide +kernel
theorem dL_sign_19 : decode cL_sign 19 = .ok (.ireturn, 1) := by decide +kernel
theorem dL_freeShare_0 : decode cL_freeShare 0 = .ok (.aload_n 1, 1) := by decide +kernel
theorem dL_freeShare_1 : decode cL_freeShare 1 = .ok (.iconst 0, 1) := by decide +kernel
theorem dL_freeShare_2 : decode cL_freeShare 2 = .ok (.aload_n 0, 1) := by decide +kernel
theorem dL_freeShare_3 : decode cL_freeShare 3 = .ok (.invokevirtual 131, 3) := by decide +kernel
theorem dL_freeShare_6 : decode cL_freeShare 6 = .ok (.f2d, 1) := by decide +kernel
theorem dL_freeShare_7 : decode cL_freeShare 7 = .ok (.dastore, 1) := by decide +kernel
theorem dL_freeShare_8 : decode cL_freeShare 8 = .ok (.goto 6, 3) := by decide +kernel
theorem dL_freeShare_11 : decode cL_freeShare 11 = .ok (.astore_n 2, 1) := by decide +kernel
theorem dL_freeShare_12 : decode cL_freeShare 12 = .ok (.iconst 1, 1) := by decide +kernel
theorem dL_freeShare_13 : decode cL_freeShare 13 = .ok (.ireturn, 1) := by decide +kernel
theorem dL_freeShare_14 : decode cL_freeShare 14 = .ok (.iconst 0, 1) := by decide +kernel
theorem dL_freeShare_15 : decode cL_freeShare 15 = .ok (.ireturn, 1) := by decide +kernel
theorem dL_meanUnlike_0 : decode cL_meanUnlike 0 = .ok (.aload_n 1, 1) := by decide +kernel
theorem dL_meanUnlike_1 : decode cL_meanUnlike 1 = .ok (.iconst 0, 1) := by decide +kernel
theorem dL_meanUnlike_2 : decode cL_meanUnlike 2 = .ok (.aload_n 0, 1) := by decide +kernel
theorem dL_meanUnlike_3 : decode cL_meanUnlike 3 = .ok (.invokevirtual 135, 3) := by decide +kernel
theorem dL_meanUnlike_6 : decode cL_meanUnlike 6 = .ok (.dastore, 1) := by decide +kernel
theorem dL_meanUnlike_7 : decode cL_meanUnlike 7 = .ok (.goto 6, 3) := by decide +kernel
theorem dL_meanUnlike_10 : decode cL_meanUnlike 10 = .ok (.astore_n 2, 1) := by decide +kernel
theorem dL_meanUnlike_11 : decode cL_meanUnlike 11 = .ok (.iconst 1, 1) := by decide +kernel
theorem dL_meanUnlike_12 : decode cL_meanUnlike 12 = .ok (.ireturn, 1) := by decide +kernel
theorem dL_meanUnlike_13 : decode cL_meanUnlike 13 = .ok (.iconst 0, 1) := by decide +kernel
theorem dL_meanUnlike_14 : decode cL_meanUnlike 14 = .ok (.ireturn, 1) := by decide +kernel
theorem dL_law_0 : decode cL_law 0 = .ok (.new 8, 3) := by decide +kernel
theorem dL_law_3 : decode cL_law 3 = .ok (.dup, 1) := by decide +kernel
theorem dL_law_4 : decode cL_law 4 = .ok (.invokespecial 141, 3) := by decide +kernel
theorem dL_law_7 : decode cL_law 7 = .ok (.astore_n 1, 1) := by decide +kernel
theorem dL_law_8 : decode cL_law 8 = .ok (.new 142, 3) := by decide +kernel
theorem dL_law_11 : decode cL_law 11 = .ok (.dup, 1) := by decide +kernel
theorem dL_law_12 : decode cL_law 12 = .ok (.invokespecial 144, 3) := by decide +kernel
theorem dL_law_15 : decode cL_law 15 = .ok (.astore_n 2, 1) := by decide +kernel
theorem dL_law_16 : decode cL_law 16 = .ok (.iconst 1, 1) := by decide +kernel
theorem dL_law_17 : decode cL_law 17 = .ok (.newarray .long, 2) := by decide +kernel
theorem dL_law_19 : decode cL_law 19 = .ok (.astore_n 3, 1) := by decide +kernel
theorem dL_law_20 : decode cL_law 20 = .ok (.iconst 1, 1) := by decide +kernel
theorem dL_law_21 : decode cL_law 21 = .ok (.newarray .double, 2) := by decide +kernel
theorem dL_law_23 : decode cL_law 23 = .ok (.astore 4, 2) := by decide +kernel
theorem dL_law_25 : decode cL_law 25 = .ok (.iconst 0, 1) := by decide +kernel
theorem dL_law_26 : decode cL_law 26 = .ok (.istore 5, 2) := by decide +kernel
theorem dL_law_28 : decode cL_law 28 = .ok (.iload 5, 2) := by decide +kernel
theorem dL_law_30 : decode cL_law 30 = .ok (.aload_n 0, 1) := by decide +kernel
theorem dL_law_31 : decode cL_law 31 = .ok (.arraylength, 1) := by decide +kernel
theorem dL_law_32 : decode cL_law 32 = .ok (.bipush 6, 2) := by decide +kernel
theorem dL_law_34 : decode cL_law 34 = .ok (.isub, 1) := by decide +kernel
theorem dL_law_35 : decode cL_law 35 = .ok (.if_icmp .gt 2322, 3) := by decide +kernel
theorem dL_law_38 : decode cL_law 38 = .ok (.aload_n 0, 1) := by decide +kernel
theorem dL_law_39 : decode cL_law 39 = .ok (.iload 5, 2) := by decide +kernel
theorem dL_law_41 : decode cL_law 41 = .ok (.iaload, 1) := by decide +kernel
theorem dL_law_42 : decode cL_law 42 = .ok (.bipush 63, 2) := by decide +kernel
theorem dL_law_44 : decode cL_law 44 = .ok (.iand, 1) := by decide +kernel
theorem dL_law_45 : decode cL_law 45 = .ok (.tableswitch 2306 0 37 #[167, 263, 368, 445, 501, 569, 625, 681, 749, 805, 861, 905, 949, 1005, 1061, 1105, 1156, 1200, 1244, 1288, 1332, 1399, 1442, 1566, 1622, 1678, 1746, 1809, 1879, 1935, 1948, 2004, 2048, 2092, 2148, 2162, 2228, 2293], 167) := by decide +kernel
theorem dL_law_212 : decode cL_law 212 = .ok (.aload_n 1, 1) := by decide +kernel
theorem dL_law_213 : decode cL_law 213 = .ok (.aload_n 0, 1) := by decide +kernel
theorem dL_law_214 : decode cL_law 214 = .ok (.iload 5, 2) := by decide +kernel
theorem dL_law_216 : decode cL_law 216 = .ok (.iconst 1, 1) := by decide +kernel
theorem dL_law_217 : decode cL_law 217 = .ok (.iadd, 1) := by decide +kernel
theorem dL_law_218 : decode cL_law 218 = .ok (.iaload, 1) := by decide +kernel
theorem dL_law_219 : decode cL_law 219 = .ok (.aload_n 0, 1) := by decide +kernel
theorem dL_law_220 : decode cL_law 220 = .ok (.iload 5, 2) := by decide +kernel
theorem dL_law_222 : decode cL_law 222 = .ok (.iconst 2, 1) := by decide +kernel
theorem dL_law_223 : decode cL_law 223 = .ok (.iadd, 1) := by decide +kernel
theorem dL_law_224 : decode cL_law 224 = .ok (.iaload, 1) := by decide +kernel
theorem dL_law_225 : decode cL_law 225 = .ok (.aload_n 0, 1) := by decide +kernel
theorem dL_law_226 : decode cL_law 226 = .ok (.iload 5, 2) := by decide +kernel
theorem dL_law_228 : decode cL_law 228 = .ok (.iconst 3, 1) := by decide +kernel
theorem dL_law_229 : decode cL_law 229 = .ok (.iadd, 1) := by decide +kernel
theorem dL_law_230 : decode cL_law 230 = .ok (.iaload, 1) := by decide +kernel
theorem dL_law_231 : decode cL_law 231 = .ok (.i2c, 1) := by decide +kernel
theorem dL_law_232 : decode cL_law 232 = .ok (.aload_n 0, 1) := by decide +kernel
theorem dL_law_233 : decode cL_law 233 = .ok (.iload 5, 2) := by decide +kernel
theorem dL_law_235 : decode cL_law 235 = .ok (.iconst 4, 1) := by decide +kernel
theorem dL_law_236 : decode cL_law 236 = .ok (.iadd, 1) := by decide +kernel
theorem dL_law_237 : decode cL_law 237 = .ok (.iaload, 1) := by decide +kernel
theorem dL_law_238 : decode cL_law 238 = .ok (.i2c, 1) := by decide +kernel
theorem dL_law_239 : decode cL_law 239 = .ok (.aload_n 3, 1) := by decide +kernel
theorem dL_law_240 : decode cL_law 240 = .ok (.invokestatic 145, 3) := by decide +kernel
theorem dL_law_243 : decode cL_law 243 = .ok (.istore 6, 2) := by decide +kernel
theorem dL_law_245 : decode cL_law 245 = .ok (.aload_n 2, 1) := by decide +kernel
theorem dL_law_246 : decode cL_law 246 = .ok (.aload_n 0, 1) := by decide +kernel
theorem dL_law_247 : decode cL_law 247 = .ok (.iload 5, 2) := by decide +kernel
theorem dL_law_249 : decode cL_law 249 = .ok (.iconst 1, 1) := by decide +kernel
theorem dL_law_250 : decode cL_law 250 = .ok (.iadd, 1) := by decide +kernel
theorem dL_law_251 : decode cL_law 251 = .ok (.iaload, 1) := by decide +kernel
theorem dL_law_252 : decode cL_law 252 = .ok (.aload_n 0, 1) := by decide +kernel
theorem dL_law_253 : decode cL_law 253 = .ok (.iload 5, 2) := by decide +kernel
theorem dL_law_255 : decode cL_law 255 = .ok (.iconst 2, 1) := by decide +kernel
theorem dL_law_256 : decode cL_law 256 = .ok (.iadd, 1) := by decide +kernel
theorem dL_law_257 : decode cL_law 257 = .ok (.iaload, 1) := by decide +kernel
theorem dL_law_258 : decode cL_law 258 = .ok (.aload_n 0, 1) := by decide +kernel
theorem dL_law_259 : decode cL_law 259 = .ok (.iload 5, 2) := by decide +kernel
theorem dL_law_261 : decode cL_law 261 = .ok (.iconst 3, 1) := by decide +kernel
theorem dL_law_262 : decode cL_law 262 = .ok (.iadd, 1) := by decide +kernel
theorem dL_law_263 : decode cL_law 263 = .ok (.iaload, 1) := by decide +kernel
theorem dL_law_264 : decode cL_law 264 = .ok (.i2c, 1) := by decide +kernel
theorem dL_law_265 : decode cL_law 265 = .ok (.aload_n 0, 1) := by decide +kernel
theorem dL_law_266 : decode cL_law 266 = .ok (.iload 5, 2) := by decide +kernel
theorem dL_law_268 : decode cL_law 268 = .ok (.iconst 4, 1) := by decide +kernel
theorem dL_law_269 : decode cL_law 269 = .ok (.iadd, 1) := by decide +kernel
theorem dL_law_270 : decode cL_law 270 = .ok (.iaload, 1) := by decide +kernel
theorem dL_law_271 : decode cL_law 271 = .ok (.i2c, 1) := by decide +kernel
theorem dL_law_272 : decode cL_law 272 = .ok (.invokevirtual 150, 3) := by decide +kernel
theorem dL_law_275 : decode cL_law 275 = .ok (.istore 7, 2) := by decide +kernel
theorem dL_law_277 : decode cL_law 277 = .ok (.aload_n 2, 1) := by decide +kernel
theorem dL_law_278 : decode cL_law 278 = .ok (.invokevirtual 151, 3) := by decide +kernel
theorem dL_law_281 : decode cL_law 281 = .ok (.iload 6, 2) := by decide +kernel
theorem dL_law_283 : decode cL_law 283 = .ok (.if_icmp .eq 5, 3) := by decide +kernel
theorem dL_law_286 : decode cL_law 286 = .ok (.iconst 0, 1) := by decide +kernel
theorem dL_law_287 : decode cL_law 287 = .ok (.ireturn, 1) := by decide +kernel
theorem dL_law_288 : decode cL_law 288 = .ok (.iload 6, 2) := by decide +kernel
theorem dL_law_290 : decode cL_law 290 = .ok (.ifCond .ne 15, 3) := by decide +kernel
theorem dL_law_293 : decode cL_law 293 = .ok (.aload_n 3, 1) := by decide +kernel
theorem dL_law_294 : decode cL_law 294 = .ok (.iconst 0, 1) := by decide +kernel
theorem dL_law_295 : decode cL_law 295 = .ok (.laload, 1) := by decide +kernel
theorem dL_law_296 : decode cL_law 296 = .ok (.iload 7, 2) := by decide +kernel
theorem dL_law_298 : decode cL_law 298 = .ok (.i2l, 1) := by decide +kernel
theorem dL_law_299 : decode cL_law 299 = .ok (.lcmp, 1) := by decide +kernel
theorem dL_law_300 : decode cL_law 300 = .ok (.ifCond .eq 5, 3) := by decide +kernel
theorem dL_law_303 : decode cL_law 303 = .ok (.iconst 0, 1) := by decide +kernel
theorem dL_law_304 : decode cL_law 304 = .ok (.ireturn, 1) := by decide +kernel
theorem dL_law_305 : decode cL_law 305 = .ok (.goto 2046, 3) := by decide +kernel
theorem dL_law_308 : decode cL_law 308 = .ok (.aload_n 1, 1) := by decide +kernel
theorem dL_law_309 : decode cL_law 309 = .ok (.aload_n 0, 1) := by decide +kernel
theorem dL_law_310 : decode cL_law 310 = .ok (.iload 5, 2) := by decide +kernel
theorem dL_law_312 : decode cL_law 312 = .ok (.iconst 1, 1) := by decide +kernel
theorem dL_law_313 : decode cL_law 313 = .ok (.iadd, 1) := by decide +kernel
theorem dL_law_314 : decode cL_law 314 = .ok (.iaload, 1) := by decide +kernel
theorem dL_law_315 : decode cL_law 315 = .ok (.aload_n 0, 1) := by decide +kernel
theorem dL_law_316 : decode cL_law 316 = .ok (.iload 5, 2) := by decide +kernel
theorem dL_law_318 : decode cL_law 318 = .ok (.iconst 2, 1) := by decide +kernel
theorem dL_law_319 : decode cL_law 319 = .ok (.iadd, 1) := by decide +kernel
theorem dL_law_320 : decode cL_law 320 = .ok (.iaload, 1) := by decide +kernel
theorem dL_law_321 : decode cL_law 321 = .ok (.i2c, 1) := by decide +kernel
theorem dL_law_322 : decode cL_law 322 = .ok (.aload_n 0, 1) := by decide +kernel
theorem dL_law_323 : decode cL_law 323 = .ok (.iload 5, 2) := by decide +kernel
theorem dL_law_325 : decode cL_law 325 = .ok (.iconst 3, 1) := by decide +kernel
theorem dL_law_326 : decode cL_law 326 = .ok (.iadd, 1) := by decide +kernel
theorem dL_law_327 : decode cL_law 327 = .ok (.iaload, 1) := by decide +kernel
theorem dL_law_328 : decode cL_law 328 = .ok (.ifCond .eq 7, 3) := by decide +kernel
theorem dL_law_331 : decode cL_law 331 = .ok (.iconst 1, 1) := by decide +kernel
theorem dL_law_332 : decode cL_law 332 = .ok (.goto 4, 3) := by decide +kernel
theorem dL_law_335 : decode cL_law 335 = .ok (.iconst 0, 1) := by decide +kernel
theorem dL_law_336 : decode cL_law 336 = .ok (.aload_n 3, 1) := by decide +kernel
theorem dL_law_337 : decode cL_law 337 = .ok (.invokestatic 154, 3) := by decide +kernel
theorem dL_law_340 : decode cL_law 340 = .ok (.istore 6, 2) := by decide +kernel
theorem dL_law_342 : decode cL_law 342 = .ok (.aload_n 2, 1) := by decide +kernel
theorem dL_law_343 : decode cL_law 343 = .ok (.aload_n 0, 1) := by decide +kernel
theorem dL_law_344 : decode cL_law 344 = .ok (.iload 5, 2) := by decide +kernel
theorem dL_law_346 : decode cL_law 346 = .ok (.iconst 1, 1) := by decide +kernel
theorem dL_law_347 : decode cL_law 347 = .ok (.iadd, 1) := by decide +kernel
theorem dL_law_348 : decode cL_law 348 = .ok (.iaload, 1) := by decide +kernel
theorem dL_law_349 : decode cL_law 349 = .ok (.aload_n 0, 1) := by decide +kernel
theorem dL_law_350 : decode cL_law 350 = .ok (.iload 5, 2) := by decide +kernel
theorem dL_law_352 : decode cL_law 352 = .ok (.iconst 2, 1) := by decide +kernel
theorem dL_law_353 : decode cL_law 353 = .ok (.iadd, 1) := by decide +kernel
theorem dL_law_354 : decode cL_law 354 = .ok (.iaload, 1) := by decide +kernel
theorem dL_law_355 : decode cL_law 355 = .ok (.i2c, 1) := by decide +kernel
theorem dL_law_356 : decode cL_law 356 = .ok (.aload_n 0, 1) := by decide +kernel
theorem dL_law_357 : decode cL_law 357 = .ok (.iload 5, 2) := by decide +kernel
theorem dL_law_359 : decode cL_law 359 = .ok (.iconst 3, 1) := by decide +kernel
theorem dL_law_360 : decode cL_law 360 = .ok (.iadd, 1) := by decide +kernel
theorem dL_law_361 : decode cL_law 361 = .ok (.iaload, 1) := by decide +kernel
theorem dL_law_362 : decode cL_law 362 = .ok (.ifCond .eq 7, 3) := by decide +kernel
theorem dL_law_365 : decode cL_law 365 = .ok (.iconst 1, 1) := by decide +kernel
theorem dL_law_366 : decode cL_law 366 = .ok (.goto 4, 3) := by decide +kernel
theorem dL_law_369 : decode cL_law 369 = .ok (.iconst 0, 1) := by decide +kernel
theorem dL_law_370 : decode cL_law 370 = .ok (.invokevirtual 157, 3) := by decide +kernel
theorem dL_law_373 : decode cL_law 373 = .ok (.istore 7, 2) := by decide +kernel
theorem dL_law_375 : decode cL_law 375 = .ok (.aload_n 2, 1) := by decide +kernel
theorem dL_law_376 : decode cL_law 376 = .ok (.invokevirtual 151, 3) := by decide +kernel
theorem dL_law_379 : decode cL_law 379 = .ok (.iload 6, 2) := by decide +kernel
theorem dL_law_381 : decode cL_law 381 = .ok (.if_icmp .eq 5, 3) := by decide +kernel
theorem dL_law_384 : decode cL_law 384 = .ok (.iconst 0, 1) := by decide +kernel
theorem dL_law_385 : decode cL_law 385 = .ok (.ireturn, 1) := by decide +kernel
theorem dL_law_386 : decode cL_law 386 = .ok (.iload 6, 2) := by decide +kernel
theorem dL_law_388 : decode cL_law 388 = .ok (.ifCond .ne 22, 3) := by decide +kernel
theorem dL_law_391 : decode cL_law 391 = .ok (.aload_n 3, 1) := by decide +kernel
theorem dL_law_392 : decode cL_law 392 = .ok (.iconst 0, 1) := by decide +kernel
theorem dL_law_393 : decode cL_law 393 = .ok (.laload, 1) := by decide +kernel
theorem dL_law_394 : decode cL_law 394 = .ok (.iload 7, 2) := by decide +kernel
theorem dL_law_396 : decode cL_law 396 = .ok (.ifCond .eq 7, 3) := by decide +kernel
theorem dL_law_399 : decode cL_law 399 = .ok (.lconst 1, 1) := by decide +kernel
theorem dL_law_400 : decode cL_law 400 = .ok (.goto 4, 3) := by decide +kernel
theorem dL_law_403 : decode cL_law 403 = .ok (.lconst 0, 1) := by decide +kernel
theorem dL_law_404 : decode cL_law 404 = .ok (.lcmp, 1) := by decide +kernel
theorem dL_law_405 : decode cL_law 405 = .ok (.ifCond .eq 5, 3) := by decide +kernel
theorem dL_law_408 : decode cL_law 408 = .ok (.iconst 0, 1) := by decide +kernel
theorem dL_law_409 : decode cL_law 409 = .ok (.ireturn, 1) := by decide +kernel
theorem dL_law_410 : decode cL_law 410 = .ok (.goto 1941, 3) := by decide +kernel
theorem dL_law_413 : decode cL_law 413 = .ok (.aload_n 1, 1) := by decide +kernel
theorem dL_law_414 : decode cL_law 414 = .ok (.aload_n 0, 1) := by decide +kernel
theorem dL_law_415 : decode cL_law 415 = .ok (.iload 5, 2) := by decide +kernel
theorem dL_law_417 : decode cL_law 417 = .ok (.iconst 1, 1) := by decide +kernel
theorem dL_law_418 : decode cL_law 418 = .ok (.iadd, 1) := by decide +kernel
theorem dL_law_419 : decode cL_law 419 = .ok (.iaload, 1) := by decide +kernel
theorem dL_law_420 : decode cL_law 420 = .ok (.aload_n 0, 1) := by decide +kernel
theorem dL_law_421 : decode cL_law 421 = .ok (.iload 5, 2) := by decide +kernel
theorem dL_law_423 : decode cL_law 423 = .ok (.iconst 2, 1) := by decide +kernel
theorem dL_law_424 : decode cL_law 424 = .ok (.iadd, 1) := by decide +kernel
theorem dL_law_425 : decode cL_law 425 = .ok (.iaload, 1) := by decide +kernel
theorem dL_law_426 : decode cL_law 426 = .ok (.i2c, 1) := by decide +kernel
theorem dL_law_427 : decode cL_law 427 = .ok (.aload_n 3, 1) := by decide +kernel
theorem dL_law_428 : decode cL_law 428 = .ok (.invokestatic 158, 3) := by decide +kernel
theorem dL_law_431 : decode cL_law 431 = .ok (.istore 6, 2) := by decide +kernel
theorem dL_law_433 : decode cL_law 433 = .ok (.aload_n 2, 1) := by decide +kernel
theorem dL_law_434 : decode cL_law 434 = .ok (.aload_n 0, 1) := by decide +kernel
theorem dL_law_435 : decode cL_law 435 = .ok (.iload 5, 2) := by decide +kernel
theorem dL_law_437 : decode cL_law 437 = .ok (.iconst 1, 1) := by decide +kernel
theorem dL_law_438 : decode cL_law 438 = .ok (.iadd, 1) := by decide +kernel
theorem dL_law_439 : decode cL_law 439 = .ok (.iaload, 1) := by decide +kernel
theorem dL_law_440 : decode cL_law 440 = .ok (.aload_n 0, 1) := by decide +kernel
theorem dL_law_441 : decode cL_law 441 = .ok (.iload 5, 2) := by decide +kernel
theorem dL_law_443 : decode cL_law 443 = .ok (.iconst 2, 1) := by decide +kernel
theorem dL_law_444 : decode cL_law 444 = .ok (.iadd, 1) := by decide +kernel
theorem dL_law_445 : decode cL_law 445 = .ok (.iaload, 1) := by decide +kernel
theorem dL_law_446 : decode cL_law 446 = .ok (.i2c, 1) := by decide +kernel
theorem dL_law_447 : decode cL_law 447 = .ok (.invokevirtual 161, 3) := by decide +kernel
theorem dL_law_450 : decode cL_law 450 = .ok (.istore 7, 2) := by decide +kernel
theorem dL_law_452 : decode cL_law 452 = .ok (.aload_n 2, 1) := by decide +kernel
theorem dL_law_453 : decode cL_law 453 = .ok (.invokevirtual 151, 3) := by decide +kernel
theorem dL_law_456 : decode cL_law 456 = .ok (.iload 6, 2) := by decide +kernel
theorem dL_law_458 : decode cL_law 458 = .ok (.if_icmp .eq 5, 3) := by decide +kernel
theorem dL_law_461 : decode cL_law 461 = .ok (.iconst 0, 1) := by decide +kernel
theorem dL_law_462 : decode cL_law 462 = .ok (.ireturn, 1) := by decide +kernel
theorem dL_law_463 : decode cL_law 463 = .ok (.iload 6, 2) := by decide +kernel
theorem dL_law_465 : decode cL_law 465 = .ok (.ifCond .ne 22, 3) := by decide +kernel
theorem dL_law_468 : decode cL_law 468 = .ok (.aload_n 3, 1) := by decide +kernel
theorem dL_law_469 : decode cL_law 469 = .ok (.iconst 0, 1) := by decide +kernel
theorem dL_law_470 : decode cL_law 470 = .ok (.laload, 1) := by decide +kernel
theorem dL_law_471 : decode cL_law 471 = .ok (.iload 7, 2) := by decide +kernel
theorem dL_law_473 : decode cL_law 473 = .ok (.ifCond .eq 7, 3) := by decide +kernel
theorem dL_law_476 : decode cL_law 476 = .ok (.lconst 1, 1) := by decide +kernel
theorem dL_law_477 : decode cL_law 477 = .ok (.goto 4, 3) := by decide +kernel
theorem dL_law_480 : decode cL_law 480 = .ok (.lconst 0, 1) := by decide +kernel
theorem dL_law_481 : decode cL_law 481 = .ok (.lcmp, 1) := by decide +kernel
theorem dL_law_482 : decode cL_law 482 = .ok (.ifCond .eq 5, 3) := by decide +kernel
theorem dL_law_485 : decode cL_law 485 = .ok (.iconst 0, 1) := by decide +kernel
theorem dL_law_486 : decode cL_law 486 = .ok (.ireturn, 1) := by decide +kernel
theorem dL_law_487 : decode cL_law 487 = .ok (.goto 1864, 3) := by decide +kernel
theorem dL_law_490 : decode cL_law 490 = .ok (.aload_n 1, 1) := by decide +kernel
theorem dL_law_491 : decode cL_law 491 = .ok (.aload_n 0, 1) := by decide +kernel
theorem dL_law_492 : decode cL_law 492 = .ok (.iload 5, 2) := by decide +kernel
theorem dL_law_494 : decode cL_law 494 = .ok (.iconst 1, 1) := by decide +kernel
theorem dL_law_495 : decode cL_law 495 = .ok (.iadd, 1) := by decide +kernel
theorem dL_law_496 : decode cL_law 496 = .ok (.iaload, 1) := by decide +kernel
theorem dL_law_497 : decode cL_law 497 = .ok (.aload_n 3, 1) := by decide +kernel
theorem dL_law_498 : decode cL_law 498 = .ok (.invokestatic 162, 3) := by decide +kernel
theorem dL_law_501 : decode cL_law 501 = .ok (.istore 6, 2) := by decide +kernel
theorem dL_law_503 : decode cL_law 503 = .ok (.aload_n 2, 1) := by decide +kernel
theorem dL_law_504 : decode cL_law 504 = .ok (.aload_n 0, 1) := by decide +kernel
theorem dL_law_505 : decode cL_law 505 = .ok (.iload 5, 2) := by decide +kernel
theorem dL_law_507 : decode cL_law 507 = .ok (.iconst 1, 1) := by decide +kernel
theorem dL_law_508 : decode cL_law 508 = .ok (.iadd, 1) := by decide +kernel
theorem dL_law_509 : decode cL_law 509 = .ok (.iaload, 1) := by decide +kernel
theorem dL_law_510 : decode cL_law 510 = .ok (.invokevirtual 165, 3) := by decide +kernel
theorem dL_law_513 : decode cL_law 513 = .ok (.istore 7, 2) := by decide +kernel
theorem dL_law_515 : decode cL_law 515 = .ok (.aload_n 2, 1) := by decide +kernel
theorem dL_law_516 : decode cL_law 516 = .ok (.invokevirtual 151, 3) := by decide +kernel
theorem dL_law_519 : decode cL_law 519 = .ok (.iload 6, 2) := by decide +kernel
theorem dL_law_521 : decode cL_law 521 = .ok (.if_icmp .eq 5, 3) := by decide +kernel
theorem dL_law_524 : decode cL_law 524 = .ok (.iconst 0, 1) := by decide +kernel
theorem dL_law_525 : decode cL_law 525 = .ok (.ireturn, 1) := by decide +kernel
theorem dL_law_526 : decode cL_law 526 = .ok (.iload 6, 2) := by decide +kernel
theorem dL_law_528 : decode cL_law 528 = .ok (.ifCond .ne 15, 3) := by decide +kernel
theorem dL_law_531 : decode cL_law 531 = .ok (.aload_n 3, 1) := by decide +kernel
theorem dL_law_532 : decode cL_law 532 = .ok (.iconst 0, 1) := by decide +kernel
theorem dL_law_533 : decode cL_law 533 = .ok (.laload, 1) := by decide +kernel
theorem dL_law_534 : decode cL_law 534 = .ok (.iload 7, 2) := by decide +kernel
theorem dL_law_536 : decode cL_law 536 = .ok (.i2l, 1) := by decide +kernel
theorem dL_law_537 : decode cL_law 537 = .ok (.lcmp, 1) := by decide +kernel
theorem dL_law_538 : decode cL_law 538 = .ok (.ifCond .eq 5, 3) := by decide +kernel
theorem dL_law_541 : decode cL_law 541 = .ok (.iconst 0, 1) := by decide +kernel
theorem dL_law_542 : decode cL_law 542 = .ok (.ireturn, 1) := by decide +kernel
theorem dL_law_543 : decode cL_law 543 = .ok (.goto 1808, 3) := by decide +kernel
theorem dL_law_546 : decode cL_law 546 = .ok (.aload_n 1, 1) := by decide +kernel
theorem dL_law_547 : decode cL_law 547 = .ok (.aload_n 0, 1) := by decide +kernel
theorem dL_law_548 : decode cL_law 548 = .ok (.iload 5, 2) := by decide +kernel
theorem dL_law_550 : decode cL_law 550 = .ok (.iconst 1, 1) := by decide +kernel
theorem dL_law_551 : decode cL_law 551 = .ok (.iadd, 1) := by decide +kernel
theorem dL_law_552 : decode cL_law 552 = .ok (.iaload, 1) := by decide +kernel
theorem dL_law_553 : decode cL_law 553 = .ok (.aload_n 0, 1) := by decide +kernel
theorem dL_law_554 : decode cL_law 554 = .ok (.iload 5, 2) := by decide +kernel
theorem dL_law_556 : decode cL_law 556 = .ok (.iconst 2, 1) := by decide +kernel
theorem dL_law_557 : decode cL_law 557 = .ok (.iadd, 1) := by decide +kernel
theorem dL_law_558 : decode cL_law 558 = .ok (.iaload, 1) := by decide +kernel
theorem dL_law_559 : decode cL_law 559 = .ok (.aload_n 3, 1) := by decide +kernel
theorem dL_law_560 : decode cL_law 560 = .ok (.invokestatic 166, 3) := by decide +kernel
theorem dL_law_563 : decode cL_law 563 = .ok (.istore 6, 2) := by decide +kernel
theorem dL_law_565 : decode cL_law 565 = .ok (.aload_n 2, 1) := by decide +kernel
theorem dL_law_566 : decode cL_law 566 = .ok (.aload_n 0, 1) := by decide +kernel
theorem dL_law_567 : decode cL_law 567 = .ok (.iload 5, 2) := by decide +kernel
theorem dL_law_569 : decode cL_law 569 = .ok (.iconst 1, 1) := by decide +kernel
theorem dL_law_570 : decode cL_law 570 = .ok (.iadd, 1) := by decide +kernel
theorem dL_law_571 : decode cL_law 571 = .ok (.iaload, 1) := by decide +kernel
theorem dL_law_572 : decode cL_law 572 = .ok (.aload_n 0, 1) := by decide +kernel
theorem dL_law_573 : decode cL_law 573 = .ok (.iload 5, 2) := by decide +kernel
theorem dL_law_575 : decode cL_law 575 = .ok (.iconst 2, 1) := by decide +kernel
theorem dL_law_576 : decode cL_law 576 = .ok (.iadd, 1) := by decide +kernel
theorem dL_law_577 : decode cL_law 577 = .ok (.iaload, 1) := by decide +kernel
theorem dL_law_578 : decode cL_law 578 = .ok (.invokevirtual 169, 3) := by decide +kernel
theorem dL_law_581 : decode cL_law 581 = .ok (.istore 7, 2) := by decide +kernel
theorem dL_law_583 : decode cL_law 583 = .ok (.aload_n 2, 1) := by decide +kernel
theorem dL_law_584 : decode cL_law 584 = .ok (.invokevirtual 151, 3) := by decide +kernel
theorem dL_law_587 : decode cL_law 587 = .ok (.iload 6, 2) := by decide +kernel
theorem dL_law_589 : decode cL_law 589 = .ok (.if_icmp .eq 5, 3) := by decide +kernel
theorem dL_law_592 : decode cL_law 592 = .ok (.iconst 0, 1) := by decide +kernel
theorem dL_law_593 : decode cL_law 593 = .ok (.ireturn, 1) := by decide +kernel
theorem dL_law_594 : decode cL_law 594 = .ok (.iload 6, 2) := by decide +kernel
theorem dL_law_596 : decode cL_law 596 = .ok (.ifCond .ne 15, 3) := by decide +kernel
theorem dL_law_599 : decode cL_law 599 = .ok (.aload_n 3, 1) := by decide +kernel
theorem dL_law_600 : decode cL_law 600 = .ok (.iconst 0, 1) := by decide +kernel
theorem dL_law_601 : decode cL_law 601 = .ok (.laload, 1) := by decide +kernel
theorem dL_law_602 : decode cL_law 602 = .ok (.iload 7, 2) := by decide +kernel
theorem dL_law_604 : decode cL_law 604 = .ok (.i2l, 1) := by decide +kernel
theorem dL_law_605 : decode cL_law 605 = .ok (.lcmp, 1) := by decide +kernel
theorem dL_law_606 : decode cL_law 606 = .ok (.ifCond .eq 5, 3) := by decide +kernel
theorem dL_law_609 : decode cL_law 609 = .ok (.iconst 0, 1) := by decide +kernel
theorem dL_law_610 : decode cL_law 610 = .ok (.ireturn, 1) := by decide +kernel
theorem dL_law_611 : decode cL_law 611 = .ok (.goto 1740, 3) := by decide +kernel
theorem dL_law_614 : decode cL_law 614 = .ok (.aload_n 1, 1) := by decide +kernel
theorem dL_law_615 : decode cL_law 615 = .ok (.aload_n 0, 1) := by decide +kernel
theorem dL_law_616 : decode cL_law 616 = .ok (.iload 5, 2) := by decide +kernel
theorem dL_law_618 : decode cL_law 618 = .ok (.iconst 1, 1) := by decide +kernel
theorem dL_law_619 : decode cL_law 619 = .ok (.iadd, 1) := by decide +kernel
theorem dL_law_620 : decode cL_law 620 = .ok (.iaload, 1) := by decide +kernel
theorem dL_law_621 : decode cL_law 621 = .ok (.aload_n 3, 1) := by decide +kernel
theorem dL_law_622 : decode cL_law 622 = .ok (.invokestatic 170, 3) := by decide +kernel
theorem dL_law_625 : decode cL_law 625 = .ok (.istore 6, 2) := by decide +kernel
theorem dL_law_627 : decode cL_law 627 = .ok (.aload_n 2, 1) := by decide +kernel
theorem dL_law_628 : decode cL_law 628 = .ok (.aload_n 0, 1) := by decide +kernel
theorem dL_law_629 : decode cL_law 629 = .ok (.iload 5, 2) := by decide +kernel
theorem dL_law_631 : decode cL_law 631 = .ok (.iconst 1, 1) := by decide +kernel
theorem dL_law_632 : decode cL_law 632 = .ok (.iadd, 1) := by decide +kernel
theorem dL_law_633 : decode cL_law 633 = .ok (.iaload, 1) := by decide +kernel
theorem dL_law_634 : decode cL_law 634 = .ok (.invokevirtual 172, 3) := by decide +kernel
theorem dL_law_637 : decode cL_law 637 = .ok (.istore 7, 2) := by decide +kernel
theorem dL_law_639 : decode cL_law 639 = .ok (.aload_n 2, 1) := by decide +kernel
theorem dL_law_640 : decode cL_law 640 = .ok (.invokevirtual 151, 3) := by decide +kernel
theorem dL_law_643 : decode cL_law 643 = .ok (.iload 6, 2) := by decide +kernel
theorem dL_law_645 : decode cL_law 645 = .ok (.if_icmp .eq 5, 3) := by decide +kernel
theorem dL_law_648 : decode cL_law 648 = .ok (.iconst 0, 1) := by decide +kernel
theorem dL_law_649 : decode cL_law 649 = .ok (.ireturn, 1) := by decide +kernel
theorem dL_law_650 : decode cL_law 650 = .ok (.iload 6, 2) := by decide +kernel
theorem dL_law_652 : decode cL_law 652 = .ok (.ifCond .ne 15, 3) := by decide +kernel
theorem dL_law_655 : decode cL_law 655 = .ok (.aload_n 3, 1) := by decide +kernel
theorem dL_law_656 : decode cL_law 656 = .ok (.iconst 0, 1) := by decide +kernel
theorem dL_law_657 : decode cL_law 657 = .ok (.laload, 1) := by decide +kernel
theorem dL_law_658 : decode cL_law 658 = .ok (.iload 7, 2) := by decide +kernel
theorem dL_law_660 : decode cL_law 660 = .ok (.i2l, 1) := by decide +kernel
theorem dL_law_661 : decode cL_law 661 = .ok (.lcmp, 1) := by decide +kernel
theorem dL_law_662 : decode cL_law 662 = .ok (.ifCond .eq 5, 3) := by decide +kernel
theorem dL_law_665 : decode cL_law 665 = .ok (.iconst 0, 1) := by decide +kernel
theorem dL_law_666 : decode cL_law 666 = .ok (.ireturn, 1) := by decide +kernel
theorem dL_law_667 : decode cL_law 667 = .ok (.goto 1684, 3) := by decide +kernel
theorem dL_law_670 : decode cL_law 670 = .ok (.aload_n 1, 1) := by decide +kernel
theorem dL_law_671 : decode cL_law 671 = .ok (.aload_n 0, 1) := by decide +kernel
theorem dL_law_672 : decode cL_law 672 = .ok (.iload 5, 2) := by decide +kernel
theorem dL_law_674 : decode cL_law 674 = .ok (.iconst 1, 1) := by decide +kernel
theorem dL_law_675 : decode cL_law 675 = .ok (.iadd, 1) := by decide +kernel
theorem dL_law_676 : decode cL_law 676 = .ok (.iaload, 1) := by decide +kernel
theorem dL_law_677 : decode cL_law 677 = .ok (.aload_n 3, 1) := by decide +kernel
theorem dL_law_678 : decode cL_law 678 = .ok (.invokestatic 173, 3) := by decide +kernel
theorem dL_law_681 : decode cL_law 681 = .ok (.istore 6, 2) := by decide +kernel
theorem dL_law_683 : decode cL_law 683 = .ok (.aload_n 2, 1) := by decide +kernel
theorem dL_law_684 : decode cL_law 684 = .ok (.aload_n 0, 1) := by decide +kernel
theorem dL_law_685 : decode cL_law 685 = .ok (.iload 5, 2) := by decide +kernel
theorem dL_law_687 : decode cL_law 687 = .ok (.iconst 1, 1) := by decide +kernel
theorem dL_law_688 : decode cL_law 688 = .ok (.iadd, 1) := by decide +kernel
theorem dL_law_689 : decode cL_law 689 = .ok (.iaload, 1) := by decide +kernel
theorem dL_law_690 : decode cL_law 690 = .ok (.invokevirtual 175, 3) := by decide +kernel
theorem dL_law_693 : decode cL_law 693 = .ok (.istore 7, 2) := by decide +kernel
theorem dL_law_695 : decode cL_law 695 = .ok (.aload_n 2, 1) := by decide +kernel
theorem dL_law_696 : decode cL_law 696 = .ok (.invokevirtual 151, 3) := by decide +kernel
theorem dL_law_699 : decode cL_law 699 = .ok (.iload 6, 2) := by decide +kernel
theorem dL_law_701 : decode cL_law 701 = .ok (.if_icmp .eq 5, 3) := by decide +kernel
theorem dL_law_704 : decode cL_law 704 = .ok (.iconst 0, 1) := by decide +kernel
theorem dL_law_705 : decode cL_law 705 = .ok (.ireturn, 1) := by decide +kernel
theorem dL_law_706 : decode cL_law 706 = .ok (.iload 6, 2) := by decide +kernel
theorem dL_law_708 : decode cL_law 708 = .ok (.ifCond .ne 15, 3) := by decide +kernel
theorem dL_law_711 : decode cL_law 711 = .ok (.aload_n 3, 1) := by decide +kernel
theorem dL_law_712 : decode cL_law 712 = .ok (.iconst 0, 1) := by decide +kernel
theorem dL_law_713 : decode cL_law 713 = .ok (.laload, 1) := by decide +kernel
theorem dL_law_714 : decode cL_law 714 = .ok (.iload 7, 2) := by decide +kernel
theorem dL_law_716 : decode cL_law 716 = .ok (.i2l, 1) := by decide +kernel
theorem dL_law_717 : decode cL_law 717 = .ok (.lcmp, 1) := by decide +kernel
theorem dL_law_718 : decode cL_law 718 = .ok (.ifCond .eq 5, 3) := by decide +kernel
theorem dL_law_721 : decode cL_law 721 = .ok (.iconst 0, 1) := by decide +kernel
theorem dL_law_722 : decode cL_law 722 = .ok (.ireturn, 1) := by decide +kernel
theorem dL_law_723 : decode cL_law 723 = .ok (.goto 1628, 3) := by decide +kernel
theorem dL_law_726 : decode cL_law 726 = .ok (.aload_n 1, 1) := by decide +kernel
theorem dL_law_727 : decode cL_law 727 = .ok (.aload_n 0, 1) := by decide +kernel
theorem dL_law_728 : decode cL_law 728 = .ok (.iload 5, 2) := by decide +kernel
theorem dL_law_730 : decode cL_law 730 = .ok (.iconst 1, 1) := by decide +kernel
theorem dL_law_731 : decode cL_law 731 = .ok (.iadd, 1) := by decide +kernel
theorem dL_law_732 : decode cL_law 732 = .ok (.iaload, 1) := by decide +kernel
theorem dL_law_733 : decode cL_law 733 = .ok (.aload_n 0, 1) := by decide +kernel
theorem dL_law_734 : decode cL_law 734 = .ok (.iload 5, 2) := by decide +kernel
theorem dL_law_736 : decode cL_law 736 = .ok (.iconst 2, 1) := by decide +kernel
theorem dL_law_737 : decode cL_law 737 = .ok (.iadd, 1) := by decide +kernel
theorem dL_law_738 : decode cL_law 738 = .ok (.iaload, 1) := by decide +kernel
theorem dL_law_739 : decode cL_law 739 = .ok (.aload_n 3, 1) := by decide +kernel
theorem dL_law_740 : decode cL_law 740 = .ok (.invokestatic 176, 3) := by decide +kernel
theorem dL_law_743 : decode cL_law 743 = .ok (.istore 6, 2) := by decide +kernel
theorem dL_law_745 : decode cL_law 745 = .ok (.aload_n 2, 1) := by decide +kernel
theorem dL_law_746 : decode cL_law 746 = .ok (.aload_n 0, 1) := by decide +kernel
theorem dL_law_747 : decode cL_law 747 = .ok (.iload 5, 2) := by decide +kernel
theorem dL_law_749 : decode cL_law 749 = .ok (.iconst 1, 1) := by decide +kernel
theorem dL_law_750 : decode cL_law 750 = .ok (.iadd, 1) := by decide +kernel
theorem dL_law_751 : decode cL_law 751 = .ok (.iaload, 1) := by decide +kernel
theorem dL_law_752 : decode cL_law 752 = .ok (.aload_n 0, 1) := by decide +kernel
theorem dL_law_753 : decode cL_law 753 = .ok (.iload 5, 2) := by decide +kernel
theorem dL_law_755 : decode cL_law 755 = .ok (.iconst 2, 1) := by decide +kernel
theorem dL_law_756 : decode cL_law 756 = .ok (.iadd, 1) := by decide +kernel
theorem dL_law_757 : decode cL_law 757 = .ok (.iaload, 1) := by decide +kernel
theorem dL_law_758 : decode cL_law 758 = .ok (.invokevirtual 178, 3) := by decide +kernel
theorem dL_law_761 : decode cL_law 761 = .ok (.istore 7, 2) := by decide +kernel
theorem dL_law_763 : decode cL_law 763 = .ok (.aload_n 2, 1) := by decide +kernel
theorem dL_law_764 : decode cL_law 764 = .ok (.invokevirtual 151, 3) := by decide +kernel
theorem dL_law_767 : decode cL_law 767 = .ok (.iload 6, 2) := by decide +kernel
theorem dL_law_769 : decode cL_law 769 = .ok (.if_icmp .eq 5, 3) := by decide +kernel
theorem dL_law_772 : decode cL_law 772 = .ok (.iconst 0, 1) := by decide +kernel
theorem dL_law_773 : decode cL_law 773 = .ok (.ireturn, 1) := by decide +kernel
theorem dL_law_774 : decode cL_law 774 = .ok (.iload 6, 2) := by decide +kernel
theorem dL_law_776 : decode cL_law 776 = .ok (.ifCond .ne 15, 3) := by decide +kernel
theorem dL_law_779 : decode cL_law 779 = .ok (.aload_n 3, 1) := by decide +kernel
theorem dL_law_780 : decode cL_law 780 = .ok (.iconst 0, 1) := by decide +kernel
theorem dL_law_781 : decode cL_law 781 = .ok (.laload, 1) := by decide +kernel
theorem dL_law_782 : decode cL_law 782 = .ok (.iload 7, 2) := by decide +kernel
theorem dL_law_784 : decode cL_law 784 = .ok (.i2l, 1) := by decide +kernel
theorem dL_law_785 : decode cL_law 785 = .ok (.lcmp, 1) := by decide +kernel
theorem dL_law_786 : decode cL_law 786 = .ok (.ifCond .eq 5, 3) := by decide +kernel
theorem dL_law_789 : decode cL_law 789 = .ok (.iconst 0, 1) := by decide +kernel
theorem dL_law_790 : decode cL_law 790 = .ok (.ireturn, 1) := by decide +kernel
theorem dL_law_791 : decode cL_law 791 = .ok (.goto 1560, 3) := by decide +kernel
theorem dL_law_794 : decode cL_law 794 = .ok (.aload_n 1, 1) := by decide +kernel
theorem dL_law_795 : decode cL_law 795 = .ok (.aload_n 0, 1) := by decide +kernel
theorem dL_law_796 : decode cL_law 796 = .ok (.iload 5, 2) := by decide +kernel
theorem dL_law_798 : decode cL_law 798 = .ok (.iconst 1, 1) := by decide +kernel
theorem dL_law_799 : decode cL_law 799 = .ok (.iadd, 1) := by decide +kernel
theorem dL_law_800 : decode cL_law 800 = .ok (.iaload, 1) := by decide +kernel
theorem dL_law_801 : decode cL_law 801 = .ok (.aload_n 3, 1) := by decide +kernel
theorem dL_law_802 : decode cL_law 802 = .ok (.invokestatic 179, 3) := by decide +kernel
theorem dL_law_805 : decode cL_law 805 = .ok (.istore 6, 2) := by decide +kernel
theorem dL_law_807 : decode cL_law 807 = .ok (.aload_n 2, 1) := by decide +kernel
theorem dL_law_808 : decode cL_law 808 = .ok (.aload_n 0, 1) := by decide +kernel
theorem dL_law_809 : decode cL_law 809 = .ok (.iload 5, 2) := by decide +kernel
theorem dL_law_811 : decode cL_law 811 = .ok (.iconst 1, 1) := by decide +kernel
theorem dL_law_812 : decode cL_law 812 = .ok (.iadd, 1) := by decide +kernel
theorem dL_law_813 : decode cL_law 813 = .ok (.iaload, 1) := by decide +kernel
theorem dL_law_814 : decode cL_law 814 = .ok (.invokevirtual 181, 3) := by decide +kernel
theorem dL_law_817 : decode cL_law 817 = .ok (.istore 7, 2) := by decide +kernel
theorem dL_law_819 : decode cL_law 819 = .ok (.aload_n 2, 1) := by decide +kernel
theorem dL_law_820 : decode cL_law 820 = .ok (.invokevirtual 151, 3) := by decide +kernel
theorem dL_law_823 : decode cL_law 823 = .ok (.iload 6, 2) := by decide +kernel
theorem dL_law_825 : decode cL_law 825 = .ok (.if_icmp .eq 5, 3) := by decide +kernel
theorem dL_law_828 : decode cL_law 828 = .ok (.iconst 0, 1) := by decide +kernel
theorem dL_law_829 : decode cL_law 829 = .ok (.ireturn, 1) := by decide +kernel
theorem dL_law_830 : decode cL_law 830 = .ok (.iload 6, 2) := by decide +kernel
theorem dL_law_832 : decode cL_law 832 = .ok (.ifCond .ne 15, 3) := by decide +kernel
theorem dL_law_835 : decode cL_law 835 = .ok (.aload_n 3, 1) := by decide +kernel
theorem dL_law_836 : decode cL_law 836 = .ok (.iconst 0, 1) := by decide +kernel
theorem dL_law_837 : decode cL_law 837 = .ok (.laload, 1) := by decide +kernel
theorem dL_law_838 : decode cL_law 838 = .ok (.iload 7, 2) := by decide +kernel
theorem dL_law_840 : decode cL_law 840 = .ok (.i2l, 1) := by decide +kernel
theorem dL_law_841 : decode cL_law 841 = .ok (.lcmp, 1) := by decide +kernel
theorem dL_law_842 : decode cL_law 842 = .ok (.ifCond .eq 5, 3) := by decide +kernel
theorem dL_law_845 : decode cL_law 845 = .ok (.iconst 0, 1) := by decide +kernel
theorem dL_law_846 : decode cL_law 846 = .ok (.ireturn, 1) := by decide +kernel
theorem dL_law_847 : decode cL_law 847 = .ok (.goto 1504, 3) := by decide +kernel
theorem dL_law_850 : decode cL_law 850 = .ok (.aload_n 1, 1) := by decide +kernel
theorem dL_law_851 : decode cL_law 851 = .ok (.aload_n 0, 1) := by decide +kernel
theorem dL_law_852 : decode cL_law 852 = .ok (.iload 5, 2) := by decide +kernel
theorem dL_law_854 : decode cL_law 854 = .ok (.iconst 1, 1) := by decide +kernel
theorem dL_law_855 : decode cL_law 855 = .ok (.iadd, 1) := by decide +kernel
theorem dL_law_856 : decode cL_law 856 = .ok (.iaload, 1) := by decide +kernel
theorem dL_law_857 : decode cL_law 857 = .ok (.aload_n 3, 1) := by decide +kernel
theorem dL_law_858 : decode cL_law 858 = .ok (.invokestatic 182, 3) := by decide +kernel
theorem dL_law_861 : decode cL_law 861 = .ok (.istore 6, 2) := by decide +kernel
theorem dL_law_863 : decode cL_law 863 = .ok (.aload_n 2, 1) := by decide +kernel
theorem dL_law_864 : decode cL_law 864 = .ok (.aload_n 0, 1) := by decide +kernel
theorem dL_law_865 : decode cL_law 865 = .ok (.iload 5, 2) := by decide +kernel
theorem dL_law_867 : decode cL_law 867 = .ok (.iconst 1, 1) := by decide +kernel
theorem dL_law_868 : decode cL_law 868 = .ok (.iadd, 1) := by decide +kernel
theorem dL_law_869 : decode cL_law 869 = .ok (.iaload, 1) := by decide +kernel
theorem dL_law_870 : decode cL_law 870 = .ok (.invokevirtual 184, 3) := by decide +kernel
theorem dL_law_873 : decode cL_law 873 = .ok (.istore 7, 2) := by decide +kernel
theorem dL_law_875 : decode cL_law 875 = .ok (.aload_n 2, 1) := by decide +kernel
theorem dL_law_876 : decode cL_law 876 = .ok (.invokevirtual 151, 3) := by decide +kernel
theorem dL_law_879 : decode cL_law 879 = .ok (.iload 6, 2) := by decide +kernel
theorem dL_law_881 : decode cL_law 881 = .ok (.if_icmp .eq 5, 3) := by decide +kernel
theorem dL_law_884 : decode cL_law 884 = .ok (.iconst 0, 1) := by decide +kernel
theorem dL_law_885 : decode cL_law 885 = .ok (.ireturn, 1) := by decide +kernel
theorem dL_law_886 : decode cL_law 886 = .ok (.iload 6, 2) := by decide +kernel
theorem dL_law_888 : decode cL_law 888 = .ok (.ifCond .ne 15, 3) := by decide +kernel
theorem dL_law_891 : decode cL_law 891 = .ok (.aload_n 3, 1) := by decide +kernel
theorem dL_law_892 : decode cL_law 892 = .ok (.iconst 0, 1) := by decide +kernel
theorem dL_law_893 : decode cL_law 893 = .ok (.laload, 1) := by decide +kernel
theorem dL_law_894 : decode cL_law 894 = .ok (.iload 7, 2) := by decide +kernel
theorem dL_law_896 : decode cL_law 896 = .ok (.i2l, 1) := by decide +kernel
theorem dL_law_897 : decode cL_law 897 = .ok (.lcmp, 1) := by decide +kernel
theorem dL_law_898 : decode cL_law 898 = .ok (.ifCond .eq 5, 3) := by decide +kernel
theorem dL_law_901 : decode cL_law 901 = .ok (.iconst 0, 1) := by decide +kernel
theorem dL_law_902 : decode cL_law 902 = .ok (.ireturn, 1) := by decide +kernel
theorem dL_law_903 : decode cL_law 903 = .ok (.goto 1448, 3) := by decide +kernel
theorem dL_law_906 : decode cL_law 906 = .ok (.aload_n 1, 1) := by decide +kernel
theorem dL_law_907 : decode cL_law 907 = .ok (.aload_n 3, 1) := by decide +kernel
theorem dL_law_908 : decode cL_law 908 = .ok (.invokestatic 185, 3) := by decide +kernel
theorem dL_law_911 : decode cL_law 911 = .ok (.istore 6, 2) := by decide +kernel
theorem dL_law_913 : decode cL_law 913 = .ok (.aload_n 2, 1) := by decide +kernel
theorem dL_law_914 : decode cL_law 914 = .ok (.invokevirtual 188, 3) := by decide +kernel
theorem dL_law_917 : decode cL_law 917 = .ok (.istore 7, 2) := by decide +kernel
theorem dL_law_919 : decode cL_law 919 = .ok (.aload_n 2, 1) := by decide +kernel
theorem dL_law_920 : decode cL_law 920 = .ok (.invokevirtual 151, 3) := by decide +kernel
theorem dL_law_923 : decode cL_law 923 = .ok (.iload 6, 2) := by decide +kernel
theorem dL_law_925 : decode cL_law 925 = .ok (.if_icmp .eq 5, 3) := by decide +kernel
theorem dL_law_928 : decode cL_law 928 = .ok (.iconst 0, 1) := by decide +kernel
theorem dL_law_929 : decode cL_law 929 = .ok (.ireturn, 1) := by decide +kernel
theorem dL_law_930 : decode cL_law 930 = .ok (.iload 6, 2) := by decide +kernel
theorem dL_law_932 : decode cL_law 932 = .ok (.ifCond .ne 15, 3) := by decide +kernel
theorem dL_law_935 : decode cL_law 935 = .ok (.aload_n 3, 1) := by decide +kernel
theorem dL_law_936 : decode cL_law 936 = .ok (.iconst 0, 1) := by decide +kernel
theorem dL_law_937 : decode cL_law 937 = .ok (.laload, 1) := by decide +kernel
theorem dL_law_938 : decode cL_law 938 = .ok (.iload 7, 2) := by decide +kernel
theorem dL_law_940 : decode cL_law 940 = .ok (.i2l, 1) := by decide +kernel
theorem dL_law_941 : decode cL_law 941 = .ok (.lcmp, 1) := by decide +kernel
theorem dL_law_942 : decode cL_law 942 = .ok (.ifCond .eq 5, 3) := by decide +kernel
theorem dL_law_945 : decode cL_law 945 = .ok (.iconst 0, 1) := by decide +kernel
theorem dL_law_946 : decode cL_law 946 = .ok (.ireturn, 1) := by decide +kernel
theorem dL_law_947 : decode cL_law 947 = .ok (.goto 1404, 3) := by decide +kernel
theorem dL_law_950 : decode cL_law 950 = .ok (.aload_n 1, 1) := by decide +kernel
theorem dL_law_951 : decode cL_law 951 = .ok (.aload_n 3, 1) := by decide +kernel
theorem dL_law_952 : decode cL_law 952 = .ok (.invokestatic 189, 3) := by decide +kernel
theorem dL_law_955 : decode cL_law 955 = .ok (.istore 6, 2) := by decide +kernel
theorem dL_law_957 : decode cL_law 957 = .ok (.aload_n 2, 1) := by decide +kernel
theorem dL_law_958 : decode cL_law 958 = .ok (.invokevirtual 191, 3) := by decide +kernel
theorem dL_law_961 : decode cL_law 961 = .ok (.istore 7, 2) := by decide +kernel
theorem dL_law_963 : decode cL_law 963 = .ok (.aload_n 2, 1) := by decide +kernel
theorem dL_law_964 : decode cL_law 964 = .ok (.invokevirtual 151, 3) := by decide +kernel
theorem dL_law_967 : decode cL_law 967 = .ok (.iload 6, 2) := by decide +kernel
theorem dL_law_969 : decode cL_law 969 = .ok (.if_icmp .eq 5, 3) := by decide +kernel
theorem dL_law_972 : decode cL_law 972 = .ok (.iconst 0, 1) := by decide +kernel
theorem dL_law_973 : decode cL_law 973 = .ok (.ireturn, 1) := by decide +kernel
theorem dL_law_974 : decode cL_law 974 = .ok (.iload 6, 2) := by decide +kernel
theorem dL_law_976 : decode cL_law 976 = .ok (.ifCond .ne 15, 3) := by decide +kernel
theorem dL_law_979 : decode cL_law 979 = .ok (.aload_n 3, 1) := by decide +kernel
theorem dL_law_980 : decode cL_law 980 = .ok (.iconst 0, 1) := by decide +kernel
theorem dL_law_981 : decode cL_law 981 = .ok (.laload, 1) := by decide +kernel
theorem dL_law_982 : decode cL_law 982 = .ok (.iload 7, 2) := by decide +kernel
theorem dL_law_984 : decode cL_law 984 = .ok (.i2l, 1) := by decide +kernel
theorem dL_law_985 : decode cL_law 985 = .ok (.lcmp, 1) := by decide +kernel
theorem dL_law_986 : decode cL_law 986 = .ok (.ifCond .eq 5, 3) := by decide +kernel
theorem dL_law_989 : decode cL_law 989 = .ok (.iconst 0, 1) := by decide +kernel
theorem dL_law_990 : decode cL_law 990 = .ok (.ireturn, 1) := by decide +kernel
theorem dL_law_991 : decode cL_law 991 = .ok (.goto 1360, 3) := by decide +kernel
theorem dL_law_994 : decode cL_law 994 = .ok (.aload_n 1, 1) := by decide +kernel
theorem dL_law_995 : decode cL_law 995 = .ok (.aload_n 0, 1) := by decide +kernel
theorem dL_law_996 : decode cL_law 996 = .ok (.iload 5, 2) := by decide +kernel
theorem dL_law_998 : decode cL_law 998 = .ok (.iconst 1, 1) := by decide +kernel
theorem dL_law_999 : decode cL_law 999 = .ok (.iadd, 1) := by decide +kernel
theorem dL_law_1000 : decode cL_law 1000 = .ok (.iaload, 1) := by decide +kernel
theorem dL_law_1001 : decode cL_law 1001 = .ok (.aload_n 3, 1) := by decide +kernel
theorem dL_law_1002 : decode cL_law 1002 = .ok (.invokestatic 192, 3) := by decide +kernel
theorem dL_law_1005 : decode cL_law 1005 = .ok (.istore 6, 2) := by decide +kernel
theorem dL_law_1007 : decode cL_law 1007 = .ok (.aload_n 2, 1) := by decide +kernel
theorem dL_law_1008 : decode cL_law 1008 = .ok (.aload_n 0, 1) := by decide +kernel
theorem dL_law_1009 : decode cL_law 1009 = .ok (.iload 5, 2) := by decide +kernel
theorem dL_law_1011 : decode cL_law 1011 = .ok (.iconst 1, 1) := by decide +kernel
theorem dL_law_1012 : decode cL_law 1012 = .ok (.iadd, 1) := by decide +kernel
theorem dL_law_1013 : decode cL_law 1013 = .ok (.iaload, 1) := by decide +kernel
theorem dL_law_1014 : decode cL_law 1014 = .ok (.invokevirtual 194, 3) := by decide +kernel
theorem dL_law_1017 : decode cL_law 1017 = .ok (.istore 7, 2) := by decide +kernel
theorem dL_law_1019 : decode cL_law 1019 = .ok (.aload_n 2, 1) := by decide +kernel
theorem dL_law_1020 : decode cL_law 1020 = .ok (.invokevirtual 151, 3) := by decide +kernel
theorem dL_law_1023 : decode cL_law 1023 = .ok (.iload 6, 2) := by decide +kernel
theorem dL_law_1025 : decode cL_law 1025 = .ok (.if_icmp .eq 5, 3) := by decide +kernel
theorem dL_law_1028 : decode cL_law 1028 = .ok (.iconst 0, 1) := by decide +kernel
theorem dL_law_1029 : decode cL_law 1029 = .ok (.ireturn, 1) := by decide +kernel
theorem dL_law_1030 : decode cL_law 1030 = .ok (.iload 6, 2) := by decide +kernel
theorem dL_law_1032 : decode cL_law 1032 = .ok (.ifCond .ne 15, 3) := by decide +kernel
theorem dL_law_1035 : decode cL_law 1035 = .ok (.aload_n 3, 1) := by decide +kernel
theorem dL_law_1036 : decode cL_law 1036 = .ok (.iconst 0, 1) := by decide +kernel
theorem dL_law_1037 : decode cL_law 1037 = .ok (.laload, 1) := by decide +kernel
theorem dL_law_1038 : decode cL_law 1038 = .ok (.iload 7, 2) := by decide +kernel
theorem dL_law_1040 : decode cL_law 1040 = .ok (.i2l, 1) := by decide +kernel
theorem dL_law_1041 : decode cL_law 1041 = .ok (.lcmp, 1) := by decide +kernel
theorem dL_law_1042 : decode cL_law 1042 = .ok (.ifCond .eq 5, 3) := by decide +kernel
theorem dL_law_1045 : decode cL_law 1045 = .ok (.iconst 0, 1) := by decide +kernel
theorem dL_law_1046 : decode cL_law 1046 = .ok (.ireturn, 1) := by decide +kernel
theorem dL_law_1047 : decode cL_law 1047 = .ok (.goto 1304, 3) := by decide +kernel
theorem dL_law_1050 : decode cL_law 1050 = .ok (.aload_n 1, 1) := by decide +kernel
theorem dL_law_1051 : decode cL_law 1051 = .ok (.aload_n 0, 1) := by decide +kernel
theorem dL_law_1052 : decode cL_law 1052 = .ok (.iload 5, 2) := by decide +kernel
theorem dL_law_1054 : decode cL_law 1054 = .ok (.iconst 1, 1) := by decide +kernel
theorem dL_law_1055 : decode cL_law 1055 = .ok (.iadd, 1) := by decide +kernel
theorem dL_law_1056 : decode cL_law 1056 = .ok (.iaload, 1) := by decide +kernel
theorem dL_law_1057 : decode cL_law 1057 = .ok (.aload_n 3, 1) := by decide +kernel
theorem dL_law_1058 : decode cL_law 1058 = .ok (.invokestatic 195, 3) := by decide +kernel
theorem dL_law_1061 : decode cL_law 1061 = .ok (.istore 6, 2) := by decide +kernel
theorem dL_law_1063 : decode cL_law 1063 = .ok (.aload_n 2, 1) := by decide +kernel
theorem dL_law_1064 : decode cL_law 1064 = .ok (.aload_n 0, 1) := by decide +kernel
theorem dL_law_1065 : decode cL_law 1065 = .ok (.iload 5, 2) := by decide +kernel
theorem dL_law_1067 : decode cL_law 1067 = .ok (.iconst 1, 1) := by decide +kernel
theorem dL_law_1068 : decode cL_law 1068 = .ok (.iadd, 1) := by decide +kernel
theorem dL_law_1069 : decode cL_law 1069 = .ok (.iaload, 1) := by decide +kernel
theorem dL_law_1070 : decode cL_law 1070 = .ok (.invokevirtual 197, 3) := by decide +kernel
theorem dL_law_1073 : decode cL_law 1073 = .ok (.istore 7, 2) := by decide +kernel
theorem dL_law_1075 : decode cL_law 1075 = .ok (.aload_n 2, 1) := by decide +kernel
theorem dL_law_1076 : decode cL_law 1076 = .ok (.invokevirtual 151, 3) := by decide +kernel
theorem dL_law_1079 : decode cL_law 1079 = .ok (.iload 6, 2) := by decide +kernel
theorem dL_law_1081 : decode cL_law 1081 = .ok (.if_icmp .eq 5, 3) := by decide +kernel
theorem dL_law_1084 : decode cL_law 1084 = .ok (.iconst 0, 1) := by decide +kernel
theorem dL_law_1085 : decode cL_law 1085 = .ok (.ireturn, 1) := by decide +kernel
theorem dL_law_1086 : decode cL_law 1086 = .ok (.iload 6, 2) := by decide +kernel
theorem dL_law_1088 : decode cL_law 1088 = .ok (.ifCond .ne 15, 3) := by decide +kernel
theorem dL_law_1091 : decode cL_law 1091 = .ok (.aload_n 3, 1) := by decide +kernel
theorem dL_law_1092 : decode cL_law 1092 = .ok (.iconst 0, 1) := by decide +kernel
theorem dL_law_1093 : decode cL_law 1093 = .ok (.laload, 1) := by decide +kernel
theorem dL_law_1094 : decode cL_law 1094 = .ok (.iload 7, 2) := by decide +kernel
theorem dL_law_1096 : decode cL_law 1096 = .ok (.i2l, 1) := by decide +kernel
theorem dL_law_1097 : decode cL_law 1097 = .ok (.lcmp, 1) := by decide +kernel
theorem dL_law_1098 : decode cL_law 1098 = .ok (.ifCond .eq 5, 3) := by decide +kernel
theorem dL_law_1101 : decode cL_law 1101 = .ok (.iconst 0, 1) := by decide +kernel
theorem dL_law_1102 : decode cL_law 1102 = .ok (.ireturn, 1) := by decide +kernel
theorem dL_law_1103 : decode cL_law 1103 = .ok (.goto 1248, 3) := by decide +kernel
theorem dL_law_1106 : decode cL_law 1106 = .ok (.aload_n 1, 1) := by decide +kernel
theorem dL_law_1107 : decode cL_law 1107 = .ok (.aload_n 3, 1) := by decide +kernel
theorem dL_law_1108 : decode cL_law 1108 = .ok (.invokestatic 198, 3) := by decide +kernel
theorem dL_law_1111 : decode cL_law 1111 = .ok (.istore 6, 2) := by decide +kernel
theorem dL_law_1113 : decode cL_law 1113 = .ok (.aload_n 2, 1) := by decide +kernel
theorem dL_law_1114 : decode cL_law 1114 = .ok (.invokevirtual 200, 3) := by decide +kernel
theorem dL_law_1117 : decode cL_law 1117 = .ok (.istore 7, 2) := by decide +kernel
theorem dL_law_1119 : decode cL_law 1119 = .ok (.aload_n 2, 1) := by decide +kernel
theorem dL_law_1120 : decode cL_law 1120 = .ok (.invokevirtual 151, 3) := by decide +kernel
theorem dL_law_1123 : decode cL_law 1123 = .ok (.iload 6, 2) := by decide +kernel
theorem dL_law_1125 : decode cL_law 1125 = .ok (.if_icmp .eq 5, 3) := by decide +kernel
theorem dL_law_1128 : decode cL_law 1128 = .ok (.iconst 0, 1) := by decide +kernel
theorem dL_law_1129 : decode cL_law 1129 = .ok (.ireturn, 1) := by decide +kernel
theorem dL_law_1130 : decode cL_law 1130 = .ok (.iload 6, 2) := by decide +kernel
theorem dL_law_1132 : decode cL_law 1132 = .ok (.ifCond .ne 15, 3) := by decide +kernel
theorem dL_law_1135 : decode cL_law 1135 = .ok (.aload_n 3, 1) := by decide +kernel
theorem dL_law_1136 : decode cL_law 1136 = .ok (.iconst 0, 1) := by decide +kernel
theorem dL_law_1137 : decode cL_law 1137 = .ok (.laload, 1) := by decide +kernel
theorem dL_law_1138 : decode cL_law 1138 = .ok (.iload 7, 2) := by decide +kernel
theorem dL_law_1140 : decode cL_law 1140 = .ok (.i2l, 1) := by decide +kernel
theorem dL_law_1141 : decode cL_law 1141 = .ok (.lcmp, 1) := by decide +kernel
theorem dL_law_1142 : decode cL_law 1142 = .ok (.ifCond .eq 5, 3) := by decide +kernel
theorem dL_law_1145 : decode cL_law 1145 = .ok (.iconst 0, 1) := by decide +kernel
theorem dL_law_1146 : decode cL_law 1146 = .ok (.ireturn, 1) := by decide +kernel
theorem dL_law_1147 : decode cL_law 1147 = .ok (.goto 1204, 3) := by decide +kernel
theorem dL_law_1150 : decode cL_law 1150 = .ok (.aload_n 1, 1) := by decide +kernel
theorem dL_law_1151 : decode cL_law 1151 = .ok (.aload_n 3, 1) := by decide +kernel
theorem dL_law_1152 : decode cL_law 1152 = .ok (.invokestatic 201, 3) := by decide +kernel
theorem dL_law_1155 : decode cL_law 1155 = .ok (.istore 6, 2) := by decide +kernel
theorem dL_law_1157 : decode cL_law 1157 = .ok (.aload_n 2, 1) := by decide +kernel
theorem dL_law_1158 : decode cL_law 1158 = .ok (.invokevirtual 203, 3) := by decide +kernel
theorem dL_law_1161 : decode cL_law 1161 = .ok (.istore 7, 2) := by decide +kernel
theorem dL_law_1163 : decode cL_law 1163 = .ok (.aload_n 2, 1) := by decide +kernel
theorem dL_law_1164 : decode cL_law 1164 = .ok (.invokevirtual 151, 3) := by decide +kernel
theorem dL_law_1167 : decode cL_law 1167 = .ok (.iload 6, 2) := by decide +kernel
theorem dL_law_1169 : decode cL_law 1169 = .ok (.if_icmp .eq 5, 3) := by decide +kernel
theorem dL_law_1172 : decode cL_law 1172 = .ok (.iconst 0, 1) := by decide +kernel
theorem dL_law_1173 : decode cL_law 1173 = .ok (.ireturn, 1) := by decide +kernel
theorem dL_law_1174 : decode cL_law 1174 = .ok (.iload 6, 2) := by decide +kernel
theorem dL_law_1176 : decode cL_law 1176 = .ok (.ifCond .ne 22, 3) := by decide +kernel
theorem dL_law_1179 : decode cL_law 1179 = .ok (.aload_n 3, 1) := by decide +kernel
theorem dL_law_1180 : decode cL_law 1180 = .ok (.iconst 0, 1) := by decide +kernel
theorem dL_law_1181 : decode cL_law 1181 = .ok (.laload, 1) := by decide +kernel
theorem dL_law_1182 : decode cL_law 1182 = .ok (.iload 7, 2) := by decide +kernel
theorem dL_law_1184 : decode cL_law 1184 = .ok (.ifCond .eq 7, 3) := by decide +kernel
theorem dL_law_1187 : decode cL_law 1187 = .ok (.lconst 1, 1) := by decide +kernel
theorem dL_law_1188 : decode cL_law 1188 = .ok (.goto 4, 3) := by decide +kernel
theorem dL_law_1191 : decode cL_law 1191 = .ok (.lconst 0, 1) := by decide +kernel
theorem dL_law_1192 : decode cL_law 1192 = .ok (.lcmp, 1) := by decide +kernel
theorem dL_law_1193 : decode cL_law 1193 = .ok (.ifCond .eq 5, 3) := by decide +kernel
theorem dL_law_1196 : decode cL_law 1196 = .ok (.iconst 0, 1) := by decide +kernel
theorem dL_law_1197 : decode cL_law 1197 = .ok (.ireturn, 1) := by decide +kernel
theorem dL_law_1198 : decode cL_law 1198 = .ok (.goto 1153, 3) := by decide +kernel
theorem dL_law_1201 : decode cL_law 1201 = .ok (.aload_n 1, 1) := by decide +kernel
theorem dL_law_1202 : decode cL_law 1202 = .ok (.aload_n 3, 1) := by decide +kernel
theorem dL_law_1203 : decode cL_law 1203 = .ok (.invokestatic 204, 3) := by decide +kernel
theorem dL_law_1206 : decode cL_law 1206 = .ok (.istore 6, 2) := by decide +kernel
theorem dL_law_1208 : decode cL_law 1208 = .ok (.aload_n 2, 1) := by decide +kernel
theorem dL_law_1209 : decode cL_law 1209 = .ok (.invokevirtual 206, 3) := by decide +kernel
theorem dL_law_1212 : decode cL_law 1212 = .ok (.istore 7, 2) := by decide +kernel
theorem dL_law_1214 : decode cL_law 1214 = .ok (.aload_n 2, 1) := by decide +kernel
theorem dL_law_1215 : decode cL_law 1215 = .ok (.invokevirtual 151, 3) := by decide +kernel
theorem dL_law_1218 : decode cL_law 1218 = .ok (.iload 6, 2) := by decide +kernel
theorem dL_law_1220 : decode cL_law 1220 = .ok (.if_icmp .eq 5, 3) := by decide +kernel
theorem dL_law_1223 : decode cL_law 1223 = .ok (.iconst 0, 1) := by decide +kernel
theorem dL_law_1224 : decode cL_law 1224 = .ok (.ireturn, 1) := by decide +kernel
theorem dL_law_1225 : decode cL_law 1225 = .ok (.iload 6, 2) := by decide +kernel
theorem dL_law_1227 : decode cL_law 1227 = .ok (.ifCond .ne 15, 3) := by decide +kernel
theorem dL_law_1230 : decode cL_law 1230 = .ok (.aload_n 3, 1) := by decide +kernel
theorem dL_law_1231 : decode cL_law 1231 = .ok (.iconst 0, 1) := by decide +kernel
theorem dL_law_1232 : decode cL_law 1232 = .ok (.laload, 1) := by decide +kernel
theorem dL_law_1233 : decode cL_law 1233 = .ok (.iload 7, 2) := by decide +kernel
theorem dL_law_1235 : decode cL_law 1235 = .ok (.i2l, 1) := by decide +kernel
theorem dL_law_1236 : decode cL_law 1236 = .ok (.lcmp, 1) := by decide +kernel
theorem dL_law_1237 : decode cL_law 1237 = .ok (.ifCond .eq 5, 3) := by decide +kernel
theorem dL_law_1240 : decode cL_law 1240 = .ok (.iconst 0, 1) := by decide +kernel
theorem dL_law_1241 : decode cL_law 1241 = .ok (.ireturn, 1) := by decide +kernel
theorem dL_law_1242 : decode cL_law 1242 = .ok (.goto 1109, 3) := by decide +kernel
theorem dL_law_1245 : decode cL_law 1245 = .ok (.aload_n 1, 1) := by decide +kernel
theorem dL_law_1246 : decode cL_law 1246 = .ok (.aload_n 3, 1) := by decide +kernel
theorem dL_law_1247 : decode cL_law 1247 = .ok (.invokestatic 207, 3) := by decide +kernel
theorem dL_law_1250 : decode cL_law 1250 = .ok (.istore 6, 2) := by decide +kernel
theorem dL_law_1252 : decode cL_law 1252 = .ok (.aload_n 2, 1) := by decide +kernel
theorem dL_law_1253 : decode cL_law 1253 = .ok (.invokevirtual 209, 3) := by decide +kernel
theorem dL_law_1256 : decode cL_law 1256 = .ok (.istore 7, 2) := by decide +kernel
theorem dL_law_1258 : decode cL_law 1258 = .ok (.aload_n 2, 1) := by decide +kernel
theorem dL_law_1259 : decode cL_law 1259 = .ok (.invokevirtual 151, 3) := by decide +kernel
theorem dL_law_1262 : decode cL_law 1262 = .ok (.iload 6, 2) := by decide +kernel
theorem dL_law_1264 : decode cL_law 1264 = .ok (.if_icmp .eq 5, 3) := by decide +kernel
theorem dL_law_1267 : decode cL_law 1267 = .ok (.iconst 0, 1) := by decide +kernel
theorem dL_law_1268 : decode cL_law 1268 = .ok (.ireturn, 1) := by decide +kernel
theorem dL_law_1269 : decode cL_law 1269 = .ok (.iload 6, 2) := by decide +kernel
theorem dL_law_1271 : decode cL_law 1271 = .ok (.ifCond .ne 15, 3) := by decide +kernel
theorem dL_law_1274 : decode cL_law 1274 = .ok (.aload_n 3, 1) := by decide +kernel
theorem dL_law_1275 : decode cL_law 1275 = .ok (.iconst 0, 1) := by decide +kernel
theorem dL_law_1276 : decode cL_law 1276 = .ok (.laload, 1) := by decide +kernel
theorem dL_law_1277 : decode cL_law 1277 = .ok (.iload 7, 2) := by decide +kernel
theorem dL_law_1279 : decode cL_law 1279 = .ok (.i2l, 1) := by decide +kernel
theorem dL_law_1280 : decode cL_law 1280 = .ok (.lcmp, 1) := by decide +kernel
theorem dL_law_1281 : decode cL_law 1281 = .ok (.ifCond .eq 5, 3) := by decide +kernel
theorem dL_law_1284 : decode cL_law 1284 = .ok (.iconst 0, 1) := by decide +kernel
theorem dL_law_1285 : decode cL_law 1285 = .ok (.ireturn, 1) := by decide +kernel
theorem dL_law_1286 : decode cL_law 1286 = .ok (.goto 1065, 3) := by decide +kernel
theorem dL_law_1289 : decode cL_law 1289 = .ok (.aload_n 1, 1) := by decide +kernel
theorem dL_law_1290 : decode cL_law 1290 = .ok (.aload_n 3, 1) := by decide +kernel
theorem dL_law_1291 : decode cL_law 1291 = .ok (.invokestatic 210, 3) := by decide +kernel
theorem dL_law_1294 : decode cL_law 1294 = .ok (.istore 6, 2) := by decide +kernel
theorem dL_law_1296 : decode cL_law 1296 = .ok (.aload_n 2, 1) := by decide +kernel
theorem dL_law_1297 : decode cL_law 1297 = .ok (.invokevirtual 212, 3) := by decide +kernel
theorem dL_law_1300 : decode cL_law 1300 = .ok (.istore 7, 2) := by decide +kernel
theorem dL_law_1302 : decode cL_law 1302 = .ok (.aload_n 2, 1) := by decide +kernel
theorem dL_law_1303 : decode cL_law 1303 = .ok (.invokevirtual 151, 3) := by decide +kernel
theorem dL_law_1306 : decode cL_law 1306 = .ok (.iload 6, 2) := by decide +kernel
theorem dL_law_1308 : decode cL_law 1308 = .ok (.if_icmp .eq 5, 3) := by decide +kernel
theorem dL_law_1311 : decode cL_law 1311 = .ok (.iconst 0, 1) := by decide +kernel
theorem dL_law_1312 : decode cL_law 1312 = .ok (.ireturn, 1) := by decide +kernel
theorem dL_law_1313 : decode cL_law 1313 = .ok (.iload 6, 2) := by decide +kernel
theorem dL_law_1315 : decode cL_law 1315 = .ok (.ifCond .ne 15, 3) := by decide +kernel
theorem dL_law_1318 : decode cL_law 1318 = .ok (.aload_n 3, 1) := by decide +kernel
theorem dL_law_1319 : decode cL_law 1319 = .ok (.iconst 0, 1) := by decide +kernel
theorem dL_law_1320 : decode cL_law 1320 = .ok (.laload, 1) := by decide +kernel
theorem dL_law_1321 : decode cL_law 1321 = .ok (.iload 7, 2) := by decide +kernel
theorem dL_law_1323 : decode cL_law 1323 = .ok (.i2l, 1) := by decide +kernel
theorem dL_law_1324 : decode cL_law 1324 = .ok (.lcmp, 1) := by decide +kernel
theorem dL_law_1325 : decode cL_law 1325 = .ok (.ifCond .eq 5, 3) := by decide +kernel
theorem dL_law_1328 : decode cL_law 1328 = .ok (.iconst 0, 1) := by decide +kernel
theorem dL_law_1329 : decode cL_law 1329 = .ok (.ireturn, 1) := by decide +kernel
theorem dL_law_1330 : decode cL_law 1330 = .ok (.goto 1021, 3) := by decide +kernel
theorem dL_law_1333 : decode cL_law 1333 = .ok (.aload_n 1, 1) := by decide +kernel
theorem dL_law_1334 : decode cL_law 1334 = .ok (.aload_n 3, 1) := by decide +kernel
theorem dL_law_1335 : decode cL_law 1335 = .ok (.invokestatic 213, 3) := by decide +kernel
theorem dL_law_1338 : decode cL_law 1338 = .ok (.istore 6, 2) := by decide +kernel
theorem dL_law_1340 : decode cL_law 1340 = .ok (.aload_n 2, 1) := by decide +kernel
theorem dL_law_1341 : decode cL_law 1341 = .ok (.invokevirtual 215, 3) := by decide +kernel
theorem dL_law_1344 : decode cL_law 1344 = .ok (.istore 7, 2) := by decide +kernel
theorem dL_law_1346 : decode cL_law 1346 = .ok (.aload_n 2, 1) := by decide +kernel
theorem dL_law_1347 : decode cL_law 1347 = .ok (.invokevirtual 151, 3) := by decide +kernel
theorem dL_law_1350 : decode cL_law 1350 = .ok (.iload 6, 2) := by decide +kernel
theorem dL_law_1352 : decode cL_law 1352 = .ok (.if_icmp .eq 5, 3) := by decide +kernel
theorem dL_law_1355 : decode cL_law 1355 = .ok (.iconst 0, 1) := by decide +kernel
theorem dL_law_1356 : decode cL_law 1356 = .ok (.ireturn, 1) := by decide +kernel
theorem dL_law_1357 : decode cL_law 1357 = .ok (.iload 6, 2) := by decide +kernel
theorem dL_law_1359 : decode cL_law 1359 = .ok (.ifCond .ne 15, 3) := by decide +kernel
theorem dL_law_1362 : decode cL_law 1362 = .ok (.aload_n 3, 1) := by decide +kernel
theorem dL_law_1363 : decode cL_law 1363 = .ok (.iconst 0, 1) := by decide +kernel
theorem dL_law_1364 : decode cL_law 1364 = .ok (.laload, 1) := by decide +kernel
theorem dL_law_1365 : decode cL_law 1365 = .ok (.iload 7, 2) := by decide +kernel
theorem dL_law_1367 : decode cL_law 1367 = .ok (.i2l, 1) := by decide +kernel
theorem dL_law_1368 : decode cL_law 1368 = .ok (.lcmp, 1) := by decide +kernel
theorem dL_law_1369 : decode cL_law 1369 = .ok (.ifCond .eq 5, 3) := by decide +kernel
theorem dL_law_1372 : decode cL_law 1372 = .ok (.iconst 0, 1) := by decide +kernel
theorem dL_law_1373 : decode cL_law 1373 = .ok (.ireturn, 1) := by decide +kernel
theorem dL_law_1374 : decode cL_law 1374 = .ok (.goto 977, 3) := by decide +kernel
theorem dL_law_1377 : decode cL_law 1377 = .ok (.aload_n 1, 1) := by decide +kernel
theorem dL_law_1378 : decode cL_law 1378 = .ok (.aload_n 0, 1) := by decide +kernel
theorem dL_law_1379 : decode cL_law 1379 = .ok (.iload 5, 2) := by decide +kernel
theorem dL_law_1381 : decode cL_law 1381 = .ok (.iconst 1, 1) := by decide +kernel
theorem dL_law_1382 : decode cL_law 1382 = .ok (.iadd, 1) := by decide +kernel
theorem dL_law_1383 : decode cL_law 1383 = .ok (.iaload, 1) := by decide +kernel
theorem dL_law_1384 : decode cL_law 1384 = .ok (.aload_n 0, 1) := by decide +kernel
theorem dL_law_1385 : decode cL_law 1385 = .ok (.iload 5, 2) := by decide +kernel
theorem dL_law_1387 : decode cL_law 1387 = .ok (.iconst 2, 1) := by decide +kernel
theorem dL_law_1388 : decode cL_law 1388 = .ok (.iadd, 1) := by decide +kernel
theorem dL_law_1389 : decode cL_law 1389 = .ok (.iaload, 1) := by decide +kernel
theorem dL_law_1390 : decode cL_law 1390 = .ok (.aload_n 3, 1) := by decide +kernel
theorem dL_law_1391 : decode cL_law 1391 = .ok (.invokestatic 216, 3) := by decide +kernel
theorem dL_law_1394 : decode cL_law 1394 = .ok (.istore 6, 2) := by decide +kernel
theorem dL_law_1396 : decode cL_law 1396 = .ok (.aload_n 2, 1) := by decide +kernel
theorem dL_law_1397 : decode cL_law 1397 = .ok (.aload_n 0, 1) := by decide +kernel
theorem dL_law_1398 : decode cL_law 1398 = .ok (.iload 5, 2) := by decide +kernel
theorem dL_law_1400 : decode cL_law 1400 = .ok (.iconst 1, 1) := by decide +kernel
theorem dL_law_1401 : decode cL_law 1401 = .ok (.iadd, 1) := by decide +kernel
theorem dL_law_1402 : decode cL_law 1402 = .ok (.iaload, 1) := by decide +kernel
theorem dL_law_1403 : decode cL_law 1403 = .ok (.aload_n 0, 1) := by decide +kernel
theorem dL_law_1404 : decode cL_law 1404 = .ok (.iload 5, 2) := by decide +kernel
theorem dL_law_1406 : decode cL_law 1406 = .ok (.iconst 2, 1) := by decide +kernel
theorem dL_law_1407 : decode cL_law 1407 = .ok (.iadd, 1) := by decide +kernel
theorem dL_law_1408 : decode cL_law 1408 = .ok (.iaload, 1) := by decide +kernel
theorem dL_law_1409 : decode cL_law 1409 = .ok (.invokevirtual 218, 3) := by decide +kernel
theorem dL_law_1412 : decode cL_law 1412 = .ok (.lstore 7, 2) := by decide +kernel
theorem dL_law_1414 : decode cL_law 1414 = .ok (.aload_n 2, 1) := by decide +kernel
theorem dL_law_1415 : decode cL_law 1415 = .ok (.invokevirtual 151, 3) := by decide +kernel
theorem dL_law_1418 : decode cL_law 1418 = .ok (.iload 6, 2) := by decide +kernel
theorem dL_law_1420 : decode cL_law 1420 = .ok (.if_icmp .eq 5, 3) := by decide +kernel
theorem dL_law_1423 : decode cL_law 1423 = .ok (.iconst 0, 1) := by decide +kernel
theorem dL_law_1424 : decode cL_law 1424 = .ok (.ireturn, 1) := by decide +kernel
theorem dL_law_1425 : decode cL_law 1425 = .ok (.iload 6, 2) := by decide +kernel
theorem dL_law_1427 : decode cL_law 1427 = .ok (.ifCond .ne 14, 3) := by decide +kernel
theorem dL_law_1430 : decode cL_law 1430 = .ok (.aload_n 3, 1) := by decide +kernel
theorem dL_law_1431 : decode cL_law 1431 = .ok (.iconst 0, 1) := by decide +kernel
theorem dL_law_1432 : decode cL_law 1432 = .ok (.laload, 1) := by decide +kernel
theorem dL_law_1433 : decode cL_law 1433 = .ok (.lload 7, 2) := by decide +kernel
theorem dL_law_1435 : decode cL_law 1435 = .ok (.lcmp, 1) := by decide +kernel
theorem dL_law_1436 : decode cL_law 1436 = .ok (.ifCond .eq 5, 3) := by decide +kernel
theorem dL_law_1439 : decode cL_law 1439 = .ok (.iconst 0, 1) := by decide +kernel
theorem dL_law_1440 : decode cL_law 1440 = .ok (.ireturn, 1) := by decide +kernel
theorem dL_law_1441 : decode cL_law 1441 = .ok (.goto 910, 3) := by decide +kernel
theorem dL_law_1444 : decode cL_law 1444 = .ok (.aload_n 1, 1) := by decide +kernel
theorem dL_law_1445 : decode cL_law 1445 = .ok (.aload_n 3, 1) := by decide +kernel
theorem dL_law_1446 : decode cL_law 1446 = .ok (.invokestatic 219, 3) := by decide +kernel
theorem dL_law_1449 : decode cL_law 1449 = .ok (.istore 6, 2) := by decide +kernel
theorem dL_law_1451 : decode cL_law 1451 = .ok (.aload_n 2, 1) := by decide +kernel
theorem dL_law_1452 : decode cL_law 1452 = .ok (.invokevirtual 221, 3) := by decide +kernel
theorem dL_law_1455 : decode cL_law 1455 = .ok (.lstore 7, 2) := by decide +kernel
theorem dL_law_1457 : decode cL_law 1457 = .ok (.aload_n 2, 1) := by decide +kernel
theorem dL_law_1458 : decode cL_law 1458 = .ok (.invokevirtual 151, 3) := by decide +kernel
theorem dL_law_1461 : decode cL_law 1461 = .ok (.iload 6, 2) := by decide +kernel
theorem dL_law_1463 : decode cL_law 1463 = .ok (.if_icmp .eq 5, 3) := by decide +kernel
theorem dL_law_1466 : decode cL_law 1466 = .ok (.iconst 0, 1) := by decide +kernel
theorem dL_law_1467 : decode cL_law 1467 = .ok (.ireturn, 1) := by decide +kernel
theorem dL_law_1468 : decode cL_law 1468 = .ok (.iload 6, 2) := by decide +kernel
theorem dL_law_1470 : decode cL_law 1470 = .ok (.ifCond .ne 14, 3) := by decide +kernel
theorem dL_law_1473 : decode cL_law 1473 = .ok (.aload_n 3, 1) := by decide +kernel
theorem dL_law_1474 : decode cL_law 1474 = .ok (.iconst 0, 1) := by decide +kernel
theorem dL_law_1475 : decode cL_law 1475 = .ok (.laload, 1) := by decide +kernel
theorem dL_law_1476 : decode cL_law 1476 = .ok (.lload 7, 2) := by decide +kernel
theorem dL_law_1478 : decode cL_law 1478 = .ok (.lcmp, 1) := by decide +kernel
theorem dL_law_1479 : decode cL_law 1479 = .ok (.ifCond .eq 5, 3) := by decide +kernel
theorem dL_law_1482 : decode cL_law 1482 = .ok (.iconst 0, 1) := by decide +kernel
theorem dL_law_1483 : decode cL_law 1483 = .ok (.ireturn, 1) := by decide +kernel
theorem dL_law_1484 : decode cL_law 1484 = .ok (.goto 867, 3) := by decide +kernel
theorem dL_law_1487 : decode cL_law 1487 = .ok (.aload_n 1, 1) := by decide +kernel
theorem dL_law_1488 : decode cL_law 1488 = .ok (.aload_n 0, 1) := by decide +kernel
theorem dL_law_1489 : decode cL_law 1489 = .ok (.iload 5, 2) := by decide +kernel
theorem dL_law_1491 : decode cL_law 1491 = .ok (.iconst 1, 1) := by decide +kernel
theorem dL_law_1492 : decode cL_law 1492 = .ok (.iadd, 1) := by decide +kernel
theorem dL_law_1493 : decode cL_law 1493 = .ok (.iaload, 1) := by decide +kernel
theorem dL_law_1494 : decode cL_law 1494 = .ok (.aload_n 0, 1) := by decide +kernel
theorem dL_law_1495 : decode cL_law 1495 = .ok (.iload 5, 2) := by decide +kernel
theorem dL_law_1497 : decode cL_law 1497 = .ok (.iconst 2, 1) := by decide +kernel
theorem dL_law_1498 : decode cL_law 1498 = .ok (.iadd, 1) := by decide +kernel
theorem dL_law_1499 : decode cL_law 1499 = .ok (.iaload, 1) := by decide +kernel
theorem dL_law_1500 : decode cL_law 1500 = .ok (.aload_n 0, 1) := by decide +kernel
theorem dL_law_1501 : decode cL_law 1501 = .ok (.iload 5, 2) := by decide +kernel
theorem dL_law_1503 : decode cL_law 1503 = .ok (.iconst 3, 1) := by decide +kernel
theorem dL_law_1504 : decode cL_law 1504 = .ok (.iadd, 1) := by decide +kernel
theorem dL_law_1505 : decode cL_law 1505 = .ok (.iaload, 1) := by decide +kernel
theorem dL_law_1506 : decode cL_law 1506 = .ok (.i2l, 1) := by decide +kernel
theorem dL_law_1507 : decode cL_law 1507 = .ok (.bipush 32, 2) := by decide +kernel
theorem dL_law_1509 : decode cL_law 1509 = .ok (.lshl, 1) := by decide +kernel
theorem dL_law_1510 : decode cL_law 1510 = .ok (.aload_n 0, 1) := by decide +kernel
theorem dL_law_1511 : decode cL_law 1511 = .ok (.iload 5, 2) := by decide +kernel
theorem dL_law_1513 : decode cL_law 1513 = .ok (.iconst 4, 1) := by decide +kernel
theorem dL_law_1514 : decode cL_law 1514 = .ok (.iadd, 1) := by decide +kernel
theorem dL_law_1515 : decode cL_law 1515 = .ok (.iaload, 1) := by decide +kernel
theorem dL_law_1516 : decode cL_law 1516 = .ok (.i2l, 1) := by decide +kernel
theorem dL_law_1517 : decode cL_law 1517 = .ok (.ldc2_w 222, 3) := by decide +kernel
theorem dL_law_1520 : decode cL_law 1520 = .ok (.land, 1) := by decide +kernel
theorem dL_law_1521 : decode cL_law 1521 = .ok (.lor, 1) := by decide +kernel
theorem dL_law_1522 : decode cL_law 1522 = .ok (.aload_n 0, 1) := by decide +kernel
theorem dL_law_1523 : decode cL_law 1523 = .ok (.iload 5, 2) := by decide +kernel
theorem dL_law_1525 : decode cL_law 1525 = .ok (.iconst 5, 1) := by decide +kernel
theorem dL_law_1526 : decode cL_law 1526 = .ok (.iadd, 1) := by decide +kernel
theorem dL_law_1527 : decode cL_law 1527 = .ok (.iaload, 1) := by decide +kernel
theorem dL_law_1528 : decode cL_law 1528 = .ok (.aload_n 3, 1) := by decide +kernel
theorem dL_law_1529 : decode cL_law 1529 = .ok (.invokestatic 224, 3) := by decide +kernel
theorem dL_law_1532 : decode cL_law 1532 = .ok (.istore 6, 2) := by decide +kernel
theorem dL_law_1534 : decode cL_law 1534 = .ok (.aload_n 2, 1) := by decide +kernel
theorem dL_law_1535 : decode cL_law 1535 = .ok (.aload_n 0, 1) := by decide +kernel
theorem dL_law_1536 : decode cL_law 1536 = .ok (.iload 5, 2) := by decide +kernel
theorem dL_law_1538 : decode cL_law 1538 = .ok (.iconst 1, 1) := by decide +kernel
theorem dL_law_1539 : decode cL_law 1539 = .ok (.iadd, 1) := by decide +kernel
theorem dL_law_1540 : decode cL_law 1540 = .ok (.iaload, 1) := by decide +kernel
theorem dL_law_1541 : decode cL_law 1541 = .ok (.aload_n 0, 1) := by decide +kernel
theorem dL_law_1542 : decode cL_law 1542 = .ok (.iload 5, 2) := by decide +kernel
theorem dL_law_1544 : decode cL_law 1544 = .ok (.iconst 2, 1) := by decide +kernel
theorem dL_law_1545 : decode cL_law 1545 = .ok (.iadd, 1) := by decide +kernel
theorem dL_law_1546 : decode cL_law 1546 = .ok (.iaload, 1) := by decide +kernel
theorem dL_law_1547 : decode cL_law 1547 = .ok (.aload_n 0, 1) := by decide +kernel
theorem dL_law_1548 : decode cL_law 1548 = .ok (.iload 5, 2) := by decide +kernel
theorem dL_law_1550 : decode cL_law 1550 = .ok (.iconst 3, 1) := by decide +kernel
theorem dL_law_1551 : decode cL_law 1551 = .ok (.iadd, 1) := by decide +kernel
theorem dL_law_1552 : decode cL_law 1552 = .ok (.iaload, 1) := by decide +kernel
theorem dL_law_1553 : decode cL_law 1553 = .ok (.i2l, 1) := by decide +kernel
theorem dL_law_1554 : decode cL_law 1554 = .ok (.bipush 32, 2) := by decide +kernel
theorem dL_law_1556 : decode cL_law 1556 = .ok (.lshl, 1) := by decide +kernel
theorem dL_law_1557 : decode cL_law 1557 = .ok (.aload_n 0, 1) := by decide +kernel
theorem dL_law_1558 : decode cL_law 1558 = .ok (.iload 5, 2) := by decide +kernel
theorem dL_law_1560 : decode cL_law 1560 = .ok (.iconst 4, 1) := by decide +kernel
theorem dL_law_1561 : decode cL_law 1561 = .ok (.iadd, 1) := by decide +kernel
theorem dL_law_1562 : decode cL_law 1562 = .ok (.iaload, 1) := by decide +kernel
theorem dL_law_1563 : decode cL_law 1563 = .ok (.i2l, 1) := by decide +kernel
theorem dL_law_1564 : decode cL_law 1564 = .ok (.ldc2_w 222, 3) := by decide +kernel
theorem dL_law_1567 : decode cL_law 1567 = .ok (.land, 1) := by decide +kernel
theorem dL_law_1568 : decode cL_law 1568 = .ok (.lor, 1) := by decide +kernel
theorem dL_law_1569 : decode cL_law 1569 = .ok (.aload_n 0, 1) := by decide +kernel
theorem dL_law_1570 : decode cL_law 1570 = .ok (.iload 5, 2) := by decide +kernel
theorem dL_law_1572 : decode cL_law 1572 = .ok (.iconst 5, 1) := by decide +kernel
theorem dL_law_1573 : decode cL_law 1573 = .ok (.iadd, 1) := by decide +kernel
theorem dL_law_1574 : decode cL_law 1574 = .ok (.iaload, 1) := by decide +kernel
theorem dL_law_1575 : decode cL_law 1575 = .ok (.invokevirtual 227, 3) := by decide +kernel
theorem dL_law_1578 : decode cL_law 1578 = .ok (.istore 7, 2) := by decide +kernel
theorem dL_law_1580 : decode cL_law 1580 = .ok (.aload_n 2, 1) := by decide +kernel
theorem dL_law_1581 : decode cL_law 1581 = .ok (.invokevirtual 151, 3) := by decide +kernel
theorem dL_law_1584 : decode cL_law 1584 = .ok (.iload 6, 2) := by decide +kernel
theorem dL_law_1586 : decode cL_law 1586 = .ok (.if_icmp .eq 5, 3) := by decide +kernel
theorem dL_law_1589 : decode cL_law 1589 = .ok (.iconst 0, 1) := by decide +kernel
theorem dL_law_1590 : decode cL_law 1590 = .ok (.ireturn, 1) := by decide +kernel
theorem dL_law_1591 : decode cL_law 1591 = .ok (.iload 6, 2) := by decide +kernel
theorem dL_law_1593 : decode cL_law 1593 = .ok (.ifCond .ne 15, 3) := by decide +kernel
theorem dL_law_1596 : decode cL_law 1596 = .ok (.aload_n 3, 1) := by decide +kernel
theorem dL_law_1597 : decode cL_law 1597 = .ok (.iconst 0, 1) := by decide +kernel
theorem dL_law_1598 : decode cL_law 1598 = .ok (.laload, 1) := by decide +kernel
theorem dL_law_1599 : decode cL_law 1599 = .ok (.iload 7, 2) := by decide +kernel
theorem dL_law_1601 : decode cL_law 1601 = .ok (.i2l, 1) := by decide +kernel
theorem dL_law_1602 : decode cL_law 1602 = .ok (.lcmp, 1) := by decide +kernel
theorem dL_law_1603 : decode cL_law 1603 = .ok (.ifCond .eq 5, 3) := by decide +kernel
theorem dL_law_1606 : decode cL_law 1606 = .ok (.iconst 0, 1) := by decide +kernel
theorem dL_law_1607 : decode cL_law 1607 = .ok (.ireturn, 1) := by decide +kernel
theorem dL_law_1608 : decode cL_law 1608 = .ok (.goto 743, 3) := by decide +kernel
theorem dL_law_1611 : decode cL_law 1611 = .ok (.aload_n 1, 1) := by decide +kernel
theorem dL_law_1612 : decode cL_law 1612 = .ok (.aload_n 0, 1) := by decide +kernel
theorem dL_law_1613 : decode cL_law 1613 = .ok (.iload 5, 2) := by decide +kernel
theorem dL_law_1615 : decode cL_law 1615 = .ok (.iconst 1, 1) := by decide +kernel
theorem dL_law_1616 : decode cL_law 1616 = .ok (.iadd, 1) := by decide +kernel
theorem dL_law_1617 : decode cL_law 1617 = .ok (.iaload, 1) := by decide +kernel
theorem dL_law_1618 : decode cL_law 1618 = .ok (.aload_n 3, 1) := by decide +kernel
theorem dL_law_1619 : decode cL_law 1619 = .ok (.invokestatic 228, 3) := by decide +kernel
theorem dL_law_1622 : decode cL_law 1622 = .ok (.istore 6, 2) := by decide +kernel
theorem dL_law_1624 : decode cL_law 1624 = .ok (.aload_n 2, 1) := by decide +kernel
theorem dL_law_1625 : decode cL_law 1625 = .ok (.aload_n 0, 1) := by decide +kernel
theorem dL_law_1626 : decode cL_law 1626 = .ok (.iload 5, 2) := by decide +kernel
theorem dL_law_1628 : decode cL_law 1628 = .ok (.iconst 1, 1) := by decide +kernel
theorem dL_law_1629 : decode cL_law 1629 = .ok (.iadd, 1) := by decide +kernel
theorem dL_law_1630 : decode cL_law 1630 = .ok (.iaload, 1) := by decide +kernel
theorem dL_law_1631 : decode cL_law 1631 = .ok (.invokevirtual 230, 3) := by decide +kernel
theorem dL_law_1634 : decode cL_law 1634 = .ok (.istore 7, 2) := by decide +kernel
theorem dL_law_1636 : decode cL_law 1636 = .ok (.aload_n 2, 1) := by decide +kernel
theorem dL_law_1637 : decode cL_law 1637 = .ok (.invokevirtual 151, 3) := by decide +kernel
theorem dL_law_1640 : decode cL_law 1640 = .ok (.iload 6, 2) := by decide +kernel
theorem dL_law_1642 : decode cL_law 1642 = .ok (.if_icmp .eq 5, 3) := by decide +kernel
theorem dL_law_1645 : decode cL_law 1645 = .ok (.iconst 0, 1) := by decide +kernel
theorem dL_law_1646 : decode cL_law 1646 = .ok (.ireturn, 1) := by decide +kernel
theorem dL_law_1647 : decode cL_law 1647 = .ok (.iload 6, 2) := by decide +kernel
theorem dL_law_1649 : decode cL_law 1649 = .ok (.ifCond .ne 15, 3) := by decide +kernel
theorem dL_law_1652 : decode cL_law 1652 = .ok (.aload_n 3, 1) := by decide +kernel
theorem dL_law_1653 : decode cL_law 1653 = .ok (.iconst 0, 1) := by decide +kernel
theorem dL_law_1654 : decode cL_law 1654 = .ok (.laload, 1) := by decide +kernel
theorem dL_law_1655 : decode cL_law 1655 = .ok (.iload 7, 2) := by decide +kernel
theorem dL_law_1657 : decode cL_law 1657 = .ok (.i2l, 1) := by decide +kernel
theorem dL_law_1658 : decode cL_law 1658 = .ok (.lcmp, 1) := by decide +kernel
theorem dL_law_1659 : decode cL_law 1659 = .ok (.ifCond .eq 5, 3) := by decide +kernel
theorem dL_law_1662 : decode cL_law 1662 = .ok (.iconst 0, 1) := by decide +kernel
theorem dL_law_1663 : decode cL_law 1663 = .ok (.ireturn, 1) := by decide +kernel
theorem dL_law_1664 : decode cL_law 1664 = .ok (.goto 687, 3) := by decide +kernel
theorem dL_law_1667 : decode cL_law 1667 = .ok (.aload_n 1, 1) := by decide +kernel
theorem dL_law_1668 : decode cL_law 1668 = .ok (.aload_n 0, 1) := by decide +kernel
theorem dL_law_1669 : decode cL_law 1669 = .ok (.iload 5, 2) := by decide +kernel
theorem dL_law_1671 : decode cL_law 1671 = .ok (.iconst 1, 1) := by decide +kernel
theorem dL_law_1672 : decode cL_law 1672 = .ok (.iadd, 1) := by decide +kernel
theorem dL_law_1673 : decode cL_law 1673 = .ok (.iaload, 1) := by decide +kernel
theorem dL_law_1674 : decode cL_law 1674 = .ok (.aload_n 3, 1) := by decide +kernel
theorem dL_law_1675 : decode cL_law 1675 = .ok (.invokestatic 231, 3) := by decide +kernel
theorem dL_law_1678 : decode cL_law 1678 = .ok (.istore 6, 2) := by decide +kernel
theorem dL_law_1680 : decode cL_law 1680 = .ok (.aload_n 2, 1) := by decide +kernel
theorem dL_law_1681 : decode cL_law 1681 = .ok (.aload_n 0, 1) := by decide +kernel
theorem dL_law_1682 : decode cL_law 1682 = .ok (.iload 5, 2) := by decide +kernel
theorem dL_law_1684 : decode cL_law 1684 = .ok (.iconst 1, 1) := by decide +kernel
theorem dL_law_1685 : decode cL_law 1685 = .ok (.iadd, 1) := by decide +kernel
theorem dL_law_1686 : decode cL_law 1686 = .ok (.iaload, 1) := by decide +kernel
theorem dL_law_1687 : decode cL_law 1687 = .ok (.invokevirtual 233, 3) := by decide +kernel
theorem dL_law_1690 : decode cL_law 1690 = .ok (.istore 7, 2) := by decide +kernel
theorem dL_law_1692 : decode cL_law 1692 = .ok (.aload_n 2, 1) := by decide +kernel
theorem dL_law_1693 : decode cL_law 1693 = .ok (.invokevirtual 151, 3) := by decide +kernel
theorem dL_law_1696 : decode cL_law 1696 = .ok (.iload 6, 2) := by decide +kernel
theorem dL_law_1698 : decode cL_law 1698 = .ok (.if_icmp .eq 5, 3) := by decide +kernel
theorem dL_law_1701 : decode cL_law 1701 = .ok (.iconst 0, 1) := by decide +kernel
theorem dL_law_1702 : decode cL_law 1702 = .ok (.ireturn, 1) := by decide +kernel
theorem dL_law_1703 : decode cL_law 1703 = .ok (.iload 6, 2) := by decide +kernel
theorem dL_law_1705 : decode cL_law 1705 = .ok (.ifCond .ne 15, 3) := by decide +kernel
theorem dL_law_1708 : decode cL_law 1708 = .ok (.aload_n 3, 1) := by decide +kernel
theorem dL_law_1709 : decode cL_law 1709 = .ok (.iconst 0, 1) := by decide +kernel
theorem dL_law_1710 : decode cL_law 1710 = .ok (.laload, 1) := by decide +kernel
theorem dL_law_1711 : decode cL_law 1711 = .ok (.iload 7, 2) := by decide +kernel
theorem dL_law_1713 : decode cL_law 1713 = .ok (.i2l, 1) := by decide +kernel
theorem dL_law_1714 : decode cL_law 1714 = .ok (.lcmp, 1) := by decide +kernel
theorem dL_law_1715 : decode cL_law 1715 = .ok (.ifCond .eq 5, 3) := by decide +kernel
theorem dL_law_1718 : decode cL_law 1718 = .ok (.iconst 0, 1) := by decide +kernel
theorem dL_law_1719 : decode cL_law 1719 = .ok (.ireturn, 1) := by decide +kernel
theorem dL_law_1720 : decode cL_law 1720 = .ok (.goto 631, 3) := by decide +kernel
theorem dL_law_1723 : decode cL_law 1723 = .ok (.aload_n 1, 1) := by decide +kernel
theorem dL_law_1724 : decode cL_law 1724 = .ok (.aload_n 0, 1) := by decide +kernel
theorem dL_law_1725 : decode cL_law 1725 = .ok (.iload 5, 2) := by decide +kernel
theorem dL_law_1727 : decode cL_law 1727 = .ok (.iconst 1, 1) := by decide +kernel
theorem dL_law_1728 : decode cL_law 1728 = .ok (.iadd, 1) := by decide +kernel
theorem dL_law_1729 : decode cL_law 1729 = .ok (.iaload, 1) := by decide +kernel
theorem dL_law_1730 : decode cL_law 1730 = .ok (.aload_n 0, 1) := by decide +kernel
theorem dL_law_1731 : decode cL_law 1731 = .ok (.iload 5, 2) := by decide +kernel
theorem dL_law_1733 : decode cL_law 1733 = .ok (.iconst 2, 1) := by decide +kernel
theorem dL_law_1734 : decode cL_law 1734 = .ok (.iadd, 1) := by decide +kernel
theorem dL_law_1735 : decode cL_law 1735 = .ok (.iaload, 1) := by decide +kernel
theorem dL_law_1736 : decode cL_law 1736 = .ok (.aload_n 3, 1) := by decide +kernel
theorem dL_law_1737 : decode cL_law 1737 = .ok (.invokestatic 234, 3) := by decide +kernel
theorem dL_law_1740 : decode cL_law 1740 = .ok (.istore 6, 2) := by decide +kernel
theorem dL_law_1742 : decode cL_law 1742 = .ok (.aload_n 2, 1) := by decide +kernel
theorem dL_law_1743 : decode cL_law 1743 = .ok (.aload_n 0, 1) := by decide +kernel
theorem dL_law_1744 : decode cL_law 1744 = .ok (.iload 5, 2) := by decide +kernel
theorem dL_law_1746 : decode cL_law 1746 = .ok (.iconst 1, 1) := by decide +kernel
theorem dL_law_1747 : decode cL_law 1747 = .ok (.iadd, 1) := by decide +kernel
theorem dL_law_1748 : decode cL_law 1748 = .ok (.iaload, 1) := by decide +kernel
theorem dL_law_1749 : decode cL_law 1749 = .ok (.aload_n 0, 1) := by decide +kernel
theorem dL_law_1750 : decode cL_law 1750 = .ok (.iload 5, 2) := by decide +kernel
theorem dL_law_1752 : decode cL_law 1752 = .ok (.iconst 2, 1) := by decide +kernel
theorem dL_law_1753 : decode cL_law 1753 = .ok (.iadd, 1) := by decide +kernel
theorem dL_law_1754 : decode cL_law 1754 = .ok (.iaload, 1) := by decide +kernel
theorem dL_law_1755 : decode cL_law 1755 = .ok (.invokevirtual 236, 3) := by decide +kernel
theorem dL_law_1758 : decode cL_law 1758 = .ok (.istore 7, 2) := by decide +kernel
theorem dL_law_1760 : decode cL_law 1760 = .ok (.aload_n 2, 1) := by decide +kernel
theorem dL_law_1761 : decode cL_law 1761 = .ok (.invokevirtual 151, 3) := by decide +kernel
theorem dL_law_1764 : decode cL_law 1764 = .ok (.iload 6, 2) := by decide +kernel
theorem dL_law_1766 : decode cL_law 1766 = .ok (.if_icmp .eq 5, 3) := by decide +kernel
theorem dL_law_1769 : decode cL_law 1769 = .ok (.iconst 0, 1) := by decide +kernel
theorem dL_law_1770 : decode cL_law 1770 = .ok (.ireturn, 1) := by decide +kernel
theorem dL_law_1771 : decode cL_law 1771 = .ok (.iload 6, 2) := by decide +kernel
theorem dL_law_1773 : decode cL_law 1773 = .ok (.ifCond .ne 15, 3) := by decide +kernel
theorem dL_law_1776 : decode cL_law 1776 = .ok (.aload_n 3, 1) := by decide +kernel
theorem dL_law_1777 : decode cL_law 1777 = .ok (.iconst 0, 1) := by decide +kernel
theorem dL_law_1778 : decode cL_law 1778 = .ok (.laload, 1) := by decide +kernel
theorem dL_law_1779 : decode cL_law 1779 = .ok (.iload 7, 2) := by decide +kernel
theorem dL_law_1781 : decode cL_law 1781 = .ok (.i2l, 1) := by decide +kernel
theorem dL_law_1782 : decode cL_law 1782 = .ok (.lcmp, 1) := by decide +kernel
theorem dL_law_1783 : decode cL_law 1783 = .ok (.ifCond .eq 5, 3) := by decide +kernel
theorem dL_law_1786 : decode cL_law 1786 = .ok (.iconst 0, 1) := by decide +kernel
theorem dL_law_1787 : decode cL_law 1787 = .ok (.ireturn, 1) := by decide +kernel
theorem dL_law_1788 : decode cL_law 1788 = .ok (.goto 563, 3) := by decide +kernel
theorem dL_law_1791 : decode cL_law 1791 = .ok (.aload_n 1, 1) := by decide +kernel
theorem dL_law_1792 : decode cL_law 1792 = .ok (.aload_n 0, 1) := by decide +kernel
theorem dL_law_1793 : decode cL_law 1793 = .ok (.iload 5, 2) := by decide +kernel
theorem dL_law_1795 : decode cL_law 1795 = .ok (.iconst 1, 1) := by decide +kernel
theorem dL_law_1796 : decode cL_law 1796 = .ok (.iadd, 1) := by decide +kernel
theorem dL_law_1797 : decode cL_law 1797 = .ok (.iaload, 1) := by decide +kernel
theorem dL_law_1798 : decode cL_law 1798 = .ok (.aload_n 3, 1) := by decide +kernel
theorem dL_law_1799 : decode cL_law 1799 = .ok (.invokestatic 237, 3) := by decide +kernel
theorem dL_law_1802 : decode cL_law 1802 = .ok (.istore 6, 2) := by decide +kernel
theorem dL_law_1804 : decode cL_law 1804 = .ok (.aload_n 2, 1) := by decide +kernel
theorem dL_law_1805 : decode cL_law 1805 = .ok (.aload_n 0, 1) := by decide +kernel
theorem dL_law_1806 : decode cL_law 1806 = .ok (.iload 5, 2) := by decide +kernel
theorem dL_law_1808 : decode cL_law 1808 = .ok (.iconst 1, 1) := by decide +kernel
theorem dL_law_1809 : decode cL_law 1809 = .ok (.iadd, 1) := by decide +kernel
theorem dL_law_1810 : decode cL_law 1810 = .ok (.iaload, 1) := by decide +kernel
theorem dL_law_1811 : decode cL_law 1811 = .ok (.invokevirtual 239, 3) := by decide +kernel
theorem dL_law_1814 : decode cL_law 1814 = .ok (.istore 7, 2) := by decide +kernel
theorem dL_law_1816 : decode cL_law 1816 = .ok (.aload_n 2, 1) := by decide +kernel
theorem dL_law_1817 : decode cL_law 1817 = .ok (.invokevirtual 151, 3) := by decide +kernel
theorem dL_law_1820 : decode cL_law 1820 = .ok (.iload 6, 2) := by decide +kernel
theorem dL_law_1822 : decode cL_law 1822 = .ok (.if_icmp .eq 5, 3) := by decide +kernel
theorem dL_law_1825 : decode cL_law 1825 = .ok (.iconst 0, 1) := by decide +kernel
theorem dL_law_1826 : decode cL_law 1826 = .ok (.ireturn, 1) := by decide +kernel
theorem dL_law_1827 : decode cL_law 1827 = .ok (.iload 6, 2) := by decide +kernel
theorem dL_law_1829 : decode cL_law 1829 = .ok (.ifCond .ne 22, 3) := by decide +kernel
theorem dL_law_1832 : decode cL_law 1832 = .ok (.aload_n 3, 1) := by decide +kernel
theorem dL_law_1833 : decode cL_law 1833 = .ok (.iconst 0, 1) := by decide +kernel
theorem dL_law_1834 : decode cL_law 1834 = .ok (.laload, 1) := by decide +kernel
theorem dL_law_1835 : decode cL_law 1835 = .ok (.iload 7, 2) := by decide +kernel
theorem dL_law_1837 : decode cL_law 1837 = .ok (.ifCond .eq 7, 3) := by decide +kernel
theorem dL_law_1840 : decode cL_law 1840 = .ok (.lconst 1, 1) := by decide +kernel
theorem dL_law_1841 : decode cL_law 1841 = .ok (.goto 4, 3) := by decide +kernel
theorem dL_law_1844 : decode cL_law 1844 = .ok (.lconst 0, 1) := by decide +kernel
theorem dL_law_1845 : decode cL_law 1845 = .ok (.lcmp, 1) := by decide +kernel
theorem dL_law_1846 : decode cL_law 1846 = .ok (.ifCond .eq 5, 3) := by decide +kernel
theorem dL_law_1849 : decode cL_law 1849 = .ok (.iconst 0, 1) := by decide +kernel
theorem dL_law_1850 : decode cL_law 1850 = .ok (.ireturn, 1) := by decide +kernel
theorem dL_law_1851 : decode cL_law 1851 = .ok (.goto 500, 3) := by decide +kernel
theorem dL_law_1854 : decode cL_law 1854 = .ok (.aload_n 1, 1) := by decide +kernel
theorem dL_law_1855 : decode cL_law 1855 = .ok (.aload_n 0, 1) := by decide +kernel
theorem dL_law_1856 : decode cL_law 1856 = .ok (.iload 5, 2) := by decide +kernel
theorem dL_law_1858 : decode cL_law 1858 = .ok (.iconst 1, 1) := by decide +kernel
theorem dL_law_1859 : decode cL_law 1859 = .ok (.iadd, 1) := by decide +kernel
theorem dL_law_1860 : decode cL_law 1860 = .ok (.iaload, 1) := by decide +kernel
theorem dL_law_1861 : decode cL_law 1861 = .ok (.aload_n 0, 1) := by decide +kernel
theorem dL_law_1862 : decode cL_law 1862 = .ok (.iload 5, 2) := by decide +kernel
theorem dL_law_1864 : decode cL_law 1864 = .ok (.iconst 2, 1) := by decide +kernel
theorem dL_law_1865 : decode cL_law 1865 = .ok (.iadd, 1) := by decide +kernel
theorem dL_law_1866 : decode cL_law 1866 = .ok (.iaload, 1) := by decide +kernel
theorem dL_law_1867 : decode cL_law 1867 = .ok (.i2c, 1) := by decide +kernel
theorem dL_law_1868 : decode cL_law 1868 = .ok (.aload_n 3, 1) := by decide +kernel
theorem dL_law_1869 : decode cL_law 1869 = .ok (.invokestatic 240, 3) := by decide +kernel
theorem dL_law_1872 : decode cL_law 1872 = .ok (.istore 6, 2) := by decide +kernel
theorem dL_law_1874 : decode cL_law 1874 = .ok (.aload_n 2, 1) := by decide +kernel
theorem dL_law_1875 : decode cL_law 1875 = .ok (.aload_n 0, 1) := by decide +kernel
theorem dL_law_1876 : decode cL_law 1876 = .ok (.iload 5, 2) := by decide +kernel
theorem dL_law_1878 : decode cL_law 1878 = .ok (.iconst 1, 1) := by decide +kernel
theorem dL_law_1879 : decode cL_law 1879 = .ok (.iadd, 1) := by decide +kernel
theorem dL_law_1880 : decode cL_law 1880 = .ok (.iaload, 1) := by decide +kernel
theorem dL_law_1881 : decode cL_law 1881 = .ok (.aload_n 0, 1) := by decide +kernel
theorem dL_law_1882 : decode cL_law 1882 = .ok (.iload 5, 2) := by decide +kernel
theorem dL_law_1884 : decode cL_law 1884 = .ok (.iconst 2, 1) := by decide +kernel
theorem dL_law_1885 : decode cL_law 1885 = .ok (.iadd, 1) := by decide +kernel
theorem dL_law_1886 : decode cL_law 1886 = .ok (.iaload, 1) := by decide +kernel
theorem dL_law_1887 : decode cL_law 1887 = .ok (.i2c, 1) := by decide +kernel
theorem dL_law_1888 : decode cL_law 1888 = .ok (.invokevirtual 242, 3) := by decide +kernel
theorem dL_law_1891 : decode cL_law 1891 = .ok (.istore 7, 2) := by decide +kernel
theorem dL_law_1893 : decode cL_law 1893 = .ok (.aload_n 2, 1) := by decide +kernel
theorem dL_law_1894 : decode cL_law 1894 = .ok (.invokevirtual 151, 3) := by decide +kernel
theorem dL_law_1897 : decode cL_law 1897 = .ok (.iload 6, 2) := by decide +kernel
theorem dL_law_1899 : decode cL_law 1899 = .ok (.if_icmp .eq 5, 3) := by decide +kernel
theorem dL_law_1902 : decode cL_law 1902 = .ok (.iconst 0, 1) := by decide +kernel
theorem dL_law_1903 : decode cL_law 1903 = .ok (.ireturn, 1) := by decide +kernel
theorem dL_law_1904 : decode cL_law 1904 = .ok (.iload 6, 2) := by decide +kernel
theorem dL_law_1906 : decode cL_law 1906 = .ok (.ifCond .ne 15, 3) := by decide +kernel
theorem dL_law_1909 : decode cL_law 1909 = .ok (.aload_n 3, 1) := by decide +kernel
theorem dL_law_1910 : decode cL_law 1910 = .ok (.iconst 0, 1) := by decide +kernel
theorem dL_law_1911 : decode cL_law 1911 = .ok (.laload, 1) := by decide +kernel
theorem dL_law_1912 : decode cL_law 1912 = .ok (.iload 7, 2) := by decide +kernel
theorem dL_law_1914 : decode cL_law 1914 = .ok (.i2l, 1) := by decide +kernel
theorem dL_law_1915 : decode cL_law 1915 = .ok (.lcmp, 1) := by decide +kernel
theorem dL_law_1916 : decode cL_law 1916 = .ok (.ifCond .eq 5, 3) := by decide +kernel
theorem dL_law_1919 : decode cL_law 1919 = .ok (.iconst 0, 1) := by decide +kernel
theorem dL_law_1920 : decode cL_law 1920 = .ok (.ireturn, 1) := by decide +kernel
theorem dL_law_1921 : decode cL_law 1921 = .ok (.goto 430, 3) := by decide +kernel
theorem dL_law_1924 : decode cL_law 1924 = .ok (.aload_n 1, 1) := by decide +kernel
theorem dL_law_1925 : decode cL_law 1925 = .ok (.aload_n 0, 1) := by decide +kernel
theorem dL_law_1926 : decode cL_law 1926 = .ok (.iload 5, 2) := by decide +kernel
theorem dL_law_1928 : decode cL_law 1928 = .ok (.iconst 1, 1) := by decide +kernel
theorem dL_law_1929 : decode cL_law 1929 = .ok (.iadd, 1) := by decide +kernel
theorem dL_law_1930 : decode cL_law 1930 = .ok (.iaload, 1) := by decide +kernel
theorem dL_law_1931 : decode cL_law 1931 = .ok (.aload_n 3, 1) := by decide +kernel
theorem dL_law_1932 : decode cL_law 1932 = .ok (.invokestatic 243, 3) := by decide +kernel
theorem dL_law_1935 : decode cL_law 1935 = .ok (.istore 6, 2) := by decide +kernel
theorem dL_law_1937 : decode cL_law 1937 = .ok (.aload_n 2, 1) := by decide +kernel
theorem dL_law_1938 : decode cL_law 1938 = .ok (.aload_n 0, 1) := by decide +kernel
theorem dL_law_1939 : decode cL_law 1939 = .ok (.iload 5, 2) := by decide +kernel
theorem dL_law_1941 : decode cL_law 1941 = .ok (.iconst 1, 1) := by decide +kernel
theorem dL_law_1942 : decode cL_law 1942 = .ok (.iadd, 1) := by decide +kernel
theorem dL_law_1943 : decode cL_law 1943 = .ok (.iaload, 1) := by decide +kernel
theorem dL_law_1944 : decode cL_law 1944 = .ok (.invokevirtual 245, 3) := by decide +kernel
theorem dL_law_1947 : decode cL_law 1947 = .ok (.istore 7, 2) := by decide +kernel
theorem dL_law_1949 : decode cL_law 1949 = .ok (.aload_n 2, 1) := by decide +kernel
theorem dL_law_1950 : decode cL_law 1950 = .ok (.invokevirtual 151, 3) := by decide +kernel
theorem dL_law_1953 : decode cL_law 1953 = .ok (.iload 6, 2) := by decide +kernel
theorem dL_law_1955 : decode cL_law 1955 = .ok (.if_icmp .eq 5, 3) := by decide +kernel
theorem dL_law_1958 : decode cL_law 1958 = .ok (.iconst 0, 1) := by decide +kernel
theorem dL_law_1959 : decode cL_law 1959 = .ok (.ireturn, 1) := by decide +kernel
theorem dL_law_1960 : decode cL_law 1960 = .ok (.iload 6, 2) := by decide +kernel
theorem dL_law_1962 : decode cL_law 1962 = .ok (.ifCond .ne 15, 3) := by decide +kernel
theorem dL_law_1965 : decode cL_law 1965 = .ok (.aload_n 3, 1) := by decide +kernel
theorem dL_law_1966 : decode cL_law 1966 = .ok (.iconst 0, 1) := by decide +kernel
theorem dL_law_1967 : decode cL_law 1967 = .ok (.laload, 1) := by decide +kernel
theorem dL_law_1968 : decode cL_law 1968 = .ok (.iload 7, 2) := by decide +kernel
theorem dL_law_1970 : decode cL_law 1970 = .ok (.i2l, 1) := by decide +kernel
theorem dL_law_1971 : decode cL_law 1971 = .ok (.lcmp, 1) := by decide +kernel
theorem dL_law_1972 : decode cL_law 1972 = .ok (.ifCond .eq 5, 3) := by decide +kernel
theorem dL_law_1975 : decode cL_law 1975 = .ok (.iconst 0, 1) := by decide +kernel
theorem dL_law_1976 : decode cL_law 1976 = .ok (.ireturn, 1) := by decide +kernel
theorem dL_law_1977 : decode cL_law 1977 = .ok (.goto 374, 3) := by decide +kernel
theorem dL_law_1980 : decode cL_law 1980 = .ok (.aload_n 1, 1) := by decide +kernel
theorem dL_law_1981 : decode cL_law 1981 = .ok (.invokevirtual 246, 3) := by decide +kernel
theorem dL_law_1984 : decode cL_law 1984 = .ok (.aload_n 2, 1) := by decide +kernel
theorem dL_law_1985 : decode cL_law 1985 = .ok (.invokevirtual 249, 3) := by decide +kernel
theorem dL_law_1988 : decode cL_law 1988 = .ok (.if_icmp .eq 363, 3) := by decide +kernel
theorem dL_law_1991 : decode cL_law 1991 = .ok (.iconst 0, 1) := by decide +kernel
theorem dL_law_1992 : decode cL_law 1992 = .ok (.ireturn, 1) := by decide +kernel
theorem dL_law_1993 : decode cL_law 1993 = .ok (.aload_n 1, 1) := by decide +kernel
theorem dL_law_1994 : decode cL_law 1994 = .ok (.aload_n 0, 1) := by decide +kernel
theorem dL_law_1995 : decode cL_law 1995 = .ok (.iload 5, 2) := by decide +kernel
theorem dL_law_1997 : decode cL_law 1997 = .ok (.iconst 1, 1) := by decide +kernel
theorem dL_law_1998 : decode cL_law 1998 = .ok (.iadd, 1) := by decide +kernel
theorem dL_law_1999 : decode cL_law 1999 = .ok (.iaload, 1) := by decide +kernel
theorem dL_law_2000 : decode cL_law 2000 = .ok (.aload_n 3, 1) := by decide +kernel
theorem dL_law_2001 : decode cL_law 2001 = .ok (.invokestatic 250, 3) := by decide +kernel
theorem dL_law_2004 : decode cL_law 2004 = .ok (.istore 6, 2) := by decide +kernel
theorem dL_law_2006 : decode cL_law 2006 = .ok (.aload_n 2, 1) := by decide +kernel
theorem dL_law_2007 : decode cL_law 2007 = .ok (.aload_n 0, 1) := by decide +kernel
theorem dL_law_2008 : decode cL_law 2008 = .ok (.iload 5, 2) := by decide +kernel
theorem dL_law_2010 : decode cL_law 2010 = .ok (.iconst 1, 1) := by decide +kernel
theorem dL_law_2011 : decode cL_law 2011 = .ok (.iadd, 1) := by decide +kernel
theorem dL_law_2012 : decode cL_law 2012 = .ok (.iaload, 1) := by decide +kernel
theorem dL_law_2013 : decode cL_law 2013 = .ok (.invokevirtual 252, 3) := by decide +kernel
theorem dL_law_2016 : decode cL_law 2016 = .ok (.istore 7, 2) := by decide +kernel
theorem dL_law_2018 : decode cL_law 2018 = .ok (.aload_n 2, 1) := by decide +kernel
theorem dL_law_2019 : decode cL_law 2019 = .ok (.invokevirtual 151, 3) := by decide +kernel
theorem dL_law_2022 : decode cL_law 2022 = .ok (.iload 6, 2) := by decide +kernel
theorem dL_law_2024 : decode cL_law 2024 = .ok (.if_icmp .eq 5, 3) := by decide +kernel
theorem dL_law_2027 : decode cL_law 2027 = .ok (.iconst 0, 1) := by decide +kernel
theorem dL_law_2028 : decode cL_law 2028 = .ok (.ireturn, 1) := by decide +kernel
theorem dL_law_2029 : decode cL_law 2029 = .ok (.iload 6, 2) := by decide +kernel
theorem dL_law_2031 : decode cL_law 2031 = .ok (.ifCond .ne 15, 3) := by decide +kernel
theorem dL_law_2034 : decode cL_law 2034 = .ok (.aload_n 3, 1) := by decide +kernel
theorem dL_law_2035 : decode cL_law 2035 = .ok (.iconst 0, 1) := by decide +kernel
theorem dL_law_2036 : decode cL_law 2036 = .ok (.laload, 1) := by decide +kernel
theorem dL_law_2037 : decode cL_law 2037 = .ok (.iload 7, 2) := by decide +kernel
theorem dL_law_2039 : decode cL_law 2039 = .ok (.i2l, 1) := by decide +kernel
theorem dL_law_2040 : decode cL_law 2040 = .ok (.lcmp, 1) := by decide +kernel
theorem dL_law_2041 : decode cL_law 2041 = .ok (.ifCond .eq 5, 3) := by decide +kernel
theorem dL_law_2044 : decode cL_law 2044 = .ok (.iconst 0, 1) := by decide +kernel
theorem dL_law_2045 : decode cL_law 2045 = .ok (.ireturn, 1) := by decide +kernel
theorem dL_law_2046 : decode cL_law 2046 = .ok (.goto 305, 3) := by decide +kernel
theorem dL_law_2049 : decode cL_law 2049 = .ok (.aload_n 1, 1) := by decide +kernel
theorem dL_law_2050 : decode cL_law 2050 = .ok (.aload_n 3, 1) := by decide +kernel
theorem dL_law_2051 : decode cL_law 2051 = .ok (.invokestatic 253, 3) := by decide +kernel
theorem dL_law_2054 : decode cL_law 2054 = .ok (.istore 6, 2) := by decide +kernel
theorem dL_law_2056 : decode cL_law 2056 = .ok (.aload_n 2, 1) := by decide +kernel
theorem dL_law_2057 : decode cL_law 2057 = .ok (.invokevirtual 255, 3) := by decide +kernel
theorem dL_law_2060 : decode cL_law 2060 = .ok (.istore 7, 2) := by decide +kernel
theorem dL_law_2062 : decode cL_law 2062 = .ok (.aload_n 2, 1) := by decide +kernel
theorem dL_law_2063 : decode cL_law 2063 = .ok (.invokevirtual 151, 3) := by decide +kernel
theorem dL_law_2066 : decode cL_law 2066 = .ok (.iload 6, 2) := by decide +kernel
theorem dL_law_2068 : decode cL_law 2068 = .ok (.if_icmp .eq 5, 3) := by decide +kernel
theorem dL_law_2071 : decode cL_law 2071 = .ok (.iconst 0, 1) := by decide +kernel
theorem dL_law_2072 : decode cL_law 2072 = .ok (.ireturn, 1) := by decide +kernel
theorem dL_law_2073 : decode cL_law 2073 = .ok (.iload 6, 2) := by decide +kernel
theorem dL_law_2075 : decode cL_law 2075 = .ok (.ifCond .ne 15, 3) := by decide +kernel
theorem dL_law_2078 : decode cL_law 2078 = .ok (.aload_n 3, 1) := by decide +kernel
theorem dL_law_2079 : decode cL_law 2079 = .ok (.iconst 0, 1) := by decide +kernel
theorem dL_law_2080 : decode cL_law 2080 = .ok (.laload, 1) := by decide +kernel
theorem dL_law_2081 : decode cL_law 2081 = .ok (.iload 7, 2) := by decide +kernel
theorem dL_law_2083 : decode cL_law 2083 = .ok (.i2l, 1) := by decide +kernel
theorem dL_law_2084 : decode cL_law 2084 = .ok (.lcmp, 1) := by decide +kernel
theorem dL_law_2085 : decode cL_law 2085 = .ok (.ifCond .eq 5, 3) := by decide +kernel
theorem dL_law_2088 : decode cL_law 2088 = .ok (.iconst 0, 1) := by decide +kernel
theorem dL_law_2089 : decode cL_law 2089 = .ok (.ireturn, 1) := by decide +kernel
theorem dL_law_2090 : decode cL_law 2090 = .ok (.goto 261, 3) := by decide +kernel
theorem dL_law_2093 : decode cL_law 2093 = .ok (.aload_n 1, 1) := by decide +kernel
theorem dL_law_2094 : decode cL_law 2094 = .ok (.aload_n 3, 1) := by decide +kernel
theorem dL_law_2095 : decode cL_law 2095 = .ok (.invokestatic 256, 3) := by decide +kernel
theorem dL_law_2098 : decode cL_law 2098 = .ok (.istore 6, 2) := by decide +kernel
theorem dL_law_2100 : decode cL_law 2100 = .ok (.aload_n 2, 1) := by decide +kernel
theorem dL_law_2101 : decode cL_law 2101 = .ok (.invokevirtual 258, 3) := by decide +kernel
theorem dL_law_2104 : decode cL_law 2104 = .ok (.istore 7, 2) := by decide +kernel
theorem dL_law_2106 : decode cL_law 2106 = .ok (.aload_n 2, 1) := by decide +kernel
theorem dL_law_2107 : decode cL_law 2107 = .ok (.invokevirtual 151, 3) := by decide +kernel
theorem dL_law_2110 : decode cL_law 2110 = .ok (.iload 6, 2) := by decide +kernel
theorem dL_law_2112 : decode cL_law 2112 = .ok (.if_icmp .eq 5, 3) := by decide +kernel
theorem dL_law_2115 : decode cL_law 2115 = .ok (.iconst 0, 1) := by decide +kernel
theorem dL_law_2116 : decode cL_law 2116 = .ok (.ireturn, 1) := by decide +kernel
theorem dL_law_2117 : decode cL_law 2117 = .ok (.iload 6, 2) := by decide +kernel
theorem dL_law_2119 : decode cL_law 2119 = .ok (.ifCond .ne 15, 3) := by decide +kernel
theorem dL_law_2122 : decode cL_law 2122 = .ok (.aload_n 3, 1) := by decide +kernel
theorem dL_law_2123 : decode cL_law 2123 = .ok (.iconst 0, 1) := by decide +kernel
theorem dL_law_2124 : decode cL_law 2124 = .ok (.laload, 1) := by decide +kernel
theorem dL_law_2125 : decode cL_law 2125 = .ok (.iload 7, 2) := by decide +kernel
theorem dL_law_2127 : decode cL_law 2127 = .ok (.i2l, 1) := by decide +kernel
theorem dL_law_2128 : decode cL_law 2128 = .ok (.lcmp, 1) := by decide +kernel
theorem dL_law_2129 : decode cL_law 2129 = .ok (.ifCond .eq 5, 3) := by decide +kernel
theorem dL_law_2132 : decode cL_law 2132 = .ok (.iconst 0, 1) := by decide +kernel
theorem dL_law_2133 : decode cL_law 2133 = .ok (.ireturn, 1) := by decide +kernel
theorem dL_law_2134 : decode cL_law 2134 = .ok (.goto 217, 3) := by decide +kernel
theorem dL_law_2137 : decode cL_law 2137 = .ok (.aload_n 1, 1) := by decide +kernel
theorem dL_law_2138 : decode cL_law 2138 = .ok (.aload_n 0, 1) := by decide +kernel
theorem dL_law_2139 : decode cL_law 2139 = .ok (.iload 5, 2) := by decide +kernel
theorem dL_law_2141 : decode cL_law 2141 = .ok (.iconst 1, 1) := by decide +kernel
theorem dL_law_2142 : decode cL_law 2142 = .ok (.iadd, 1) := by decide +kernel
theorem dL_law_2143 : decode cL_law 2143 = .ok (.iaload, 1) := by decide +kernel
theorem dL_law_2144 : decode cL_law 2144 = .ok (.aload_n 3, 1) := by decide +kernel
theorem dL_law_2145 : decode cL_law 2145 = .ok (.invokestatic 259, 3) := by decide +kernel
theorem dL_law_2148 : decode cL_law 2148 = .ok (.istore 6, 2) := by decide +kernel
theorem dL_law_2150 : decode cL_law 2150 = .ok (.aload_n 2, 1) := by decide +kernel
theorem dL_law_2151 : decode cL_law 2151 = .ok (.aload_n 0, 1) := by decide +kernel
theorem dL_law_2152 : decode cL_law 2152 = .ok (.iload 5, 2) := by decide +kernel
theorem dL_law_2154 : decode cL_law 2154 = .ok (.iconst 1, 1) := by decide +kernel
theorem dL_law_2155 : decode cL_law 2155 = .ok (.iadd, 1) := by decide +kernel
theorem dL_law_2156 : decode cL_law 2156 = .ok (.iaload, 1) := by decide +kernel
theorem dL_law_2157 : decode cL_law 2157 = .ok (.invokevirtual 261, 3) := by decide +kernel
theorem dL_law_2160 : decode cL_law 2160 = .ok (.istore 7, 2) := by decide +kernel
theorem dL_law_2162 : decode cL_law 2162 = .ok (.aload_n 2, 1) := by decide +kernel
theorem dL_law_2163 : decode cL_law 2163 = .ok (.invokevirtual 151, 3) := by decide +kernel
theorem dL_law_2166 : decode cL_law 2166 = .ok (.iload 6, 2) := by decide +kernel
theorem dL_law_2168 : decode cL_law 2168 = .ok (.if_icmp .eq 5, 3) := by decide +kernel
theorem dL_law_2171 : decode cL_law 2171 = .ok (.iconst 0, 1) := by decide +kernel
theorem dL_law_2172 : decode cL_law 2172 = .ok (.ireturn, 1) := by decide +kernel
theorem dL_law_2173 : decode cL_law 2173 = .ok (.iload 6, 2) := by decide +kernel
theorem dL_law_2175 : decode cL_law 2175 = .ok (.ifCond .ne 15, 3) := by decide +kernel
theorem dL_law_2178 : decode cL_law 2178 = .ok (.aload_n 3, 1) := by decide +kernel
theorem dL_law_2179 : decode cL_law 2179 = .ok (.iconst 0, 1) := by decide +kernel
theorem dL_law_2180 : decode cL_law 2180 = .ok (.laload, 1) := by decide +kernel
theorem dL_law_2181 : decode cL_law 2181 = .ok (.iload 7, 2) := by decide +kernel
theorem dL_law_2183 : decode cL_law 2183 = .ok (.i2l, 1) := by decide +kernel
theorem dL_law_2184 : decode cL_law 2184 = .ok (.lcmp, 1) := by decide +kernel
theorem dL_law_2185 : decode cL_law 2185 = .ok (.ifCond .eq 5, 3) := by decide +kernel
theorem dL_law_2188 : decode cL_law 2188 = .ok (.iconst 0, 1) := by decide +kernel
theorem dL_law_2189 : decode cL_law 2189 = .ok (.ireturn, 1) := by decide +kernel
theorem dL_law_2190 : decode cL_law 2190 = .ok (.goto 161, 3) := by decide +kernel
theorem dL_law_2193 : decode cL_law 2193 = .ok (.aload_n 1, 1) := by decide +kernel
theorem dL_law_2194 : decode cL_law 2194 = .ok (.invokevirtual 262, 3) := by decide +kernel
theorem dL_law_2197 : decode cL_law 2197 = .ok (.aload_n 2, 1) := by decide +kernel
theorem dL_law_2198 : decode cL_law 2198 = .ok (.invokevirtual 265, 3) := by decide +kernel
theorem dL_law_2201 : decode cL_law 2201 = .ok (.lcmp, 1) := by decide +kernel
theorem dL_law_2202 : decode cL_law 2202 = .ok (.ifCond .eq 149, 3) := by decide +kernel
theorem dL_law_2205 : decode cL_law 2205 = .ok (.iconst 0, 1) := by decide +kernel
theorem dL_law_2206 : decode cL_law 2206 = .ok (.ireturn, 1) := by decide +kernel
theorem dL_law_2207 : decode cL_law 2207 = .ok (.aload_n 1, 1) := by decide +kernel
theorem dL_law_2208 : decode cL_law 2208 = .ok (.aload 4, 2) := by decide +kernel
theorem dL_law_2210 : decode cL_law 2210 = .ok (.invokestatic 266, 3) := by decide +kernel
theorem dL_law_2213 : decode cL_law 2213 = .ok (.istore 6, 2) := by decide +kernel
theorem dL_law_2215 : decode cL_law 2215 = .ok (.aload_n 2, 1) := by decide +kernel
theorem dL_law_2216 : decode cL_law 2216 = .ok (.invokevirtual 269, 3) := by decide +kernel
theorem dL_law_2219 : decode cL_law 2219 = .ok (.fstore 7, 2) := by decide +kernel
theorem dL_law_2221 : decode cL_law 2221 = .ok (.aload_n 2, 1) := by decide +kernel
theorem dL_law_2222 : decode cL_law 2222 = .ok (.invokevirtual 151, 3) := by decide +kernel
theorem dL_law_2225 : decode cL_law 2225 = .ok (.iload 6, 2) := by decide +kernel
theorem dL_law_2227 : decode cL_law 2227 = .ok (.if_icmp .eq 5, 3) := by decide +kernel
theorem dL_law_2230 : decode cL_law 2230 = .ok (.iconst 0, 1) := by decide +kernel
theorem dL_law_2231 : decode cL_law 2231 = .ok (.ireturn, 1) := by decide +kernel
theorem dL_law_2232 : decode cL_law 2232 = .ok (.iload 6, 2) := by decide +kernel
theorem dL_law_2234 : decode cL_law 2234 = .ok (.ifCond .ne 36, 3) := by decide +kernel
theorem dL_law_2237 : decode cL_law 2237 = .ok (.aload 4, 2) := by decide +kernel
theorem dL_law_2239 : decode cL_law 2239 = .ok (.iconst 0, 1) := by decide +kernel
theorem dL_law_2240 : decode cL_law 2240 = .ok (.daload, 1) := by decide +kernel
theorem dL_law_2241 : decode cL_law 2241 = .ok (.fload 7, 2) := by decide +kernel
theorem dL_law_2243 : decode cL_law 2243 = .ok (.f2d, 1) := by decide +kernel
theorem dL_law_2244 : decode cL_law 2244 = .ok (.dcmp .l, 1) := by decide +kernel
theorem dL_law_2245 : decode cL_law 2245 = .ok (.ifCond .eq 25, 3) := by decide +kernel
theorem dL_law_2248 : decode cL_law 2248 = .ok (.aload 4, 2) := by decide +kernel
theorem dL_law_2250 : decode cL_law 2250 = .ok (.iconst 0, 1) := by decide +kernel
theorem dL_law_2251 : decode cL_law 2251 = .ok (.daload, 1) := by decide +kernel
theorem dL_law_2252 : decode cL_law 2252 = .ok (.aload 4, 2) := by decide +kernel
theorem dL_law_2254 : decode cL_law 2254 = .ok (.iconst 0, 1) := by decide +kernel
theorem dL_law_2255 : decode cL_law 2255 = .ok (.daload, 1) := by decide +kernel
theorem dL_law_2256 : decode cL_law 2256 = .ok (.dcmp .l, 1) := by decide +kernel
theorem dL_law_2257 : decode cL_law 2257 = .ok (.ifCond .eq 11, 3) := by decide +kernel
theorem dL_law_2260 : decode cL_law 2260 = .ok (.fload 7, 2) := by decide +kernel
theorem dL_law_2262 : decode cL_law 2262 = .ok (.fload 7, 2) := by decide +kernel
theorem dL_law_2264 : decode cL_law 2264 = .ok (.fcmp .l, 1) := by decide +kernel
theorem dL_law_2265 : decode cL_law 2265 = .ok (.ifCond .ne 5, 3) := by decide +kernel
theorem dL_law_2268 : decode cL_law 2268 = .ok (.iconst 0, 1) := by decide +kernel
theorem dL_law_2269 : decode cL_law 2269 = .ok (.ireturn, 1) := by decide +kernel
theorem dL_law_2270 : decode cL_law 2270 = .ok (.goto 81, 3) := by decide +kernel
theorem dL_law_2273 : decode cL_law 2273 = .ok (.aload_n 1, 1) := by decide +kernel
theorem dL_law_2274 : decode cL_law 2274 = .ok (.aload 4, 2) := by decide +kernel
theorem dL_law_2276 : decode cL_law 2276 = .ok (.invokestatic 270, 3) := by decide +kernel
theorem dL_law_2279 : decode cL_law 2279 = .ok (.istore 6, 2) := by decide +kernel
theorem dL_law_2281 : decode cL_law 2281 = .ok (.aload_n 2, 1) := by decide +kernel
theorem dL_law_2282 : decode cL_law 2282 = .ok (.invokevirtual 272, 3) := by decide +kernel
theorem dL_law_2285 : decode cL_law 2285 = .ok (.dstore 7, 2) := by decide +kernel
theorem dL_law_2287 : decode cL_law 2287 = .ok (.aload_n 2, 1) := by decide +kernel
theorem dL_law_2288 : decode cL_law 2288 = .ok (.invokevirtual 151, 3) := by decide +kernel
theorem dL_law_2291 : decode cL_law 2291 = .ok (.iload 6, 2) := by decide +kernel
theorem dL_law_2293 : decode cL_law 2293 = .ok (.if_icmp .eq 5, 3) := by decide +kernel
theorem dL_law_2296 : decode cL_law 2296 = .ok (.iconst 0, 1) := by decide +kernel
theorem dL_law_2297 : decode cL_law 2297 = .ok (.ireturn, 1) := by decide +kernel
theorem dL_law_2298 : decode cL_law 2298 = .ok (.iload 6, 2) := by decide +kernel
theorem dL_law_2300 : decode cL_law 2300 = .ok (.ifCond .ne 35, 3) := by decide +kernel
theorem dL_law_2303 : decode cL_law 2303 = .ok (.aload 4, 2) := by decide +kernel
theorem dL_law_2305 : decode cL_law 2305 = .ok (.iconst 0, 1) := by decide +kernel
theorem dL_law_2306 : decode cL_law 2306 = .ok (.daload, 1) := by decide +kernel
theorem dL_law_2307 : decode cL_law 2307 = .ok (.dload 7, 2) := by decide +kernel
theorem dL_law_2309 : decode cL_law 2309 = .ok (.dcmp .l, 1) := by decide +kernel
theorem dL_law_2310 : decode cL_law 2310 = .ok (.ifCond .eq 25, 3) := by decide +kernel
theorem dL_law_2313 : decode cL_law 2313 = .ok (.aload 4, 2) := by decide +kernel
theorem dL_law_2315 : decode cL_law 2315 = .ok (.iconst 0, 1) := by decide +kernel
theorem dL_law_2316 : decode cL_law 2316 = .ok (.daload, 1) := by decide +kernel
theorem dL_law_2317 : decode cL_law 2317 = .ok (.aload 4, 2) := by decide +kernel
theorem dL_law_2319 : decode cL_law 2319 = .ok (.iconst 0, 1) := by decide +kernel
theorem dL_law_2320 : decode cL_law 2320 = .ok (.daload, 1) := by decide +kernel
theorem dL_law_2321 : decode cL_law 2321 = .ok (.dcmp .l, 1) := by decide +kernel
theorem dL_law_2322 : decode cL_law 2322 = .ok (.ifCond .eq 11, 3) := by decide +kernel
theorem dL_law_2325 : decode cL_law 2325 = .ok (.dload 7, 2) := by decide +kernel
theorem dL_law_2327 : decode cL_law 2327 = .ok (.dload 7, 2) := by decide +kernel
theorem dL_law_2329 : decode cL_law 2329 = .ok (.dcmp .l, 1) := by decide +kernel
theorem dL_law_2330 : decode cL_law 2330 = .ok (.ifCond .ne 5, 3) := by decide +kernel
theorem dL_law_2333 : decode cL_law 2333 = .ok (.iconst 0, 1) := by decide +kernel
theorem dL_law_2334 : decode cL_law 2334 = .ok (.ireturn, 1) := by decide +kernel
theorem dL_law_2335 : decode cL_law 2335 = .ok (.goto 16, 3) := by decide +kernel
theorem dL_law_2338 : decode cL_law 2338 = .ok (.aload_n 1, 1) := by decide +kernel
theorem dL_law_2339 : decode cL_law 2339 = .ok (.invokevirtual 273, 3) := by decide +kernel
theorem dL_law_2342 : decode cL_law 2342 = .ok (.aload_n 2, 1) := by decide +kernel
theorem dL_law_2343 : decode cL_law 2343 = .ok (.invokevirtual 276, 3) := by decide +kernel
theorem dL_law_2346 : decode cL_law 2346 = .ok (.if_icmp .eq 5, 3) := by decide +kernel
theorem dL_law_2349 : decode cL_law 2349 = .ok (.iconst 0, 1) := by decide +kernel
theorem dL_law_2350 : decode cL_law 2350 = .ok (.ireturn, 1) := by decide +kernel
theorem dL_law_2351 : decode cL_law 2351 = .ok (.iinc 5 6, 3) := by decide +kernel
theorem dL_law_2354 : decode cL_law 2354 = .ok (.goto (-2326), 3) := by decide +kernel
theorem dL_law_2357 : decode cL_law 2357 = .ok (.iconst 1, 1) := by decide +kernel
theorem dL_law_2358 : decode cL_law 2358 = .ok (.ireturn, 1) := by decide +kernel
abbrev vwCl : List vw_C := [(RJ0, TJ0, 4), (RJ4, TJ4, 4), (RJ6, TJ6, 1), (RJx00060, TJx00060, 6), (RJx7c733, TJx7c733, 6), (RJx35411, TJx35411, 4), (RJx4a65c, TJx4a65c, 3), (RX0, TX0, 4), (RX1, TX1, 10), (RX2, TX2, 5), (RX3, TX3, 1), (RX4, TX4, 6), (RX5, TX5, 9), (RX6, TX6, 3), (RX7, TX7, 5), (RX8, TX8, 8), (RX9, TX9, 4)]

