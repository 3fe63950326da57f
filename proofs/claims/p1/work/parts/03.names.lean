def RX0 : String := "Sowingcourt$Board"
def TX0 : u_T := fun k => match k with
  | 0 => ("Sowingcourt$Board", "kind", "LSowingcourt$Kind;", true)
  | 1 => ("Sowingcourt$Board", "cells", "[I", true)
  | 2 => ("Sowingcourt$Board", "lapCount", "I", false)
  | _ => ("Sowingcourt$Board", "last", "I", false)
def tyX0 : Nat → FieldType := fun k => match k with
  | 0 => .object "Sowingcourt$Kind"
  | 1 => .array .int
  | 2 => .int
  | _ => .int
abbrev wsX00 : List Cond := u_ws RX0 TX0 4
theorem nmX0 : ∀ a, a < 4 → ∀ b, b < 4 → a ≠ b → (TX0 a).2.1 ≠ (TX0 b).2.1 := by decide +kernel
theorem tyX0_ok : ∀ k, k < 4 → parseFieldDescriptor (TX0 k).2.2.1 = some (tyX0 k) := by decide +kernel
abbrev cX0_init : ByteArray := prog_2_method_1_code
def yX0_init : MethodName := ⟨RX0, "<init>", "(LSowingcourt$Kind;)V"⟩
def RX1 : String := "Sowingcourt$Game"
def TX1 : u_T := fun k => match k with
  | 0 => ("Sowingcourt$Game", "kind", "LSowingcourt$Kind;", true)
  | 1 => ("Sowingcourt$Game", "now", "LSowingcourt$Board;", true)
  | 2 => ("Sowingcourt$Game", "next", "LSowingcourt$Board;", true)
  | 3 => ("Sowingcourt$Game", "past", "[I", true)
  | 4 => ("Sowingcourt$Game", "played", "[I", true)
  | 5 => ("Sowingcourt$Game", "lapsOf", "[I", true)
  | 6 => ("Sowingcourt$Game", "count", "I", false)
  | 7 => ("Sowingcourt$Game", "begun", "Z", false)
  | 8 => ("Sowingcourt$Game", "over", "Z", false)
  | _ => ("Sowingcourt$Game", "wasMoved", "Z", false)
def tyX1 : Nat → FieldType := fun k => match k with
  | 0 => .object "Sowingcourt$Kind"
  | 1 => .object "Sowingcourt$Board"
  | 2 => .object "Sowingcourt$Board"
  | 3 => .array .int
  | 4 => .array .int
  | 5 => .array .int
  | 6 => .int
  | 7 => .boolean
  | 8 => .boolean
  | _ => .boolean
abbrev wsX10 : List Cond := u_ws RX1 TX1 10
theorem nmX1 : ∀ a, a < 10 → ∀ b, b < 10 → a ≠ b → (TX1 a).2.1 ≠ (TX1 b).2.1 := by decide +kernel
theorem tyX1_ok : ∀ k, k < 10 → parseFieldDescriptor (TX1 k).2.2.1 = some (tyX1 k) := by decide +kernel
abbrev cX1_init : ByteArray := prog_3_method_1_code
def yX1_init : MethodName := ⟨RX1, "<init>", "()V"⟩
def RX2 : String := "Sowingcourt$Kind"
def TX2 : u_T := fun k => match k with
  | 0 => ("Sowingcourt$Kind", "holesEach", "I", false)
  | 1 => ("Sowingcourt$Kind", "seedsEach", "I", false)
  | 2 => ("Sowingcourt$Kind", "lap", "C", false)
  | 3 => ("Sowingcourt$Kind", "capture", "C", false)
  | _ => ("Sowingcourt$Kind", "rules", "[Z", true)
def tyX2 : Nat → FieldType := fun k => match k with
  | 0 => .int
  | 1 => .int
  | 2 => .char
  | 3 => .char
  | _ => .array .boolean
abbrev wsX20 : List Cond := u_ws RX2 TX2 5
theorem nmX2 : ∀ a, a < 5 → ∀ b, b < 5 → a ≠ b → (TX2 a).2.1 ≠ (TX2 b).2.1 := by decide +kernel
theorem tyX2_ok : ∀ k, k < 5 → parseFieldDescriptor (TX2 k).2.2.1 = some (tyX2 k) := by decide +kernel
abbrev cX2_init : ByteArray := prog_4_method_1_code
def yX2_init : MethodName := ⟨RX2, "<init>", "()V"⟩
def RX3 : String := "Sowingcourt$Rows"
def TX3 : u_T := fun k => match k with
  | _ => ("Sowingcourt$Rows", "ways", "[[J", true)
def tyX3 : Nat → FieldType := fun k => match k with
  | _ => .array (.array .long)
abbrev wsX30 : List Cond := u_ws RX3 TX3 1
theorem nmX3 : ∀ a, a < 1 → ∀ b, b < 1 → a ≠ b → (TX3 a).2.1 ≠ (TX3 b).2.1 := by decide +kernel
theorem tyX3_ok : ∀ k, k < 1 → parseFieldDescriptor (TX3 k).2.2.1 = some (tyX3 k) := by decide +kernel
abbrev cX3_init : ByteArray := prog_5_method_1_code
def yX3_init : MethodName := ⟨RX3, "<init>", "()V"⟩
abbrev cX3_seedsAt : ByteArray := prog_5_method_3_code
def RX4 : String := "Sowingcourt$Search"
def TX4 : u_T := fun k => match k with
  | 0 => ("Sowingcourt$Search", "levels", "[LSowingcourt$Board;", true)
  | 1 => ("Sowingcourt$Search", "free", "[Z", true)
  | 2 => ("Sowingcourt$Search", "worth", "[I", true)
  | 3 => ("Sowingcourt$Search", "top", "I", false)
  | 4 => ("Sowingcourt$Search", "firstTop", "I", false)
  | _ => ("Sowingcourt$Search", "topCount", "I", false)
def tyX4 : Nat → FieldType := fun k => match k with
  | 0 => .array (.object "Sowingcourt$Board")
  | 1 => .array .boolean
  | 2 => .array .int
  | 3 => .int
  | 4 => .int
  | _ => .int
abbrev wsX40 : List Cond := u_ws RX4 TX4 6
theorem nmX4 : ∀ a, a < 6 → ∀ b, b < 6 → a ≠ b → (TX4 a).2.1 ≠ (TX4 b).2.1 := by decide +kernel
theorem tyX4_ok : ∀ k, k < 6 → parseFieldDescriptor (TX4 k).2.2.1 = some (tyX4 k) := by decide +kernel
abbrev cX4_init : ByteArray := prog_6_method_1_code
def yX4_init : MethodName := ⟨RX4, "<init>", "(LSowingcourt$Kind;)V"⟩
def RX5 : String := "Sowingcourt"
def TX5 : u_T := fun k => match k with
  | 0 => ("Sowingcourt", "kinds", "[LSowingcourt$Kind;", true)
  | 1 => ("Sowingcourt", "kindCount", "I", false)
  | 2 => ("Sowingcourt", "game", "LSowingcourt$Game;", true)
  | 3 => ("Sowingcourt", "trial", "LSowingcourt$Game;", true)
  | 4 => ("Sowingcourt", "search", "LSowingcourt$Search;", true)
  | 5 => ("Sowingcourt", "rows", "LSowingcourt$Rows;", true)
  | 6 => ("Sowingcourt", "typed", "[I", true)
  | 7 => ("Sowingcourt", "typedCount", "I", false)
  | _ => ("Sowingcourt", "text", "Ljava/lang/StringBuilder;", true)
def tyX5 : Nat → FieldType := fun k => match k with
  | 0 => .array (.object "Sowingcourt$Kind")
  | 1 => .int
  | 2 => .object "Sowingcourt$Game"
  | 3 => .object "Sowingcourt$Game"
  | 4 => .object "Sowingcourt$Search"
  | 5 => .object "Sowingcourt$Rows"
  | 6 => .array .int
  | 7 => .int
  | _ => .object "java/lang/StringBuilder"
abbrev wsX50 : List Cond := u_ws RX5 TX5 9
theorem nmX5 : ∀ a, a < 9 → ∀ b, b < 9 → a ≠ b → (TX5 a).2.1 ≠ (TX5 b).2.1 := by decide +kernel
theorem tyX5_ok : ∀ k, k < 9 → parseFieldDescriptor (TX5 k).2.2.1 = some (tyX5 k) := by decide +kernel
abbrev cX5_init : ByteArray := prog_1_method_1_code
def yX5_init : MethodName := ⟨RX5, "<init>", "()V"⟩
abbrev cX5_rule : ByteArray := prog_1_method_3_code
def yX5_rule : MethodName := ⟨RX5, "rule", "(ICZ)Z"⟩
abbrev cX5_holds : ByteArray := prog_1_method_4_code
def yX5_holds : MethodName := ⟨RX5, "holds", "(IC)Z"⟩
abbrev cX5_copy : ByteArray := prog_1_method_5_code
def yX5_copy : MethodName := ⟨RX5, "copy", "(I)I"⟩
abbrev cX5_unlike : ByteArray := prog_1_method_6_code
def yX5_unlike : MethodName := ⟨RX5, "unlike", "(II)I"⟩
abbrev cX5_parent : ByteArray := prog_1_method_7_code
def yX5_parent : MethodName := ⟨RX5, "parent", "(I)I"⟩
abbrev cX5_start : ByteArray := prog_1_method_8_code
def yX5_start : MethodName := ⟨RX5, "start", "(I)I"⟩
abbrev cX5_give : ByteArray := prog_1_method_9_code
def yX5_give : MethodName := ⟨RX5, "give", "(II)I"⟩
abbrev cX5_move : ByteArray := prog_1_method_10_code
def yX5_move : MethodName := ⟨RX5, "move", "(I)I"⟩
abbrev cX5_barred : ByteArray := prog_1_method_11_code
def yX5_barred : MethodName := ⟨RX5, "barred", "(I)C"⟩
abbrev cX5_moves : ByteArray := prog_1_method_12_code
def yX5_moves : MethodName := ⟨RX5, "moves", "()I"⟩
abbrev cX5_undo : ByteArray := prog_1_method_13_code
def yX5_undo : MethodName := ⟨RX5, "undo", "()I"⟩
abbrev cX5_seeds : ByteArray := prog_1_method_14_code
def yX5_seeds : MethodName := ⟨RX5, "seeds", "(I)I"⟩
abbrev cX5_store : ByteArray := prog_1_method_15_code
def yX5_store : MethodName := ⟨RX5, "store", "(I)I"⟩
abbrev cX5_turn : ByteArray := prog_1_method_16_code
def yX5_turn : MethodName := ⟨RX5, "turn", "()I"⟩
abbrev cX5_isOver : ByteArray := prog_1_method_17_code
def yX5_isOver : MethodName := ⟨RX5, "isOver", "()Z"⟩
abbrev cX5_winner : ByteArray := prog_1_method_18_code
def yX5_winner : MethodName := ⟨RX5, "winner", "()I"⟩
abbrev cX5_laps : ByteArray := prog_1_method_19_code
def yX5_laps : MethodName := ⟨RX5, "laps", "()I"⟩
abbrev cX5_length : ByteArray := prog_1_method_20_code
def yX5_length : MethodName := ⟨RX5, "length", "()I"⟩
abbrev cX5_times : ByteArray := prog_1_method_21_code
def yX5_times : MethodName := ⟨RX5, "times", "()I"⟩
abbrev cX5_number : ByteArray := prog_1_method_23_code
def yX5_number : MethodName := ⟨RX5, "number", "()J"⟩
abbrev cX5_value : ByteArray := prog_1_method_25_code
def yX5_value : MethodName := ⟨RX5, "value", "(I)I"⟩
abbrev cX5_best : ByteArray := prog_1_method_26_code
def yX5_best : MethodName := ⟨RX5, "best", "(I)I"⟩
abbrev cX5_blunder : ByteArray := prog_1_method_27_code
def yX5_blunder : MethodName := ⟨RX5, "blunder", "(II)I"⟩
abbrev cX5_isPuzzle : ByteArray := prog_1_method_28_code
def yX5_isPuzzle : MethodName := ⟨RX5, "isPuzzle", "(I)Z"⟩
abbrev cX5_play : ByteArray := prog_1_method_29_code
def yX5_play : MethodName := ⟨RX5, "play", "(IC)I"⟩
abbrev cX5_explains : ByteArray := prog_1_method_32_code
def yX5_explains : MethodName := ⟨RX5, "explains", "(I)I"⟩
abbrev cX5_line : ByteArray := prog_1_method_34_code
def yX5_line : MethodName := ⟨RX5, "line", "()I"⟩
abbrev cX5_sign : ByteArray := prog_1_method_35_code
def yX5_sign : MethodName := ⟨RX5, "sign", "(I)C"⟩
abbrev cX5_freeShare : ByteArray := prog_1_method_37_code
def yX5_freeShare : MethodName := ⟨RX5, "freeShare", "()F"⟩
abbrev cX5_meanUnlike : ByteArray := prog_1_method_38_code
def yX5_meanUnlike : MethodName := ⟨RX5, "meanUnlike", "()D"⟩
abbrev cX5_isWithin : ByteArray := prog_1_method_40_code
def yX5_isWithin : MethodName := ⟨RX5, "isWithin", "(III)Z"⟩
abbrev cX5_needKind : ByteArray := prog_1_method_42_code
def yX5_needKind : MethodName := ⟨RX5, "needKind", "(I)V"⟩
abbrev cX5_needBegun : ByteArray := prog_1_method_44_code
def yX5_needBegun : MethodName := ⟨RX5, "needBegun", "()V"⟩
abbrev cX5_needGameOn : ByteArray := prog_1_method_45_code
def yX5_needGameOn : MethodName := ⟨RX5, "needGameOn", "()V"⟩
def RX6 : String := "SowingcourtModel$Game"
def TX6 : u_T := fun k => match k with
  | 0 => ("SowingcourtModel$Game", "path", "Ljava/util/List;", true)
  | 1 => ("SowingcourtModel$Game", "now", "LSowingcourtModel$Position;", false)
  | _ => ("SowingcourtModel$Game", "moved", "Z", false)
def RX7 : String := "SowingcourtModel$Kind"
def TX7 : u_T := fun k => match k with
  | 0 => ("SowingcourtModel$Kind", "holes", "I", false)
  | 1 => ("SowingcourtModel$Kind", "seeds", "I", false)
  | 2 => ("SowingcourtModel$Kind", "lap", "C", false)
  | 3 => ("SowingcourtModel$Kind", "capture", "C", false)
  | _ => ("SowingcourtModel$Kind", "things", "I", false)
def yX7_init : MethodName := ⟨RX7, "<init>", "()V"⟩
def RX8 : String := "SowingcourtModel$Position"
def TX8 : u_T := fun k => match k with
  | 0 => ("SowingcourtModel$Position", "kind", "LSowingcourtModel$Kind;", true)
  | 1 => ("SowingcourtModel$Position", "holes", "[I", true)
  | 2 => ("SowingcourtModel$Position", "stores", "[I", true)
  | 3 => ("SowingcourtModel$Position", "turn", "I", false)
  | 4 => ("SowingcourtModel$Position", "hole", "I", false)
  | 5 => ("SowingcourtModel$Position", "laps", "I", false)
  | 6 => ("SowingcourtModel$Position", "gain", "I", false)
  | _ => ("SowingcourtModel$Position", "over", "Z", false)
def RX9 : String := "SowingcourtModel"
def TX9 : u_T := fun k => match k with
  | 0 => ("SowingcourtModel", "thrown", "I", false)
  | 1 => ("SowingcourtModel", "kinds", "Ljava/util/List;", true)
  | 2 => ("SowingcourtModel", "game", "LSowingcourtModel$Game;", false)
  | _ => ("SowingcourtModel", "typed", "Ljava/util/List;", true)
def RJ5 : String := "java/lang/AbstractStringBuilder"
abbrev cJ5_init_d00df : ByteArray := prog_13_method_2_code
def yJ5_init_d00df : MethodName := ⟨RJ5, "<init>", "(I)V"⟩
def RJx00060 : String := "java/lang/ArrayIndexOutOfBoundsException"
def TJx00060 : u_T := fun k => match k with
  | 0 => ("java/lang/Throwable", "backtrace", "Ljava/lang/Object;", false)
  | 1 => ("java/lang/Throwable", "detailMessage", "Ljava/lang/String;", false)
  | 2 => ("java/lang/Throwable", "cause", "Ljava/lang/Throwable;", false)
  | 3 => ("java/lang/Throwable", "stackTrace", "[Ljava/lang/StackTraceElement;", false)
  | 4 => ("java/lang/Throwable", "depth", "I", false)
  | _ => ("java/lang/Throwable", "suppressedExceptions", "Ljava/util/List;", false)
def RJ6 : String := "java/lang/Integer"
def TJ6 : u_T := fun k => match k with
  | _ => ("java/lang/Integer", "value", "I", true)
def RJ0 : String := "java/lang/String"
def TJ0 : u_T := fun k => match k with
  | 0 => ("java/lang/String", "value", "[B", true)
  | 1 => ("java/lang/String", "coder", "B", true)
  | 2 => ("java/lang/String", "hash", "I", false)
  | _ => ("java/lang/String", "hashIsZero", "Z", false)
def RJ4 : String := "java/lang/StringBuilder"
def TJ4 : u_T := fun k => match k with
  | 0 => ("java/lang/AbstractStringBuilder", "value", "[B", false)
  | 1 => ("java/lang/AbstractStringBuilder", "coder", "B", false)
  | 2 => ("java/lang/AbstractStringBuilder", "maybeLatin1", "Z", false)
  | _ => ("java/lang/AbstractStringBuilder", "count", "I", false)
def tyJ4 : Nat → FieldType := fun k => match k with
  | 0 => .array .byte
  | 1 => .byte
  | 2 => .boolean
  | _ => .int
abbrev wsJ40 : List Cond := u_ws RJ4 TJ4 4
theorem nmJ4 : ∀ a, a < 4 → ∀ b, b < 4 → a ≠ b → (TJ4 a).2.1 ≠ (TJ4 b).2.1 := by decide +kernel
theorem tyJ4_ok : ∀ k, k < 4 → parseFieldDescriptor (TJ4 k).2.2.1 = some (tyJ4 k) := by decide +kernel
abbrev cJ4_init_da8c8 : ByteArray := prog_32_method_1_code
def yJ4_init_da8c8 : MethodName := ⟨RJ4, "<init>", "()V"⟩
def RJx7c733 : String := "java/lang/StringIndexOutOfBoundsException"
def TJx7c733 : u_T := fun k => match k with
  | 0 => ("java/lang/Throwable", "backtrace", "Ljava/lang/Object;", false)
  | 1 => ("java/lang/Throwable", "detailMessage", "Ljava/lang/String;", false)
  | 2 => ("java/lang/Throwable", "cause", "Ljava/lang/Throwable;", false)
  | 3 => ("java/lang/Throwable", "stackTrace", "[Ljava/lang/StackTraceElement;", false)
  | 4 => ("java/lang/Throwable", "depth", "I", false)
  | _ => ("java/lang/Throwable", "suppressedExceptions", "Ljava/util/List;", false)
def RJx35411 : String := "java/util/ArrayList$Itr"
def TJx35411 : u_T := fun k => match k with
  | 0 => ("java/util/ArrayList$Itr", "cursor", "I", false)
  | 1 => ("java/util/ArrayList$Itr", "lastRet", "I", false)
  | 2 => ("java/util/ArrayList$Itr", "expectedModCount", "I", false)
  | _ => ("java/util/ArrayList$Itr", "this$0", "Ljava/util/ArrayList;", true)
def RJx4a65c : String := "java/util/ArrayList"
def TJx4a65c : u_T := fun k => match k with
  | 0 => ("java/util/AbstractList", "modCount", "I", false)
  | 1 => ("java/util/ArrayList", "elementData", "[Ljava/lang/Object;", false)
  | _ => ("java/util/ArrayList", "size", "I", false)
def yJx4a65c_size_8abf5 : MethodName := ⟨RJx4a65c, "size", "()I"⟩
def yJx4a65c_isEmpty_aae02 : MethodName := ⟨RJx4a65c, "isEmpty", "()Z"⟩
def yJx4a65c_add_9ea2d : MethodName := ⟨RJx4a65c, "add", "(Ljava/lang/Object;)Z"⟩
def yJx4a65c_clear_da8c8 : MethodName := ⟨RJx4a65c, "clear", "()V"⟩
theorem dX0_init_0 : decode cX0_init 0 = .ok (.aload_n 0, 1) := by decide +kernel
theorem dX0_init_1 : decode cX0_init 1 = .ok (.invokespecial 3, 3) := by decide +kernel
theorem dX0_init_4 : decode cX0_init 4 = .ok (.aload_n 0, 1) := by decide +kernel
theorem dX0_init_5 : decode cX0_init 5 = .ok (.bipush 13, 2) := by decide +kernel
theorem dX0_init_7 : decode cX0_init 7 = .ok (.newarray .int, 2) := by decide +kernel
theorem dX0_init_9 : decode cX0_init 9 = .ok (.putfield 11, 3) := by decide +kernel
theorem dX0_init_12 : decode cX0_init 12 = .ok (.aload_n 0, 1) := by decide +kernel
theorem dX0_init_13 : decode cX0_init 13 = .ok (.aload_n 1, 1) := by decide +kernel
theorem dX0_init_14 : decode cX0_init 14 = .ok (.putfield 15, 3) := by decide +kernel
theorem dX0_init_17 : decode cX0_init 17 = .ok (.return_, 1) := by decide +kernel
theorem dX1_init_0 : decode cX1_init 0 = .ok (.aload_n 0, 1) := by decide +kernel
theorem dX1_init_1 : decode cX1_init 1 = .ok (.invokespecial 3, 3) := by decide +kernel
theorem dX1_init_4 : decode cX1_init 4 = .ok (.aload_n 0, 1) := by decide +kernel
theorem dX1_init_5 : decode cX1_init 5 = .ok (.new 9, 3) := by decide +kernel
theorem dX1_init_8 : decode cX1_init 8 = .ok (.dup, 1) := by decide +kernel
theorem dX1_init_9 : decode cX1_init 9 = .ok (.invokespecial 11, 3) := by decide +kernel
theorem dX1_init_12 : decode cX1_init 12 = .ok (.putfield 12, 3) := by decide +kernel
theorem dX1_init_15 : decode cX1_init 15 = .ok (.aload_n 0, 1) := by decide +kernel
theorem dX1_init_16 : decode cX1_init 16 = .ok (.new 18, 3) := by decide +kernel
theorem dX1_init_19 : decode cX1_init 19 = .ok (.dup, 1) := by decide +kernel
theorem dX1_init_20 : decode cX1_init 20 = .ok (.aload_n 0, 1) := by decide +kernel
theorem dX1_init_21 : decode cX1_init 21 = .ok (.getfield 12, 3) := by decide +kernel
theorem dX1_init_24 : decode cX1_init 24 = .ok (.invokespecial 20, 3) := by decide +kernel
theorem dX1_init_27 : decode cX1_init 27 = .ok (.putfield 23, 3) := by decide +kernel
theorem dX1_init_30 : decode cX1_init 30 = .ok (.aload_n 0, 1) := by decide +kernel
theorem dX1_init_31 : decode cX1_init 31 = .ok (.new 18, 3) := by decide +kernel
theorem dX1_init_34 : decode cX1_init 34 = .ok (.dup, 1) := by decide +kernel
theorem dX1_init_35 : decode cX1_init 35 = .ok (.aload_n 0, 1) := by decide +kernel
theorem dX1_init_36 : decode cX1_init 36 = .ok (.getfield 12, 3) := by decide +kernel
theorem dX1_init_39 : decode cX1_init 39 = .ok (.invokespecial 20, 3) := by decide +kernel
theorem dX1_init_42 : decode cX1_init 42 = .ok (.putfield 27, 3) := by decide +kernel
theorem dX1_init_45 : decode cX1_init 45 = .ok (.aload_n 0, 1) := by decide +kernel
theorem dX1_init_46 : decode cX1_init 46 = .ok (.sipush 6669, 3) := by decide +kernel
theorem dX1_init_49 : decode cX1_init 49 = .ok (.newarray .int, 2) := by decide +kernel
theorem dX1_init_51 : decode cX1_init 51 = .ok (.putfield 30, 3) := by decide +kernel
theorem dX1_init_54 : decode cX1_init 54 = .ok (.aload_n 0, 1) := by decide +kernel
theorem dX1_init_55 : decode cX1_init 55 = .ok (.sipush 512, 3) := by decide +kernel
theorem dX1_init_58 : decode cX1_init 58 = .ok (.newarray .int, 2) := by decide +kernel
theorem dX1_init_60 : decode cX1_init 60 = .ok (.putfield 34, 3) := by decide +kernel
theorem dX1_init_63 : decode cX1_init 63 = .ok (.aload_n 0, 1) := by decide +kernel
theorem dX1_init_64 : decode cX1_init 64 = .ok (.sipush 512, 3) := by decide +kernel
theorem dX1_init_67 : decode cX1_init 67 = .ok (.newarray .int, 2) := by decide +kernel
theorem dX1_init_69 : decode cX1_init 69 = .ok (.putfield 37, 3) := by decide +kernel
theorem dX1_init_72 : decode cX1_init 72 = .ok (.return_, 1) := by decide +kernel
theorem dX2_init_0 : decode cX2_init 0 = .ok (.aload_n 0, 1) := by decide +kernel
theorem dX2_init_1 : decode cX2_init 1 = .ok (.invokespecial 3, 3) := by decide +kernel
theorem dX2_init_4 : decode cX2_init 4 = .ok (.aload_n 0, 1) := by decide +kernel
theorem dX2_init_5 : decode cX2_init 5 = .ok (.iconst 2, 1) := by decide +kernel
theorem dX2_init_6 : decode cX2_init 6 = .ok (.putfield 9, 3) := by decide +kernel
theorem dX2_init_9 : decode cX2_init 9 = .ok (.aload_n 0, 1) := by decide +kernel
theorem dX2_init_10 : decode cX2_init 10 = .ok (.iconst 1, 1) := by decide +kernel
theorem dX2_init_11 : decode cX2_init 11 = .ok (.putfield 15, 3) := by decide +kernel
theorem dX2_init_14 : decode cX2_init 14 = .ok (.aload_n 0, 1) := by decide +kernel
theorem dX2_init_15 : decode cX2_init 15 = .ok (.bipush 115, 2) := by decide +kernel
theorem dX2_init_17 : decode cX2_init 17 = .ok (.putfield 18, 3) := by decide +kernel
theorem dX2_init_20 : decode cX2_init 20 = .ok (.aload_n 0, 1) := by decide +kernel
theorem dX2_init_21 : decode cX2_init 21 = .ok (.bipush 110, 2) := by decide +kernel
theorem dX2_init_23 : decode cX2_init 23 = .ok (.putfield 22, 3) := by decide +kernel
theorem dX2_init_26 : decode cX2_init 26 = .ok (.aload_n 0, 1) := by decide +kernel
theorem dX2_init_27 : decode cX2_init 27 = .ok (.iconst 5, 1) := by decide +kernel
theorem dX2_init_28 : decode cX2_init 28 = .ok (.newarray .boolean, 2) := by decide +kernel
theorem dX2_init_30 : decode cX2_init 30 = .ok (.putfield 25, 3) := by decide +kernel
theorem dX2_init_33 : decode cX2_init 33 = .ok (.return_, 1) := by decide +kernel
theorem dX3_init_0 : decode cX3_init 0 = .ok (.aload_n 0, 1) := by decide +kernel
theorem dX3_init_1 : decode cX3_init 1 = .ok (.invokespecial 3, 3) := by decide +kernel
theorem dX3_init_4 : decode cX3_init 4 = .ok (.aload_n 0, 1) := by decide +kernel
theorem dX3_init_5 : decode cX3_init 5 = .ok (.bipush 11, 2) := by decide +kernel
theorem dX3_init_7 : decode cX3_init 7 = .ok (.bipush 91, 2) := by decide +kernel
theorem dX3_init_9 : decode cX3_init 9 = .ok (.multianewarray 9 2, 4) := by decide +kernel
theorem dX3_init_13 : decode cX3_init 13 = .ok (.putfield 11, 3) := by decide +kernel
theorem dX3_init_16 : decode cX3_init 16 = .ok (.aload_n 0, 1) := by decide +kernel
theorem dX3_init_17 : decode cX3_init 17 = .ok (.getfield 11, 3) := by decide +kernel
theorem dX3_init_20 : decode cX3_init 20 = .ok (.iconst 0, 1) := by decide +kernel
theorem dX3_init_21 : decode cX3_init 21 = .ok (.aaload, 1) := by decide +kernel
theorem dX3_init_22 : decode cX3_init 22 = .ok (.iconst 0, 1) := by decide +kernel
theorem dX3_init_23 : decode cX3_init 23 = .ok (.lconst 1, 1) := by decide +kernel
theorem dX3_init_24 : decode cX3_init 24 = .ok (.lastore, 1) := by decide +kernel
theorem dX3_init_25 : decode cX3_init 25 = .ok (.iconst 1, 1) := by decide +kernel
theorem dX3_init_26 : decode cX3_init 26 = .ok (.istore_n 1, 1) := by decide +kernel
theorem dX3_init_27 : decode cX3_init 27 = .ok (.iload_n 1, 1) := by decide +kernel
theorem dX3_init_28 : decode cX3_init 28 = .ok (.bipush 10, 2) := by decide +kernel
theorem dX3_init_30 : decode cX3_init 30 = .ok (.if_icmp .gt 70, 3) := by decide +kernel
theorem dX3_init_33 : decode cX3_init 33 = .ok (.aload_n 0, 1) := by decide +kernel
theorem dX3_init_34 : decode cX3_init 34 = .ok (.getfield 11, 3) := by decide +kernel
theorem dX3_init_37 : decode cX3_init 37 = .ok (.iload_n 1, 1) := by decide +kernel
theorem dX3_init_38 : decode cX3_init 38 = .ok (.aaload, 1) := by decide +kernel
theorem dX3_init_39 : decode cX3_init 39 = .ok (.iconst 0, 1) := by decide +kernel
theorem dX3_init_40 : decode cX3_init 40 = .ok (.aload_n 0, 1) := by decide +kernel
theorem dX3_init_41 : decode cX3_init 41 = .ok (.getfield 11, 3) := by decide +kernel
theorem dX3_init_44 : decode cX3_init 44 = .ok (.iload_n 1, 1) := by decide +kernel
theorem dX3_init_45 : decode cX3_init 45 = .ok (.iconst 1, 1) := by decide +kernel
theorem dX3_init_46 : decode cX3_init 46 = .ok (.isub, 1) := by decide +kernel
theorem dX3_init_47 : decode cX3_init 47 = .ok (.aaload, 1) := by decide +kernel
theorem dX3_init_48 : decode cX3_init 48 = .ok (.iconst 0, 1) := by decide +kernel
theorem dX3_init_49 : decode cX3_init 49 = .ok (.laload, 1) := by decide +kernel
theorem dX3_init_50 : decode cX3_init 50 = .ok (.lastore, 1) := by decide +kernel
theorem dX3_init_51 : decode cX3_init 51 = .ok (.iconst 1, 1) := by decide +kernel
theorem dX3_init_52 : decode cX3_init 52 = .ok (.istore_n 2, 1) := by decide +kernel
theorem dX3_init_53 : decode cX3_init 53 = .ok (.iload_n 2, 1) := by decide +kernel
theorem dX3_init_54 : decode cX3_init 54 = .ok (.bipush 90, 2) := by decide +kernel
theorem dX3_init_56 : decode cX3_init 56 = .ok (.if_icmp .gt 38, 3) := by decide +kernel
theorem dX3_init_59 : decode cX3_init 59 = .ok (.aload_n 0, 1) := by decide +kernel
theorem dX3_init_60 : decode cX3_init 60 = .ok (.getfield 11, 3) := by decide +kernel
theorem dX3_init_63 : decode cX3_init 63 = .ok (.iload_n 1, 1) := by decide +kernel
theorem dX3_init_64 : decode cX3_init 64 = .ok (.aaload, 1) := by decide +kernel
theorem dX3_init_65 : decode cX3_init 65 = .ok (.iload_n 2, 1) := by decide +kernel
theorem dX3_init_66 : decode cX3_init 66 = .ok (.aload_n 0, 1) := by decide +kernel
theorem dX3_init_67 : decode cX3_init 67 = .ok (.getfield 11, 3) := by decide +kernel
theorem dX3_init_70 : decode cX3_init 70 = .ok (.iload_n 1, 1) := by decide +kernel
theorem dX3_init_71 : decode cX3_init 71 = .ok (.aaload, 1) := by decide +kernel
theorem dX3_init_72 : decode cX3_init 72 = .ok (.iload_n 2, 1) := by decide +kernel
theorem dX3_init_73 : decode cX3_init 73 = .ok (.iconst 1, 1) := by decide +kernel
theorem dX3_init_74 : decode cX3_init 74 = .ok (.isub, 1) := by decide +kernel
theorem dX3_init_75 : decode cX3_init 75 = .ok (.laload, 1) := by decide +kernel
theorem dX3_init_76 : decode cX3_init 76 = .ok (.aload_n 0, 1) := by decide +kernel
theorem dX3_init_77 : decode cX3_init 77 = .ok (.getfield 11, 3) := by decide +kernel
theorem dX3_init_80 : decode cX3_init 80 = .ok (.iload_n 1, 1) := by decide +kernel
theorem dX3_init_81 : decode cX3_init 81 = .ok (.iconst 1, 1) := by decide +kernel
theorem dX3_init_82 : decode cX3_init 82 = .ok (.isub, 1) := by decide +kernel
theorem dX3_init_83 : decode cX3_init 83 = .ok (.aaload, 1) := by decide +kernel
theorem dX3_init_84 : decode cX3_init 84 = .ok (.iload_n 2, 1) := by decide +kernel
theorem dX3_init_85 : decode cX3_init 85 = .ok (.laload, 1) := by decide +kernel
theorem dX3_init_86 : decode cX3_init 86 = .ok (.ladd, 1) := by decide +kernel
theorem dX3_init_87 : decode cX3_init 87 = .ok (.lastore, 1) := by decide +kernel
theorem dX3_init_88 : decode cX3_init 88 = .ok (.iinc 2 1, 3) := by decide +kernel
theorem dX3_init_91 : decode cX3_init 91 = .ok (.goto (-38), 3) := by decide +kernel
theorem dX3_init_94 : decode cX3_init 94 = .ok (.iinc 1 1, 3) := by decide +kernel
theorem dX3_init_97 : decode cX3_init 97 = .ok (.goto (-70), 3) := by decide +kernel
theorem dX3_init_100 : decode cX3_init 100 = .ok (.return_, 1) := by decide +kernel
theorem dX3_seedsAt_12 : decode cX3_seedsAt 12 = .ok (.iload 10, 2) := by decide +kernel
theorem dX3_seedsAt_14 : decode cX3_seedsAt 14 = .ok (.iload 5, 2) := by decide +kernel
theorem dX3_seedsAt_16 : decode cX3_seedsAt 16 = .ok (.if_icmp .gt 77, 3) := by decide +kernel
theorem dX3_seedsAt_19 : decode cX3_seedsAt 19 = .ok (.iload 8, 2) := by decide +kernel
theorem dX3_seedsAt_21 : decode cX3_seedsAt 21 = .ok (.iload 9, 2) := by decide +kernel
theorem dX3_seedsAt_23 : decode cX3_seedsAt 23 = .ok (.isub, 1) := by decide +kernel
theorem dX3_seedsAt_24 : decode cX3_seedsAt 24 = .ok (.istore 8, 2) := by decide +kernel
theorem dX3_seedsAt_26 : decode cX3_seedsAt 26 = .ok (.iconst 0, 1) := by decide +kernel
theorem dX3_seedsAt_27 : decode cX3_seedsAt 27 = .ok (.istore 9, 2) := by decide +kernel
theorem dX3_seedsAt_29 : decode cX3_seedsAt 29 = .ok (.iload 9, 2) := by decide +kernel
theorem dX3_seedsAt_31 : decode cX3_seedsAt 31 = .ok (.iload 8, 2) := by decide +kernel
theorem dX3_seedsAt_33 : decode cX3_seedsAt 33 = .ok (.if_icmp .ge 54, 3) := by decide +kernel
theorem dX3_seedsAt_36 : decode cX3_seedsAt 36 = .ok (.lload 6, 2) := by decide +kernel
theorem dX3_seedsAt_38 : decode cX3_seedsAt 38 = .ok (.aload_n 0, 1) := by decide +kernel
theorem dX3_seedsAt_39 : decode cX3_seedsAt 39 = .ok (.getfield 11, 3) := by decide +kernel
theorem dX3_seedsAt_42 : decode cX3_seedsAt 42 = .ok (.iload_n 1, 1) := by decide +kernel
theorem dX3_seedsAt_43 : decode cX3_seedsAt 43 = .ok (.iconst 1, 1) := by decide +kernel
theorem dX3_seedsAt_44 : decode cX3_seedsAt 44 = .ok (.isub, 1) := by decide +kernel
theorem dX3_seedsAt_45 : decode cX3_seedsAt 45 = .ok (.iload 10, 2) := by decide +kernel
theorem dX3_seedsAt_47 : decode cX3_seedsAt 47 = .ok (.isub, 1) := by decide +kernel
theorem dX3_seedsAt_48 : decode cX3_seedsAt 48 = .ok (.aaload, 1) := by decide +kernel
theorem dX3_seedsAt_49 : decode cX3_seedsAt 49 = .ok (.iload 8, 2) := by decide +kernel
theorem dX3_seedsAt_51 : decode cX3_seedsAt 51 = .ok (.iload 9, 2) := by decide +kernel
theorem dX3_seedsAt_53 : decode cX3_seedsAt 53 = .ok (.isub, 1) := by decide +kernel
theorem dX3_seedsAt_54 : decode cX3_seedsAt 54 = .ok (.laload, 1) := by decide +kernel
theorem dX3_seedsAt_55 : decode cX3_seedsAt 55 = .ok (.lcmp, 1) := by decide +kernel
theorem dX3_seedsAt_56 : decode cX3_seedsAt 56 = .ok (.ifCond .lt 31, 3) := by decide +kernel
theorem dX3_seedsAt_59 : decode cX3_seedsAt 59 = .ok (.lload 6, 2) := by decide +kernel
theorem dX3_seedsAt_61 : decode cX3_seedsAt 61 = .ok (.aload_n 0, 1) := by decide +kernel
theorem dX3_seedsAt_62 : decode cX3_seedsAt 62 = .ok (.getfield 11, 3) := by decide +kernel
theorem dX3_seedsAt_65 : decode cX3_seedsAt 65 = .ok (.iload_n 1, 1) := by decide +kernel
theorem dX3_seedsAt_66 : decode cX3_seedsAt 66 = .ok (.iconst 1, 1) := by decide +kernel
theorem dX3_seedsAt_67 : decode cX3_seedsAt 67 = .ok (.isub, 1) := by decide +kernel
theorem dX3_seedsAt_68 : decode cX3_seedsAt 68 = .ok (.iload 10, 2) := by decide +kernel
theorem dX3_seedsAt_70 : decode cX3_seedsAt 70 = .ok (.isub, 1) := by decide +kernel
theorem dX3_seedsAt_71 : decode cX3_seedsAt 71 = .ok (.aaload, 1) := by decide +kernel
theorem dX3_seedsAt_72 : decode cX3_seedsAt 72 = .ok (.iload 8, 2) := by decide +kernel
theorem dX3_seedsAt_74 : decode cX3_seedsAt 74 = .ok (.iload 9, 2) := by decide +kernel
theorem dX3_seedsAt_76 : decode cX3_seedsAt 76 = .ok (.isub, 1) := by decide +kernel
theorem dX3_seedsAt_77 : decode cX3_seedsAt 77 = .ok (.laload, 1) := by decide +kernel
theorem dX3_seedsAt_78 : decode cX3_seedsAt 78 = .ok (.lsub, 1) := by decide +kernel
theorem dX3_seedsAt_79 : decode cX3_seedsAt 79 = .ok (.lstore 6, 2) := by decide +kernel
theorem dX3_seedsAt_81 : decode cX3_seedsAt 81 = .ok (.iinc 9 1, 3) := by decide +kernel
theorem dX3_seedsAt_84 : decode cX3_seedsAt 84 = .ok (.goto (-55), 3) := by decide +kernel
theorem dX3_seedsAt_87 : decode cX3_seedsAt 87 = .ok (.iinc 10 1, 3) := by decide +kernel
theorem dX3_seedsAt_90 : decode cX3_seedsAt 90 = .ok (.goto (-78), 3) := by decide +kernel
theorem dX4_init_0 : decode cX4_init 0 = .ok (.aload_n 0, 1) := by decide +kernel
theorem dX4_init_1 : decode cX4_init 1 = .ok (.invokespecial 3, 3) := by decide +kernel
theorem dX4_init_4 : decode cX4_init 4 = .ok (.aload_n 0, 1) := by decide +kernel
theorem dX4_init_5 : decode cX4_init 5 = .ok (.bipush 6, 2) := by decide +kernel
theorem dX4_init_7 : decode cX4_init 7 = .ok (.anewarray 9, 3) := by decide +kernel
theorem dX4_init_10 : decode cX4_init 10 = .ok (.putfield 11, 3) := by decide +kernel
theorem dX4_init_13 : decode cX4_init 13 = .ok (.aload_n 0, 1) := by decide +kernel
theorem dX4_init_14 : decode cX4_init 14 = .ok (.bipush 10, 2) := by decide +kernel
theorem dX4_init_16 : decode cX4_init 16 = .ok (.newarray .boolean, 2) := by decide +kernel
theorem dX4_init_18 : decode cX4_init 18 = .ok (.putfield 17, 3) := by decide +kernel
theorem dX4_init_21 : decode cX4_init 21 = .ok (.aload_n 0, 1) := by decide +kernel
theorem dX4_init_22 : decode cX4_init 22 = .ok (.bipush 10, 2) := by decide +kernel
theorem dX4_init_24 : decode cX4_init 24 = .ok (.newarray .int, 2) := by decide +kernel
theorem dX4_init_26 : decode cX4_init 26 = .ok (.putfield 21, 3) := by decide +kernel
theorem dX4_init_29 : decode cX4_init 29 = .ok (.iconst 0, 1) := by decide +kernel
theorem dX4_init_30 : decode cX4_init 30 = .ok (.istore_n 2, 1) := by decide +kernel
theorem dX4_init_31 : decode cX4_init 31 = .ok (.iload_n 2, 1) := by decide +kernel
theorem dX4_init_32 : decode cX4_init 32 = .ok (.iconst 5, 1) := by decide +kernel
theorem dX4_init_33 : decode cX4_init 33 = .ok (.if_icmp .gt 23, 3) := by decide +kernel
theorem dX4_init_36 : decode cX4_init 36 = .ok (.aload_n 0, 1) := by decide +kernel
theorem dX4_init_37 : decode cX4_init 37 = .ok (.getfield 11, 3) := by decide +kernel
theorem dX4_init_40 : decode cX4_init 40 = .ok (.iload_n 2, 1) := by decide +kernel
theorem dX4_init_41 : decode cX4_init 41 = .ok (.new 9, 3) := by decide +kernel
theorem dX4_init_44 : decode cX4_init 44 = .ok (.dup, 1) := by decide +kernel
theorem dX4_init_45 : decode cX4_init 45 = .ok (.aload_n 1, 1) := by decide +kernel
theorem dX4_init_46 : decode cX4_init 46 = .ok (.invokespecial 25, 3) := by decide +kernel
theorem dX4_init_49 : decode cX4_init 49 = .ok (.aastore, 1) := by decide +kernel
theorem dX4_init_50 : decode cX4_init 50 = .ok (.iinc 2 1, 3) := by decide +kernel
theorem dX4_init_53 : decode cX4_init 53 = .ok (.goto (-22), 3) := by decide +kernel
theorem dX4_init_56 : decode cX4_init 56 = .ok (.return_, 1) := by decide +kernel
theorem dX5_init_0 : decode cX5_init 0 = .ok (.aload_n 0, 1) := by decide +kernel
theorem dX5_init_1 : decode cX5_init 1 = .ok (.invokespecial 1, 3) := by decide +kernel
theorem dX5_init_4 : decode cX5_init 4 = .ok (.aload_n 0, 1) := by decide +kernel
theorem dX5_init_5 : decode cX5_init 5 = .ok (.bipush 6, 2) := by decide +kernel
theorem dX5_init_7 : decode cX5_init 7 = .ok (.anewarray 9, 3) := by decide +kernel
theorem dX5_init_10 : decode cX5_init 10 = .ok (.putfield 11, 3) := by decide +kernel
theorem dX5_init_13 : decode cX5_init 13 = .ok (.iconst 0, 1) := by decide +kernel
theorem dX5_init_14 : decode cX5_init 14 = .ok (.istore_n 1, 1) := by decide +kernel
theorem dX5_init_15 : decode cX5_init 15 = .ok (.iload_n 1, 1) := by decide +kernel
theorem dX5_init_16 : decode cX5_init 16 = .ok (.bipush 6, 2) := by decide +kernel
theorem dX5_init_18 : decode cX5_init 18 = .ok (.if_icmp .ge 22, 3) := by decide +kernel
theorem dX5_init_21 : decode cX5_init 21 = .ok (.aload_n 0, 1) := by decide +kernel
theorem dX5_init_22 : decode cX5_init 22 = .ok (.getfield 11, 3) := by decide +kernel
theorem dX5_init_25 : decode cX5_init 25 = .ok (.iload_n 1, 1) := by decide +kernel
theorem dX5_init_26 : decode cX5_init 26 = .ok (.new 9, 3) := by decide +kernel
theorem dX5_init_29 : decode cX5_init 29 = .ok (.dup, 1) := by decide +kernel
theorem dX5_init_30 : decode cX5_init 30 = .ok (.invokespecial 15, 3) := by decide +kernel
theorem dX5_init_33 : decode cX5_init 33 = .ok (.aastore, 1) := by decide +kernel
theorem dX5_init_34 : decode cX5_init 34 = .ok (.iinc 1 1, 3) := by decide +kernel
theorem dX5_init_37 : decode cX5_init 37 = .ok (.goto (-22), 3) := by decide +kernel
theorem dX5_init_40 : decode cX5_init 40 = .ok (.aload_n 0, 1) := by decide +kernel
theorem dX5_init_41 : decode cX5_init 41 = .ok (.new 16, 3) := by decide +kernel
theorem dX5_init_44 : decode cX5_init 44 = .ok (.dup, 1) := by decide +kernel
theorem dX5_init_45 : decode cX5_init 45 = .ok (.invokespecial 18, 3) := by decide +kernel
theorem dX5_init_48 : decode cX5_init 48 = .ok (.putfield 19, 3) := by decide +kernel
theorem dX5_init_51 : decode cX5_init 51 = .ok (.aload_n 0, 1) := by decide +kernel
theorem dX5_init_52 : decode cX5_init 52 = .ok (.new 16, 3) := by decide +kernel
theorem dX5_init_55 : decode cX5_init 55 = .ok (.dup, 1) := by decide +kernel
theorem dX5_init_56 : decode cX5_init 56 = .ok (.invokespecial 18, 3) := by decide +kernel
theorem dX5_init_59 : decode cX5_init 59 = .ok (.putfield 23, 3) := by decide +kernel
theorem dX5_init_62 : decode cX5_init 62 = .ok (.aload_n 0, 1) := by decide +kernel
theorem dX5_init_63 : decode cX5_init 63 = .ok (.new 26, 3) := by decide +kernel
theorem dX5_init_66 : decode cX5_init 66 = .ok (.dup, 1) := by decide +kernel
theorem dX5_init_67 : decode cX5_init 67 = .ok (.aload_n 0, 1) := by decide +kernel
theorem dX5_init_68 : decode cX5_init 68 = .ok (.getfield 19, 3) := by decide +kernel
theorem dX5_init_71 : decode cX5_init 71 = .ok (.getfield 28, 3) := by decide +kernel
theorem dX5_init_74 : decode cX5_init 74 = .ok (.invokespecial 32, 3) := by decide +kernel
theorem dX5_init_77 : decode cX5_init 77 = .ok (.putfield 35, 3) := by decide +kernel
theorem dX5_init_80 : decode cX5_init 80 = .ok (.aload_n 0, 1) := by decide +kernel
theorem dX5_init_81 : decode cX5_init 81 = .ok (.new 39, 3) := by decide +kernel
theorem dX5_init_84 : decode cX5_init 84 = .ok (.dup, 1) := by decide +kernel
theorem dX5_init_85 : decode cX5_init 85 = .ok (.invokespecial 41, 3) := by decide +kernel
theorem dX5_init_88 : decode cX5_init 88 = .ok (.putfield 42, 3) := by decide +kernel
theorem dX5_init_91 : decode cX5_init 91 = .ok (.aload_n 0, 1) := by decide +kernel
theorem dX5_init_92 : decode cX5_init 92 = .ok (.bipush 60, 2) := by decide +kernel
theorem dX5_init_94 : decode cX5_init 94 = .ok (.newarray .int, 2) := by decide +kernel
theorem dX5_init_96 : decode cX5_init 96 = .ok (.putfield 46, 3) := by decide +kernel
theorem dX5_init_99 : decode cX5_init 99 = .ok (.aload_n 0, 1) := by decide +kernel
theorem dX5_init_100 : decode cX5_init 100 = .ok (.new 50, 3) := by decide +kernel
theorem dX5_init_103 : decode cX5_init 103 = .ok (.dup, 1) := by decide +kernel
theorem dX5_init_104 : decode cX5_init 104 = .ok (.invokespecial 52, 3) := by decide +kernel
theorem dX5_init_107 : decode cX5_init 107 = .ok (.putfield 53, 3) := by decide +kernel
theorem dX5_init_110 : decode cX5_init 110 = .ok (.return_, 1) := by decide +kernel
theorem dX5_rule_0 : decode cX5_rule 0 = .ok (.aload_n 0, 1) := by decide +kernel
theorem dX5_rule_1 : decode cX5_rule 1 = .ok (.iload_n 1, 1) := by decide +kernel
theorem dX5_rule_2 : decode cX5_rule 2 = .ok (.invokevirtual 97, 3) := by decide +kernel
theorem dX5_holds_0 : decode cX5_holds 0 = .ok (.aload_n 0, 1) := by decide +kernel
theorem dX5_holds_1 : decode cX5_holds 1 = .ok (.iload_n 1, 1) := by decide +kernel
theorem dX5_holds_2 : decode cX5_holds 2 = .ok (.invokevirtual 97, 3) := by decide +kernel
theorem dX5_copy_0 : decode cX5_copy 0 = .ok (.aload_n 0, 1) := by decide +kernel
theorem dX5_copy_1 : decode cX5_copy 1 = .ok (.iload_n 1, 1) := by decide +kernel
theorem dX5_copy_2 : decode cX5_copy 2 = .ok (.invokevirtual 97, 3) := by decide +kernel
theorem dX5_unlike_0 : decode cX5_unlike 0 = .ok (.aload_n 0, 1) := by decide +kernel
theorem dX5_unlike_1 : decode cX5_unlike 1 = .ok (.iload_n 1, 1) := by decide +kernel
theorem dX5_unlike_2 : decode cX5_unlike 2 = .ok (.invokevirtual 97, 3) := by decide +kernel
theorem dX5_parent_0 : decode cX5_parent 0 = .ok (.aload_n 0, 1) := by decide +kernel
theorem dX5_parent_1 : decode cX5_parent 1 = .ok (.iload_n 1, 1) := by decide +kernel
theorem dX5_parent_2 : decode cX5_parent 2 = .ok (.invokevirtual 97, 3) := by decide +kernel
theorem dX5_start_0 : decode cX5_start 0 = .ok (.aload_n 0, 1) := by decide +kernel
theorem dX5_start_1 : decode cX5_start 1 = .ok (.iload_n 1, 1) := by decide +kernel
theorem dX5_start_2 : decode cX5_start 2 = .ok (.invokevirtual 97, 3) := by decide +kernel
theorem dX5_give_0 : decode cX5_give 0 = .ok (.aload_n 0, 1) := by decide +kernel
theorem dX5_give_1 : decode cX5_give 1 = .ok (.invokevirtual 138, 3) := by decide +kernel
theorem dX5_move_0 : decode cX5_move 0 = .ok (.aload_n 0, 1) := by decide +kernel
theorem dX5_move_1 : decode cX5_move 1 = .ok (.invokevirtual 138, 3) := by decide +kernel
theorem dX5_barred_0 : decode cX5_barred 0 = .ok (.aload_n 0, 1) := by decide +kernel
theorem dX5_barred_1 : decode cX5_barred 1 = .ok (.invokevirtual 138, 3) := by decide +kernel
theorem dX5_moves_0 : decode cX5_moves 0 = .ok (.aload_n 0, 1) := by decide +kernel
theorem dX5_moves_1 : decode cX5_moves 1 = .ok (.invokevirtual 138, 3) := by decide +kernel
theorem dX5_undo_0 : decode cX5_undo 0 = .ok (.aload_n 0, 1) := by decide +kernel
theorem dX5_undo_1 : decode cX5_undo 1 = .ok (.getfield 19, 3) := by decide +kernel
theorem dX5_undo_4 : decode cX5_undo 4 = .ok (.getfield 179, 3) := by decide +kernel
theorem dX5_undo_7 : decode cX5_undo 7 = .ok (.ifCond .eq 13, 3) := by decide +kernel
theorem dX5_undo_20 : decode cX5_undo 20 = .ok (.new 150, 3) := by decide +kernel
theorem dX5_undo_23 : decode cX5_undo 23 = .ok (.dup, 1) := by decide +kernel
theorem dX5_undo_24 : decode cX5_undo 24 = .ok (.ldc 182, 2) := by decide +kernel
theorem dX5_undo_26 : decode cX5_undo 26 = .ok (.invokespecial 154, 3) := by decide +kernel
theorem dX5_undo_29 : decode cX5_undo 29 = .ok (.athrow, 1) := by decide +kernel
theorem dX5_seeds_0 : decode cX5_seeds 0 = .ok (.aload_n 0, 1) := by decide +kernel
theorem dX5_seeds_1 : decode cX5_seeds 1 = .ok (.invokevirtual 187, 3) := by decide +kernel
theorem dX5_store_0 : decode cX5_store 0 = .ok (.aload_n 0, 1) := by decide +kernel
theorem dX5_store_1 : decode cX5_store 1 = .ok (.invokevirtual 187, 3) := by decide +kernel
theorem dX5_turn_0 : decode cX5_turn 0 = .ok (.aload_n 0, 1) := by decide +kernel
theorem dX5_turn_1 : decode cX5_turn 1 = .ok (.invokevirtual 138, 3) := by decide +kernel
theorem dX5_isOver_0 : decode cX5_isOver 0 = .ok (.aload_n 0, 1) := by decide +kernel
theorem dX5_isOver_1 : decode cX5_isOver 1 = .ok (.invokevirtual 187, 3) := by decide +kernel
theorem dX5_winner_0 : decode cX5_winner 0 = .ok (.aload_n 0, 1) := by decide +kernel
theorem dX5_winner_1 : decode cX5_winner 1 = .ok (.invokevirtual 187, 3) := by decide +kernel
theorem dX5_laps_0 : decode cX5_laps 0 = .ok (.aload_n 0, 1) := by decide +kernel
theorem dX5_laps_1 : decode cX5_laps 1 = .ok (.invokevirtual 187, 3) := by decide +kernel
theorem dX5_length_0 : decode cX5_length 0 = .ok (.aload_n 0, 1) := by decide +kernel
theorem dX5_length_1 : decode cX5_length 1 = .ok (.invokevirtual 187, 3) := by decide +kernel
theorem dX5_times_0 : decode cX5_times 0 = .ok (.aload_n 0, 1) := by decide +kernel
theorem dX5_times_1 : decode cX5_times 1 = .ok (.invokevirtual 187, 3) := by decide +kernel
theorem dX5_number_0 : decode cX5_number 0 = .ok (.aload_n 0, 1) := by decide +kernel
theorem dX5_number_1 : decode cX5_number 1 = .ok (.invokevirtual 187, 3) := by decide +kernel
theorem dX5_value_0 : decode cX5_value 0 = .ok (.aload_n 0, 1) := by decide +kernel
theorem dX5_value_1 : decode cX5_value 1 = .ok (.invokevirtual 138, 3) := by decide +kernel
theorem dX5_best_0 : decode cX5_best 0 = .ok (.aload_n 0, 1) := by decide +kernel
theorem dX5_best_1 : decode cX5_best 1 = .ok (.invokevirtual 138, 3) := by decide +kernel
theorem dX5_blunder_0 : decode cX5_blunder 0 = .ok (.aload_n 0, 1) := by decide +kernel
theorem dX5_blunder_1 : decode cX5_blunder 1 = .ok (.invokevirtual 138, 3) := by decide +kernel
theorem dX5_isPuzzle_0 : decode cX5_isPuzzle 0 = .ok (.aload_n 0, 1) := by decide +kernel
theorem dX5_isPuzzle_1 : decode cX5_isPuzzle 1 = .ok (.invokevirtual 138, 3) := by decide +kernel
theorem dX5_play_0 : decode cX5_play 0 = .ok (.aload_n 0, 1) := by decide +kernel
theorem dX5_play_1 : decode cX5_play 1 = .ok (.iload_n 1, 1) := by decide +kernel
theorem dX5_play_2 : decode cX5_play 2 = .ok (.invokevirtual 97, 3) := by decide +kernel
theorem dX5_explains_0 : decode cX5_explains 0 = .ok (.aload_n 0, 1) := by decide +kernel
theorem dX5_explains_1 : decode cX5_explains 1 = .ok (.iload_n 1, 1) := by decide +kernel
theorem dX5_explains_2 : decode cX5_explains 2 = .ok (.invokevirtual 97, 3) := by decide +kernel
theorem dX5_line_0 : decode cX5_line 0 = .ok (.aload_n 0, 1) := by decide +kernel
theorem dX5_line_1 : decode cX5_line 1 = .ok (.invokevirtual 187, 3) := by decide +kernel
theorem dX5_sign_0 : decode cX5_sign 0 = .ok (.aload_n 0, 1) := by decide +kernel
theorem dX5_sign_1 : decode cX5_sign 1 = .ok (.invokevirtual 187, 3) := by decide +kernel
theorem dX5_freeShare_0 : decode cX5_freeShare 0 = .ok (.aload_n 0, 1) := by decide +kernel
theorem dX5_freeShare_1 : decode cX5_freeShare 1 = .ok (.invokevirtual 138, 3) := by decide +kernel
theorem dX5_meanUnlike_0 : decode cX5_meanUnlike 0 = .ok (.aload_n 0, 1) := by decide +kernel
theorem dX5_meanUnlike_1 : decode cX5_meanUnlike 1 = .ok (.getfield 80, 3) := by decide +kernel
theorem dX5_meanUnlike_4 : decode cX5_meanUnlike 4 = .ok (.iconst 2, 1) := by decide +kernel
theorem dX5_meanUnlike_5 : decode cX5_meanUnlike 5 = .ok (.if_icmp .ge 14, 3) := by decide +kernel
theorem dX5_meanUnlike_8 : decode cX5_meanUnlike 8 = .ok (.new 297, 3) := by decide +kernel
theorem dX5_meanUnlike_11 : decode cX5_meanUnlike 11 = .ok (.dup, 1) := by decide +kernel
theorem dX5_meanUnlike_12 : decode cX5_meanUnlike 12 = .ok (.ldc_w 299, 3) := by decide +kernel
theorem dX5_meanUnlike_15 : decode cX5_meanUnlike 15 = .ok (.invokespecial 301, 3) := by decide +kernel
theorem dX5_meanUnlike_18 : decode cX5_meanUnlike 18 = .ok (.athrow, 1) := by decide +kernel
theorem dX5_isWithin_0 : decode cX5_isWithin 0 = .ok (.iload_n 0, 1) := by decide +kernel
theorem dX5_isWithin_1 : decode cX5_isWithin 1 = .ok (.iload_n 1, 1) := by decide +kernel
theorem dX5_isWithin_2 : decode cX5_isWithin 2 = .ok (.if_icmp .lt 12, 3) := by decide +kernel
theorem dX5_isWithin_5 : decode cX5_isWithin 5 = .ok (.iload_n 0, 1) := by decide +kernel
theorem dX5_isWithin_6 : decode cX5_isWithin 6 = .ok (.iload_n 2, 1) := by decide +kernel
theorem dX5_isWithin_7 : decode cX5_isWithin 7 = .ok (.if_icmp .gt 7, 3) := by decide +kernel
theorem dX5_isWithin_10 : decode cX5_isWithin 10 = .ok (.iconst 1, 1) := by decide +kernel
theorem dX5_isWithin_11 : decode cX5_isWithin 11 = .ok (.goto 4, 3) := by decide +kernel
theorem dX5_isWithin_14 : decode cX5_isWithin 14 = .ok (.iconst 0, 1) := by decide +kernel
theorem dX5_isWithin_15 : decode cX5_isWithin 15 = .ok (.ireturn, 1) := by decide +kernel
theorem dX5_needKind_0 : decode cX5_needKind 0 = .ok (.iload_n 1, 1) := by decide +kernel
theorem dX5_needKind_1 : decode cX5_needKind 1 = .ok (.ifCond .lt 11, 3) := by decide +kernel
theorem dX5_needKind_4 : decode cX5_needKind 4 = .ok (.iload_n 1, 1) := by decide +kernel
theorem dX5_needKind_5 : decode cX5_needKind 5 = .ok (.aload_n 0, 1) := by decide +kernel
theorem dX5_needKind_6 : decode cX5_needKind 6 = .ok (.getfield 80, 3) := by decide +kernel
theorem dX5_needKind_9 : decode cX5_needKind 9 = .ok (.if_icmp .lt 14, 3) := by decide +kernel
theorem dX5_needKind_12 : decode cX5_needKind 12 = .ok (.new 193, 3) := by decide +kernel
theorem dX5_needKind_15 : decode cX5_needKind 15 = .ok (.dup, 1) := by decide +kernel
theorem dX5_needKind_16 : decode cX5_needKind 16 = .ok (.ldc_w 316, 3) := by decide +kernel
theorem dX5_needKind_19 : decode cX5_needKind 19 = .ok (.invokespecial 197, 3) := by decide +kernel
theorem dX5_needKind_22 : decode cX5_needKind 22 = .ok (.athrow, 1) := by decide +kernel
theorem dX5_needBegun_0 : decode cX5_needBegun 0 = .ok (.aload_n 0, 1) := by decide +kernel
theorem dX5_needBegun_1 : decode cX5_needBegun 1 = .ok (.getfield 19, 3) := by decide +kernel
theorem dX5_needBegun_4 : decode cX5_needBegun 4 = .ok (.getfield 179, 3) := by decide +kernel
theorem dX5_needBegun_7 : decode cX5_needBegun 7 = .ok (.ifCond .ne 14, 3) := by decide +kernel
theorem dX5_needBegun_10 : decode cX5_needBegun 10 = .ok (.new 162, 3) := by decide +kernel
theorem dX5_needBegun_13 : decode cX5_needBegun 13 = .ok (.dup, 1) := by decide +kernel
theorem dX5_needBegun_14 : decode cX5_needBegun 14 = .ok (.ldc_w 320, 3) := by decide +kernel
theorem dX5_needBegun_17 : decode cX5_needBegun 17 = .ok (.invokespecial 166, 3) := by decide +kernel
theorem dX5_needBegun_20 : decode cX5_needBegun 20 = .ok (.athrow, 1) := by decide +kernel
theorem dX5_needGameOn_0 : decode cX5_needGameOn 0 = .ok (.aload_n 0, 1) := by decide +kernel
theorem dX5_needGameOn_1 : decode cX5_needGameOn 1 = .ok (.getfield 19, 3) := by decide +kernel
theorem dX5_needGameOn_4 : decode cX5_needGameOn 4 = .ok (.getfield 179, 3) := by decide +kernel
theorem dX5_needGameOn_7 : decode cX5_needGameOn 7 = .ok (.ifCond .eq 13, 3) := by decide +kernel
theorem dX5_needGameOn_20 : decode cX5_needGameOn 20 = .ok (.new 162, 3) := by decide +kernel
theorem dX5_needGameOn_23 : decode cX5_needGameOn 23 = .ok (.dup, 1) := by decide +kernel
theorem dX5_needGameOn_24 : decode cX5_needGameOn 24 = .ok (.ldc_w 322, 3) := by decide +kernel
theorem dX5_needGameOn_27 : decode cX5_needGameOn 27 = .ok (.invokespecial 166, 3) := by decide +kernel
theorem dX5_needGameOn_30 : decode cX5_needGameOn 30 = .ok (.athrow, 1) := by decide +kernel
theorem dJ5_init_d00df_0 : decode cJ5_init_d00df 0 = .ok (.aload_n 0, 1) := by decide +kernel
theorem dJ5_init_d00df_1 : decode cJ5_init_d00df 1 = .ok (.invokespecial 3, 3) := by decide +kernel
theorem dJ5_init_d00df_4 : decode cJ5_init_d00df 4 = .ok (.getstatic 18, 3) := by decide +kernel
theorem dJ5_init_d00df_7 : decode cJ5_init_d00df 7 = .ok (.ifCond .eq 18, 3) := by decide +kernel
theorem dJ5_init_d00df_10 : decode cJ5_init_d00df 10 = .ok (.aload_n 0, 1) := by decide +kernel
theorem dJ5_init_d00df_11 : decode cJ5_init_d00df 11 = .ok (.iload_n 1, 1) := by decide +kernel
theorem dJ5_init_d00df_12 : decode cJ5_init_d00df 12 = .ok (.newarray .byte, 2) := by decide +kernel
theorem dJ5_init_d00df_14 : decode cJ5_init_d00df 14 = .ok (.putfield 15, 3) := by decide +kernel
theorem dJ5_init_d00df_17 : decode cJ5_init_d00df 17 = .ok (.aload_n 0, 1) := by decide +kernel
theorem dJ5_init_d00df_18 : decode cJ5_init_d00df 18 = .ok (.iconst 0, 1) := by decide +kernel
theorem dJ5_init_d00df_19 : decode cJ5_init_d00df 19 = .ok (.putfield 22, 3) := by decide +kernel
theorem dJ5_init_d00df_22 : decode cJ5_init_d00df 22 = .ok (.goto 16, 3) := by decide +kernel
theorem dJ5_init_d00df_38 : decode cJ5_init_d00df 38 = .ok (.return_, 1) := by decide +kernel
theorem dJ4_init_da8c8_0 : decode cJ4_init_da8c8 0 = .ok (.aload_n 0, 1) := by decide +kernel
theorem dJ4_init_da8c8_1 : decode cJ4_init_da8c8 1 = .ok (.bipush 16, 2) := by decide +kernel
theorem dJ4_init_da8c8_3 : decode cJ4_init_da8c8 3 = .ok (.invokespecial 1, 3) := by decide +kernel
theorem dJ4_init_da8c8_6 : decode cJ4_init_da8c8 6 = .ok (.return_, 1) := by decide +kernel
abbrev vwCl : List vw_C := [(RJ0, TJ0, 4), (RJ4, TJ4, 4), (RJ6, TJ6, 1), (RJx00060, TJx00060, 6), (RJx7c733, TJx7c733, 6), (RJx35411, TJx35411, 4), (RJx4a65c, TJx4a65c, 3), (RX0, TX0, 4), (RX1, TX1, 10), (RX2, TX2, 5), (RX3, TX3, 1), (RX4, TX4, 6), (RX5, TX5, 9), (RX6, TX6, 3), (RX7, TX7, 5), (RX8, TX8, 8), (RX9, TX9, 4)]

