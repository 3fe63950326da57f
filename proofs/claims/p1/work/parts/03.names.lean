def RX0 : String := "Sowingcourt$Board"
def TX0 : u_T := fun k => match k with
  | 0 => ("Sowingcourt$Board", "kind", "LSowingcourt$Kind;", true)
  | 1 => ("Sowingcourt$Board", "cells", "[I", true)
  | 2 => ("Sowingcourt$Board", "lapCount", "I", false)
  | _ => ("Sowingcourt$Board", "last", "I", false)
def tyX0 : Nat → FieldType := fun k => match k with
  | 0 => .object "Sowingcourt$Kind"
  | 1 => .array .int
  | 2 => .int
  | _ => .int
abbrev wsX00 : List Cond := u_ws RX0 TX0 4
theorem nmX0 : ∀ a, a < 4 → ∀ b, b < 4 → a ≠ b → (TX0 a).2.1 ≠ (TX0 b).2.1 := by decide +kernel
theorem tyX0_ok : ∀ k, k < 4 → parseFieldDescriptor (TX0 k).2.2.1 = some (tyX0 k) := by decide +kernel
abbrev cX0_init : ByteArray := prog_2_method_1_code
def yX0_init : MethodName := ⟨RX0, "<init>", "(LSowingcourt$Kind;)V"⟩
def RX1 : String := "Sowingcourt$Game"
def TX1 : u_T := fun k => match k with
  | 0 => ("Sowingcourt$Game", "kind", "LSowingcourt$Kind;", true)
  | 1 => ("Sowingcourt$Game", "now", "LSowingcourt$Board;", true)
  | 2 => ("Sowingcourt$Game", "next", "LSowingcourt$Board;", true)
  | 3 => ("Sowingcourt$Game", "past", "[I", true)
  | 4 => ("Sowingcourt$Game", "played", "[I", true)
  | 5 => ("Sowingcourt$Game", "lapsOf", "[I", true)
  | 6 => ("Sowingcourt$Game", "count", "I", false)
  | 7 => ("Sowingcourt$Game", "begun", "Z", false)
  | 8 => ("Sowingcourt$Game", "over", "Z", false)
  | _ => ("Sowingcourt$Game", "wasMoved", "Z", false)
def yX1_init : MethodName := ⟨RX1, "<init>", "()V"⟩
def RX2 : String := "Sowingcourt$Kind"
def TX2 : u_T := fun k => match k with
  | 0 => ("Sowingcourt$Kind", "holesEach", "I", false)
  | 1 => ("Sowingcourt$Kind", "seedsEach", "I", false)
  | 2 => ("Sowingcourt$Kind", "lap", "C", false)
  | 3 => ("Sowingcourt$Kind", "capture", "C", false)
  | _ => ("Sowingcourt$Kind", "rules", "[Z", true)
def tyX2 : Nat → FieldType := fun k => match k with
  | 0 => .int
  | 1 => .int
  | 2 => .char
  | 3 => .char
  | _ => .array .boolean
abbrev wsX20 : List Cond := u_ws RX2 TX2 5
theorem nmX2 : ∀ a, a < 5 → ∀ b, b < 5 → a ≠ b → (TX2 a).2.1 ≠ (TX2 b).2.1 := by decide +kernel
theorem tyX2_ok : ∀ k, k < 5 → parseFieldDescriptor (TX2 k).2.2.1 = some (tyX2 k) := by decide +kernel
abbrev cX2_init : ByteArray := prog_4_method_1_code
def yX2_init : MethodName := ⟨RX2, "<init>", "()V"⟩
def RX3 : String := "Sowingcourt$Rows"
def TX3 : u_T := fun k => match k with
  | _ => ("Sowingcourt$Rows", "ways", "[[J", true)
def RX4 : String := "Sowingcourt$Search"
def TX4 : u_T := fun k => match k with
  | 0 => ("Sowingcourt$Search", "levels", "[LSowingcourt$Board;", true)
  | 1 => ("Sowingcourt$Search", "free", "[Z", true)
  | 2 => ("Sowingcourt$Search", "worth", "[I", true)
  | 3 => ("Sowingcourt$Search", "top", "I", false)
  | 4 => ("Sowingcourt$Search", "firstTop", "I", false)
  | _ => ("Sowingcourt$Search", "topCount", "I", false)
def RX5 : String := "Sowingcourt"
def TX5 : u_T := fun k => match k with
  | 0 => ("Sowingcourt", "kinds", "[LSowingcourt$Kind;", true)
  | 1 => ("Sowingcourt", "kindCount", "I", false)
  | 2 => ("Sowingcourt", "game", "LSowingcourt$Game;", true)
  | 3 => ("Sowingcourt", "trial", "LSowingcourt$Game;", true)
  | 4 => ("Sowingcourt", "search", "LSowingcourt$Search;", true)
  | 5 => ("Sowingcourt", "rows", "LSowingcourt$Rows;", true)
  | 6 => ("Sowingcourt", "typed", "[I", true)
  | 7 => ("Sowingcourt", "typedCount", "I", false)
  | _ => ("Sowingcourt", "text", "Ljava/lang/StringBuilder;", true)
abbrev wsX50 : List Cond := u_ws RX5 TX5 9
abbrev cX5_isWithin : ByteArray := prog_1_method_40_code
def yX5_isWithin : MethodName := ⟨RX5, "isWithin", "(III)Z"⟩
abbrev cX5_needKind : ByteArray := prog_1_method_42_code
def yX5_needKind : MethodName := ⟨RX5, "needKind", "(I)V"⟩
def RX6 : String := "SowingcourtModel$Game"
def TX6 : u_T := fun k => match k with
  | 0 => ("SowingcourtModel$Game", "path", "Ljava/util/List;", true)
  | 1 => ("SowingcourtModel$Game", "now", "LSowingcourtModel$Position;", false)
  | _ => ("SowingcourtModel$Game", "moved", "Z", false)
def RX7 : String := "SowingcourtModel$Kind"
def TX7 : u_T := fun k => match k with
  | 0 => ("SowingcourtModel$Kind", "holes", "I", false)
  | 1 => ("SowingcourtModel$Kind", "seeds", "I", false)
  | 2 => ("SowingcourtModel$Kind", "lap", "C", false)
  | 3 => ("SowingcourtModel$Kind", "capture", "C", false)
  | _ => ("SowingcourtModel$Kind", "things", "I", false)
def yX7_init : MethodName := ⟨RX7, "<init>", "()V"⟩
def RX8 : String := "SowingcourtModel$Position"
def TX8 : u_T := fun k => match k with
  | 0 => ("SowingcourtModel$Position", "kind", "LSowingcourtModel$Kind;", true)
  | 1 => ("SowingcourtModel$Position", "holes", "[I", true)
  | 2 => ("SowingcourtModel$Position", "stores", "[I", true)
  | 3 => ("SowingcourtModel$Position", "turn", "I", false)
  | 4 => ("SowingcourtModel$Position", "hole", "I", false)
  | 5 => ("SowingcourtModel$Position", "laps", "I", false)
  | 6 => ("SowingcourtModel$Position", "gain", "I", false)
  | _ => ("SowingcourtModel$Position", "over", "Z", false)
def RX9 : String := "SowingcourtModel"
def TX9 : u_T := fun k => match k with
  | 0 => ("SowingcourtModel", "thrown", "I", false)
  | 1 => ("SowingcourtModel", "kinds", "Ljava/util/List;", true)
  | 2 => ("SowingcourtModel", "game", "LSowingcourtModel$Game;", false)
  | _ => ("SowingcourtModel", "typed", "Ljava/util/List;", true)
def RJx00060 : String := "java/lang/ArrayIndexOutOfBoundsException"
def TJx00060 : u_T := fun k => match k with
  | 0 => ("java/lang/Throwable", "backtrace", "Ljava/lang/Object;", false)
  | 1 => ("java/lang/Throwable", "detailMessage", "Ljava/lang/String;", false)
  | 2 => ("java/lang/Throwable", "cause", "Ljava/lang/Throwable;", false)
  | 3 => ("java/lang/Throwable", "stackTrace", "[Ljava/lang/StackTraceElement;", false)
  | 4 => ("java/lang/Throwable", "depth", "I", false)
  | _ => ("java/lang/Throwable", "suppressedExceptions", "Ljava/util/List;", false)
def RJ6 : String := "java/lang/Integer"
def TJ6 : u_T := fun k => match k with
  | _ => ("java/lang/Integer", "value", "I", true)
def RJ0 : String := "java/lang/String"
def TJ0 : u_T := fun k => match k with
  | 0 => ("java/lang/String", "value", "[B", true)
  | 1 => ("java/lang/String", "coder", "B", true)
  | 2 => ("java/lang/String", "hash", "I", false)
  | _ => ("java/lang/String", "hashIsZero", "Z", false)
def RJ4 : String := "java/lang/StringBuilder"
def TJ4 : u_T := fun k => match k with
  | 0 => ("java/lang/AbstractStringBuilder", "value", "[B", false)
  | 1 => ("java/lang/AbstractStringBuilder", "coder", "B", false)
  | 2 => ("java/lang/AbstractStringBuilder", "maybeLatin1", "Z", false)
  | _ => ("java/lang/AbstractStringBuilder", "count", "I", false)
def RJx7c733 : String := "java/lang/StringIndexOutOfBoundsException"
def TJx7c733 : u_T := fun k => match k with
  | 0 => ("java/lang/Throwable", "backtrace", "Ljava/lang/Object;", false)
  | 1 => ("java/lang/Throwable", "detailMessage", "Ljava/lang/String;", false)
  | 2 => ("java/lang/Throwable", "cause", "Ljava/lang/Throwable;", false)
  | 3 => ("java/lang/Throwable", "stackTrace", "[Ljava/lang/StackTraceElement;", false)
  | 4 => ("java/lang/Throwable", "depth", "I", false)
  | _ => ("java/lang/Throwable", "suppressedExceptions", "Ljava/util/List;", false)
def RJx35411 : String := "java/util/ArrayList$Itr"
def TJx35411 : u_T := fun k => match k with
  | 0 => ("java/util/ArrayList$Itr", "cursor", "I", false)
  | 1 => ("java/util/ArrayList$Itr", "lastRet", "I", false)
  | 2 => ("java/util/ArrayList$Itr", "expectedModCount", "I", false)
  | _ => ("java/util/ArrayList$Itr", "this$0", "Ljava/util/ArrayList;", true)
def RJx4a65c : String := "java/util/ArrayList"
def TJx4a65c : u_T := fun k => match k with
  | 0 => ("java/util/AbstractList", "modCount", "I", false)
  | 1 => ("java/util/ArrayList", "elementData", "[Ljava/lang/Object;", false)
  | _ => ("java/util/ArrayList", "size", "I", false)
def yJx4a65c_size_8abf5 : MethodName := ⟨RJx4a65c, "size", "()I"⟩
def yJx4a65c_isEmpty_aae02 : MethodName := ⟨RJx4a65c, "isEmpty", "()Z"⟩
def yJx4a65c_add_9ea2d : MethodName := ⟨RJx4a65c, "add", "(Ljava/lang/Object;)Z"⟩
def yJx4a65c_clear_da8c8 : MethodName := ⟨RJx4a65c, "clear", "()V"⟩
theorem dX0_init_0 : decode cX0_init 0 = .ok (.aload_n 0, 1) := by decide +kernel
theorem dX0_init_1 : decode cX0_init 1 = .ok (.invokespecial 3, 3) := by decide +kernel
theorem dX0_init_4 : decode cX0_init 4 = .ok (.aload_n 0, 1) := by decide +kernel
theorem dX0_init_5 : decode cX0_init 5 = .ok (.bipush 13, 2) := by decide +kernel
theorem dX0_init_7 : decode cX0_init 7 = .ok (.newarray .int, 2) := by decide +kernel
theorem dX0_init_9 : decode cX0_init 9 = .ok (.putfield 11, 3) := by decide +kernel
theorem dX0_init_12 : decode cX0_init 12 = .ok (.aload_n 0, 1) := by decide +kernel
theorem dX0_init_13 : decode cX0_init 13 = .ok (.aload_n 1, 1) := by decide +kernel
theorem dX0_init_14 : decode cX0_init 14 = .ok (.putfield 15, 3) := by decide +kernel
theorem dX0_init_17 : decode cX0_init 17 = .ok (.return_, 1) := by decide +kernel
theorem dX2_init_0 : decode cX2_init 0 = .ok (.aload_n 0, 1) := by decide +kernel
theorem dX2_init_1 : decode cX2_init 1 = .ok (.invokespecial 3, 3) := by decide +kernel
theorem dX2_init_4 : decode cX2_init 4 = .ok (.aload_n 0, 1) := by decide +kernel
theorem dX2_init_5 : decode cX2_init 5 = .ok (.iconst 2, 1) := by decide +kernel
theorem dX2_init_6 : decode cX2_init 6 = .ok (.putfield 9, 3) := by decide +kernel
theorem dX2_init_9 : decode cX2_init 9 = .ok (.aload_n 0, 1) := by decide +kernel
theorem dX2_init_10 : decode cX2_init 10 = .ok (.iconst 1, 1) := by decide +kernel
theorem dX2_init_11 : decode cX2_init 11 = .ok (.putfield 15, 3) := by decide +kernel
theorem dX2_init_14 : decode cX2_init 14 = .ok (.aload_n 0, 1) := by decide +kernel
theorem dX2_init_15 : decode cX2_init 15 = .ok (.bipush 115, 2) := by decide +kernel
theorem dX2_init_17 : decode cX2_init 17 = .ok (.putfield 18, 3) := by decide +kernel
theorem dX2_init_20 : decode cX2_init 20 = .ok (.aload_n 0, 1) := by decide +kernel
theorem dX2_init_21 : decode cX2_init 21 = .ok (.bipush 110, 2) := by decide +kernel
theorem dX2_init_23 : decode cX2_init 23 = .ok (.putfield 22, 3) := by decide +kernel
theorem dX2_init_26 : decode cX2_init 26 = .ok (.aload_n 0, 1) := by decide +kernel
theorem dX2_init_27 : decode cX2_init 27 = .ok (.iconst 5, 1) := by decide +kernel
theorem dX2_init_28 : decode cX2_init 28 = .ok (.newarray .boolean, 2) := by decide +kernel
theorem dX2_init_30 : decode cX2_init 30 = .ok (.putfield 25, 3) := by decide +kernel
theorem dX2_init_33 : decode cX2_init 33 = .ok (.return_, 1) := by decide +kernel
theorem dX5_isWithin_0 : decode cX5_isWithin 0 = .ok (.iload_n 0, 1) := by decide +kernel
theorem dX5_isWithin_1 : decode cX5_isWithin 1 = .ok (.iload_n 1, 1) := by decide +kernel
theorem dX5_isWithin_2 : decode cX5_isWithin 2 = .ok (.if_icmp .lt 12, 3) := by decide +kernel
theorem dX5_isWithin_5 : decode cX5_isWithin 5 = .ok (.iload_n 0, 1) := by decide +kernel
theorem dX5_isWithin_6 : decode cX5_isWithin 6 = .ok (.iload_n 2, 1) := by decide +kernel
theorem dX5_isWithin_7 : decode cX5_isWithin 7 = .ok (.if_icmp .gt 7, 3) := by decide +kernel
theorem dX5_isWithin_10 : decode cX5_isWithin 10 = .ok (.iconst 1, 1) := by decide +kernel
theorem dX5_isWithin_11 : decode cX5_isWithin 11 = .ok (.goto 4, 3) := by decide +kernel
theorem dX5_isWithin_14 : decode cX5_isWithin 14 = .ok (.iconst 0, 1) := by decide +kernel
theorem dX5_isWithin_15 : decode cX5_isWithin 15 = .ok (.ireturn, 1) := by decide +kernel
theorem dX5_needKind_0 : decode cX5_needKind 0 = .ok (.iload_n 1, 1) := by decide +kernel
theorem dX5_needKind_1 : decode cX5_needKind 1 = .ok (.ifCond .lt 11, 3) := by decide +kernel
theorem dX5_needKind_4 : decode cX5_needKind 4 = .ok (.iload_n 1, 1) := by decide +kernel
theorem dX5_needKind_5 : decode cX5_needKind 5 = .ok (.aload_n 0, 1) := by decide +kernel
theorem dX5_needKind_6 : decode cX5_needKind 6 = .ok (.getfield 80, 3) := by decide +kernel
theorem dX5_needKind_9 : decode cX5_needKind 9 = .ok (.if_icmp .lt 14, 3) := by decide +kernel
theorem dX5_needKind_12 : decode cX5_needKind 12 = .ok (.new 193, 3) := by decide +kernel
theorem dX5_needKind_15 : decode cX5_needKind 15 = .ok (.dup, 1) := by decide +kernel
theorem dX5_needKind_16 : decode cX5_needKind 16 = .ok (.ldc_w 316, 3) := by decide +kernel
theorem dX5_needKind_19 : decode cX5_needKind 19 = .ok (.invokespecial 197, 3) := by decide +kernel
theorem dX5_needKind_22 : decode cX5_needKind 22 = .ok (.athrow, 1) := by decide +kernel
abbrev vwCl : List vw_C := [(RJ0, TJ0, 4), (RJ4, TJ4, 4), (RJ6, TJ6, 1), (RJx00060, TJx00060, 6), (RJx7c733, TJx7c733, 6), (RJx35411, TJx35411, 4), (RJx4a65c, TJx4a65c, 3), (RX0, TX0, 4), (RX1, TX1, 10), (RX2, TX2, 5), (RX3, TX3, 1), (RX4, TX4, 6), (RX5, TX5, 9), (RX6, TX6, 3), (RX7, TX7, 5), (RX8, TX8, 8), (RX9, TX9, 4)]

