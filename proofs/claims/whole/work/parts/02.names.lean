def RX0 : String := "ClassMaker4$FileMaker"
def TX0 : u_T := fun k => match k with
  | 0 => ("ClassMaker4$FileMaker", "bytes", "[B", true)
  | 1 => ("ClassMaker4$FileMaker", "starts", "[I", true)
  | 2 => ("ClassMaker4$FileMaker", "length", "I", false)
  | 3 => ("ClassMaker4$FileMaker", "firstRow", "I", false)
  | _ => ("ClassMaker4$FileMaker", "lastRow", "I", false)
def tyX0 : Nat → FieldType := fun k => match k with
  | 0 => .array .byte
  | 1 => .array .int
  | 2 => .int
  | 3 => .int
  | _ => .int
theorem nmX0 : ∀ a, a < 5 → ∀ b, b < 5 → a ≠ b → (TX0 a).2.1 ≠ (TX0 b).2.1 := by decide +kernel
theorem tyX0_ok : ∀ k, k < 5 → parseFieldDescriptor (TX0 k).2.2.1 = some (tyX0 k) := by decide +kernel
abbrev cX0_init : ByteArray := prog_2_method_1_code
def yX0_init : MethodName := ⟨RX0, "<init>", "()V"⟩
abbrev cX0_fileOf : ByteArray := prog_2_method_2_code
def yX0_fileOf : MethodName := ⟨RX0, "fileOf", "(LClassMaker4$MadeClass;)[B"⟩
abbrev cX0_writeConstants : ByteArray := prog_2_method_3_code
def yX0_writeConstants : MethodName := ⟨RX0, "writeConstants", "(II)V"⟩
abbrev cX0_writeFace : ByteArray := prog_2_method_4_code
def yX0_writeFace : MethodName := ⟨RX0, "writeFace", "(I)V"⟩
abbrev cX0_writeStart : ByteArray := prog_2_method_5_code
def yX0_writeStart : MethodName := ⟨RX0, "writeStart", "(LClassMaker4$Program;)V"⟩
abbrev cX0_writeMember : ByteArray := prog_2_method_6_code
def yX0_writeMember : MethodName := ⟨RX0, "writeMember", "(LClassMaker4$Program;I)V"⟩
abbrev cX0_layOutRows : ByteArray := prog_2_method_7_code
def yX0_layOutRows : MethodName := ⟨RX0, "layOutRows", "(LClassMaker4$Program;I)I"⟩
abbrev cX0_lengthOf : ByteArray := prog_2_method_8_code
def yX0_lengthOf : MethodName := ⟨RX0, "lengthOf", "(LClassMaker4$Row;)I"⟩
abbrev cX0_jumpLength : ByteArray := prog_2_method_9_code
def yX0_jumpLength : MethodName := ⟨RX0, "jumpLength", "(I)I"⟩
abbrev cX0_isInside : ByteArray := prog_2_method_10_code
def yX0_isInside : MethodName := ⟨RX0, "isInside", "(I)Z"⟩
abbrev cX0_writeRow : ByteArray := prog_2_method_11_code
def yX0_writeRow : MethodName := ⟨RX0, "writeRow", "(LClassMaker4$Row;I)V"⟩
abbrev cX0_arithmeticOf : ByteArray := prog_2_method_12_code
def yX0_arithmeticOf : MethodName := ⟨RX0, "arithmeticOf", "(I)I"⟩
abbrev cX0_address : ByteArray := prog_2_method_13_code
def yX0_address : MethodName := ⟨RX0, "address", "(I)V"⟩
abbrev cX0_load : ByteArray := prog_2_method_14_code
def yX0_load : MethodName := ⟨RX0, "load", "(I)V"⟩
abbrev cX0_hand : ByteArray := prog_2_method_15_code
def yX0_hand : MethodName := ⟨RX0, "hand", "(II)V"⟩
abbrev cX0_jump : ByteArray := prog_2_method_16_code
def yX0_jump : MethodName := ⟨RX0, "jump", "(II)V"⟩
abbrev cX0_push : ByteArray := prog_2_method_17_code
def yX0_push : MethodName := ⟨RX0, "push", "(I)V"⟩
abbrev cX0_withIndex : ByteArray := prog_2_method_18_code
def yX0_withIndex : MethodName := ⟨RX0, "withIndex", "(II)V"⟩
abbrev cX0_methodHead : ByteArray := prog_2_method_19_code
def yX0_methodHead : MethodName := ⟨RX0, "methodHead", "(IIIII)V"⟩
abbrev cX0_methodEnd : ByteArray := prog_2_method_20_code
def yX0_methodEnd : MethodName := ⟨RX0, "methodEnd", "()V"⟩
abbrev cX0_text : ByteArray := prog_2_method_21_code
def yX0_text : MethodName := ⟨RX0, "text", "(Ljava/lang/String;)V"⟩
abbrev cX0_numberedText : ByteArray := prog_2_method_22_code
def yX0_numberedText : MethodName := ⟨RX0, "numberedText", "(CI)V"⟩
abbrev cX0_classConstant : ByteArray := prog_2_method_23_code
def yX0_classConstant : MethodName := ⟨RX0, "classConstant", "(I)V"⟩
abbrev cX0_pair : ByteArray := prog_2_method_24_code
def yX0_pair : MethodName := ⟨RX0, "pair", "(III)V"⟩
abbrev cX0_u4 : ByteArray := prog_2_method_25_code
def yX0_u4 : MethodName := ⟨RX0, "u4", "(I)V"⟩
abbrev cX0_u2 : ByteArray := prog_2_method_26_code
def yX0_u2 : MethodName := ⟨RX0, "u2", "(I)V"⟩
abbrev cX0_u1 : ByteArray := prog_2_method_27_code
def yX0_u1 : MethodName := ⟨RX0, "u1", "(I)V"⟩
def RX1 : String := "ClassMaker4$Machine"
def TX1 : u_T := fun k => match k with
  | _ => ("ClassMaker4$Machine", "store", "LClassMaker4$Store;", true)
def tyX1 : Nat → FieldType := fun k => match k with
  | _ => .object "ClassMaker4$Store"
theorem nmX1 : ∀ a, a < 1 → ∀ b, b < 1 → a ≠ b → (TX1 a).2.1 ≠ (TX1 b).2.1 := by decide +kernel
theorem tyX1_ok : ∀ k, k < 1 → parseFieldDescriptor (TX1 k).2.2.1 = some (tyX1 k) := by decide +kernel
abbrev cX1_init : ByteArray := prog_3_method_1_code
def yX1_init : MethodName := ⟨RX1, "<init>", "(LClassMaker4$Store;)V"⟩
abbrev cX1_enter : ByteArray := prog_3_method_2_code
def yX1_enter : MethodName := ⟨RX1, "enter", "(LClassMaker4$RunUnit;LClassMaker4$MadeClass;I)Z"⟩
abbrev cX1_follow : ByteArray := prog_3_method_3_code
def yX1_follow : MethodName := ⟨RX1, "follow", "(LClassMaker4$RunUnit;LClassMaker4$MadeClass;LClassMaker4$Row;II)I"⟩
abbrev cX1_callProgram : ByteArray := prog_3_method_4_code
def yX1_callProgram : MethodName := ⟨RX1, "callProgram", "(LClassMaker4$RunUnit;LClassMaker4$MadeClass;II)Z"⟩
abbrev cX1_calledClass : ByteArray := prog_3_method_5_code
def yX1_calledClass : MethodName := ⟨RX1, "calledClass", "(LClassMaker4$RunUnit;LClassMaker4$Program;)LClassMaker4$MadeClass;"⟩
def RX2 : String := "ClassMaker4$MadeClass"
def TX2 : u_T := fun k => match k with
  | 0 => ("ClassMaker4$MadeClass", "number", "I", true)
  | 1 => ("ClassMaker4$MadeClass", "home", "LClassMaker4$RunUnit;", true)
  | 2 => ("ClassMaker4$MadeClass", "source", "LClassMaker4$Program;", true)
  | 3 => ("ClassMaker4$MadeClass", "rowCount", "I", true)
  | 4 => ("ClassMaker4$MadeClass", "working", "[B", true)
  | 5 => ("ClassMaker4$MadeClass", "file", "[B", false)
  | 6 => ("ClassMaker4$MadeClass", "started", "Z", false)
  | 7 => ("ClassMaker4$MadeClass", "startFailed", "Z", false)
  | _ => ("ClassMaker4$MadeClass", "dropped", "Z", false)
def tyX2 : Nat → FieldType := fun k => match k with
  | 0 => .int
  | 1 => .object "ClassMaker4$RunUnit"
  | 2 => .object "ClassMaker4$Program"
  | 3 => .int
  | 4 => .array .byte
  | 5 => .array .byte
  | 6 => .boolean
  | 7 => .boolean
  | _ => .boolean
theorem nmX2 : ∀ a, a < 9 → ∀ b, b < 9 → a ≠ b → (TX2 a).2.1 ≠ (TX2 b).2.1 := by decide +kernel
theorem tyX2_ok : ∀ k, k < 9 → parseFieldDescriptor (TX2 k).2.2.1 = some (tyX2 k) := by decide +kernel
abbrev cX2_init : ByteArray := prog_4_method_1_code
def yX2_init : MethodName := ⟨RX2, "<init>", "(ILClassMaker4$RunUnit;LClassMaker4$Program;)V"⟩
abbrev cX2_start : ByteArray := prog_4_method_2_code
def yX2_start : MethodName := ⟨RX2, "start", "()Z"⟩
abbrev cX2_findRow : ByteArray := prog_4_method_3_code
def yX2_findRow : MethodName := ⟨RX2, "findRow", "(I)LClassMaker4$Row;"⟩
abbrev cX2_hasByte : ByteArray := prog_4_method_4_code
def yX2_hasByte : MethodName := ⟨RX2, "hasByte", "(I)Z"⟩
abbrev cX2_valueOf : ByteArray := prog_4_method_5_code
def yX2_valueOf : MethodName := ⟨RX2, "valueOf", "(I)I"⟩
abbrev cX2_setByte : ByteArray := prog_4_method_6_code
def yX2_setByte : MethodName := ⟨RX2, "setByte", "(II)I"⟩
abbrev cX2_work : ByteArray := prog_4_method_7_code
def yX2_work : MethodName := ⟨RX2, "work", "(LClassMaker4$Row;)I"⟩
def RX3 : String := "ClassMaker4$Program"
def TX3 : u_T := fun k => match k with
  | 0 => ("ClassMaker4$Program", "number", "I", true)
  | 1 => ("ClassMaker4$Program", "size", "I", true)
  | 2 => ("ClassMaker4$Program", "startFails", "Z", true)
  | 3 => ("ClassMaker4$Program", "rows", "[LClassMaker4$Row;", true)
  | _ => ("ClassMaker4$Program", "rowCount", "I", false)
def tyX3 : Nat → FieldType := fun k => match k with
  | 0 => .int
  | 1 => .int
  | 2 => .boolean
  | 3 => .array (.object "ClassMaker4$Row")
  | _ => .int
theorem nmX3 : ∀ a, a < 5 → ∀ b, b < 5 → a ≠ b → (TX3 a).2.1 ≠ (TX3 b).2.1 := by decide +kernel
theorem tyX3_ok : ∀ k, k < 5 → parseFieldDescriptor (TX3 k).2.2.1 = some (tyX3 k) := by decide +kernel
abbrev cX3_init : ByteArray := prog_5_method_1_code
def yX3_init : MethodName := ⟨RX3, "<init>", "(IIZ)V"⟩
abbrev cX3_takes : ByteArray := prog_5_method_2_code
def yX3_takes : MethodName := ⟨RX3, "takes", "(III)Z"⟩
abbrev cX3_isByteNumber : ByteArray := prog_5_method_3_code
def yX3_isByteNumber : MethodName := ⟨RX3, "isByteNumber", "(I)Z"⟩
abbrev cX3_isTarget : ByteArray := prog_5_method_4_code
def yX3_isTarget : MethodName := ⟨RX3, "isTarget", "(I)Z"⟩
abbrev cX3_addRow : ByteArray := prog_5_method_5_code
def yX3_addRow : MethodName := ⟨RX3, "addRow", "(III)I"⟩
abbrev cX3_findRow : ByteArray := prog_5_method_6_code
def yX3_findRow : MethodName := ⟨RX3, "findRow", "(I)LClassMaker4$Row;"⟩
def RX4 : String := "ClassMaker4$Row"
def TX4 : u_T := fun k => match k with
  | 0 => ("ClassMaker4$Row", "op", "I", true)
  | 1 => ("ClassMaker4$Row", "a", "I", true)
  | _ => ("ClassMaker4$Row", "b", "I", true)
def tyX4 : Nat → FieldType := fun k => match k with
  | 0 => .int
  | 1 => .int
  | _ => .int
theorem nmX4 : ∀ a, a < 3 → ∀ b, b < 3 → a ≠ b → (TX4 a).2.1 ≠ (TX4 b).2.1 := by decide +kernel
theorem tyX4_ok : ∀ k, k < 3 → parseFieldDescriptor (TX4 k).2.2.1 = some (tyX4 k) := by decide +kernel
abbrev cX4_init : ByteArray := prog_6_method_1_code
def yX4_init : MethodName := ⟨RX4, "<init>", "(III)V"⟩
def RX5 : String := "ClassMaker4$RunUnit"
def TX5 : u_T := fun k => match k with
  | 0 => ("ClassMaker4$RunUnit", "latest", "[LClassMaker4$MadeClass;", true)
  | 1 => ("ClassMaker4$RunUnit", "marks", "[B", true)
  | 2 => ("ClassMaker4$RunUnit", "ended", "Z", false)
  | 3 => ("ClassMaker4$RunUnit", "hasRun", "Z", false)
  | 4 => ("ClassMaker4$RunUnit", "failure", "I", false)
  | 5 => ("ClassMaker4$RunUnit", "endedBy", "I", false)
  | 6 => ("ClassMaker4$RunUnit", "stoppedWith", "I", false)
  | 7 => ("ClassMaker4$RunUnit", "steps", "I", false)
  | _ => ("ClassMaker4$RunUnit", "markCount", "I", false)
def tyX5 : Nat → FieldType := fun k => match k with
  | 0 => .array (.object "ClassMaker4$MadeClass")
  | 1 => .array .byte
  | 2 => .boolean
  | 3 => .boolean
  | 4 => .int
  | 5 => .int
  | 6 => .int
  | 7 => .int
  | _ => .int
theorem nmX5 : ∀ a, a < 9 → ∀ b, b < 9 → a ≠ b → (TX5 a).2.1 ≠ (TX5 b).2.1 := by decide +kernel
theorem tyX5_ok : ∀ k, k < 9 → parseFieldDescriptor (TX5 k).2.2.1 = some (tyX5 k) := by decide +kernel
abbrev cX5_init : ByteArray := prog_7_method_1_code
def yX5_init : MethodName := ⟨RX5, "<init>", "()V"⟩
abbrev cX5_latestOf : ByteArray := prog_7_method_2_code
def yX5_latestOf : MethodName := ⟨RX5, "latestOf", "(LClassMaker4$Program;)LClassMaker4$MadeClass;"⟩
abbrev cX5_setLatest : ByteArray := prog_7_method_3_code
def yX5_setLatest : MethodName := ⟨RX5, "setLatest", "(LClassMaker4$Program;LClassMaker4$MadeClass;)V"⟩
abbrev cX5_beginRun : ByteArray := prog_7_method_4_code
def yX5_beginRun : MethodName := ⟨RX5, "beginRun", "()V"⟩
abbrev cX5_takeStep : ByteArray := prog_7_method_5_code
def yX5_takeStep : MethodName := ⟨RX5, "takeStep", "()Z"⟩
abbrev cX5_noteMark : ByteArray := prog_7_method_6_code
def yX5_noteMark : MethodName := ⟨RX5, "noteMark", "(I)V"⟩
abbrev cX5_markAt : ByteArray := prog_7_method_7_code
def yX5_markAt : MethodName := ⟨RX5, "markAt", "(I)I"⟩
abbrev cX5_abend : ByteArray := prog_7_method_8_code
def yX5_abend : MethodName := ⟨RX5, "abend", "(ILClassMaker4$Program;)V"⟩
abbrev cX5_stop : ByteArray := prog_7_method_9_code
def yX5_stop : MethodName := ⟨RX5, "stop", "(ILClassMaker4$Program;)V"⟩
def RX6 : String := "ClassMaker4$Store"
def TX6 : u_T := fun k => match k with
  | 0 => ("ClassMaker4$Store", "programs", "[LClassMaker4$Program;", true)
  | 1 => ("ClassMaker4$Store", "classes", "[LClassMaker4$MadeClass;", true)
  | 2 => ("ClassMaker4$Store", "programCount", "I", false)
  | _ => ("ClassMaker4$Store", "classCount", "I", false)
def tyX6 : Nat → FieldType := fun k => match k with
  | 0 => .array (.object "ClassMaker4$Program")
  | 1 => .array (.object "ClassMaker4$MadeClass")
  | 2 => .int
  | _ => .int
theorem nmX6 : ∀ a, a < 4 → ∀ b, b < 4 → a ≠ b → (TX6 a).2.1 ≠ (TX6 b).2.1 := by decide +kernel
theorem tyX6_ok : ∀ k, k < 4 → parseFieldDescriptor (TX6 k).2.2.1 = some (tyX6 k) := by decide +kernel
abbrev cX6_init : ByteArray := prog_8_method_1_code
def yX6_init : MethodName := ⟨RX6, "<init>", "()V"⟩
abbrev cX6_addProgram : ByteArray := prog_8_method_2_code
def yX6_addProgram : MethodName := ⟨RX6, "addProgram", "(IZ)I"⟩
abbrev cX6_findProgram : ByteArray := prog_8_method_3_code
def yX6_findProgram : MethodName := ⟨RX6, "findProgram", "(I)LClassMaker4$Program;"⟩
abbrev cX6_findClass : ByteArray := prog_8_method_4_code
def yX6_findClass : MethodName := ⟨RX6, "findClass", "(I)LClassMaker4$MadeClass;"⟩
abbrev cX6_classFor : ByteArray := prog_8_method_5_code
def yX6_classFor : MethodName := ⟨RX6, "classFor", "(LClassMaker4$RunUnit;LClassMaker4$Program;)LClassMaker4$MadeClass;"⟩
abbrev cX6_haveCommonClass : ByteArray := prog_8_method_6_code
def yX6_haveCommonClass : MethodName := ⟨RX6, "haveCommonClass", "(LClassMaker4$RunUnit;LClassMaker4$RunUnit;)Z"⟩
def RX7 : String := "ClassMaker4"
def TX7 : u_T := fun k => match k with
  | 0 => ("ClassMaker4", "store", "LClassMaker4$Store;", true)
  | 1 => ("ClassMaker4", "machine", "LClassMaker4$Machine;", true)
  | 2 => ("ClassMaker4", "files", "LClassMaker4$FileMaker;", true)
  | 3 => ("ClassMaker4", "units", "[LClassMaker4$RunUnit;", true)
  | _ => ("ClassMaker4", "unitCount", "I", false)
def tyX7 : Nat → FieldType := fun k => match k with
  | 0 => .object "ClassMaker4$Store"
  | 1 => .object "ClassMaker4$Machine"
  | 2 => .object "ClassMaker4$FileMaker"
  | 3 => .array (.object "ClassMaker4$RunUnit")
  | _ => .int
theorem nmX7 : ∀ a, a < 5 → ∀ b, b < 5 → a ≠ b → (TX7 a).2.1 ≠ (TX7 b).2.1 := by decide +kernel
theorem tyX7_ok : ∀ k, k < 5 → parseFieldDescriptor (TX7 k).2.2.1 = some (tyX7 k) := by decide +kernel
abbrev cX7_init : ByteArray := prog_1_method_1_code
def yX7_init : MethodName := ⟨RX7, "<init>", "()V"⟩
abbrev cX7_program : ByteArray := prog_1_method_2_code
def yX7_program : MethodName := ⟨RX7, "program", "(IZ)I"⟩
abbrev cX7_code : ByteArray := prog_1_method_3_code
def yX7_code : MethodName := ⟨RX7, "code", "(IIII)I"⟩
abbrev cX7_unit : ByteArray := prog_1_method_4_code
def yX7_unit : MethodName := ⟨RX7, "unit", "()I"⟩
abbrev cX7_make : ByteArray := prog_1_method_5_code
def yX7_make : MethodName := ⟨RX7, "make", "(II)I"⟩
abbrev cX7_run : ByteArray := prog_1_method_6_code
def yX7_run : MethodName := ⟨RX7, "run", "(II)I"⟩
abbrev cX7_at : ByteArray := prog_1_method_7_code
def yX7_at : MethodName := ⟨RX7, "at", "(III)B"⟩
abbrev cX7_raised : ByteArray := prog_1_method_8_code
def yX7_raised : MethodName := ⟨RX7, "raised", "(I)I"⟩
abbrev cX7_told : ByteArray := prog_1_method_9_code
def yX7_told : MethodName := ⟨RX7, "told", "(II)I"⟩
abbrev cX7_mark : ByteArray := prog_1_method_10_code
def yX7_mark : MethodName := ⟨RX7, "mark", "(II)I"⟩
abbrev cX7_octet : ByteArray := prog_1_method_11_code
def yX7_octet : MethodName := ⟨RX7, "octet", "(II)B"⟩
abbrev cX7_shares : ByteArray := prog_1_method_12_code
def yX7_shares : MethodName := ⟨RX7, "shares", "(II)Z"⟩
abbrev cX7_cancel : ByteArray := prog_1_method_13_code
def yX7_cancel : MethodName := ⟨RX7, "cancel", "(II)I"⟩
abbrev cX7_plain : ByteArray := prog_1_method_14_code
def yX7_plain : MethodName := ⟨RX7, "plain", "(IJJ)J"⟩
abbrev cX7_state : ByteArray := prog_1_method_15_code
def yX7_state : MethodName := ⟨RX7, "state", "(I)I"⟩
abbrev cX7_count : ByteArray := prog_1_method_16_code
def yX7_count : MethodName := ⟨RX7, "count", "(I)I"⟩
abbrev cX7_findUnit : ByteArray := prog_1_method_17_code
def yX7_findUnit : MethodName := ⟨RX7, "findUnit", "(I)LClassMaker4$RunUnit;"⟩
def RX8 : String := "ClassMaker4Model"
def TX8 : u_T := fun k => match k with
  | 0 => ("ClassMaker4Model", "thrown", "I", false)
  | 1 => ("ClassMaker4Model", "programs", "I", false)
  | 2 => ("ClassMaker4Model", "units", "I", false)
  | 3 => ("ClassMaker4Model", "classes", "I", false)
  | 4 => ("ClassMaker4Model", "size", "[I", true)
  | 5 => ("ClassMaker4Model", "rows", "[I", true)
  | 6 => ("ClassMaker4Model", "op", "[I", true)
  | 7 => ("ClassMaker4Model", "one", "[I", true)
  | 8 => ("ClassMaker4Model", "two", "[I", true)
  | 9 => ("ClassMaker4Model", "fails", "[Z", true)
  | 10 => ("ClassMaker4Model", "unitOf", "[I", true)
  | 11 => ("ClassMaker4Model", "programOf", "[I", true)
  | 12 => ("ClassMaker4Model", "rowsOf", "[I", true)
  | 13 => ("ClassMaker4Model", "dropped", "[Z", true)
  | 14 => ("ClassMaker4Model", "started", "[Z", true)
  | 15 => ("ClassMaker4Model", "failed", "[Z", true)
  | 16 => ("ClassMaker4Model", "ended", "[Z", true)
  | 17 => ("ClassMaker4Model", "ran", "[Z", true)
  | 18 => ("ClassMaker4Model", "latest", "[I", true)
  | 19 => ("ClassMaker4Model", "raised", "[I", true)
  | 20 => ("ClassMaker4Model", "by", "[I", true)
  | 21 => ("ClassMaker4Model", "stopped", "[I", true)
  | 22 => ("ClassMaker4Model", "steps", "[I", true)
  | 23 => ("ClassMaker4Model", "marked", "[I", true)
  | 24 => ("ClassMaker4Model", "work", "[B", true)
  | 25 => ("ClassMaker4Model", "mark", "[I", true)
  | 26 => ("ClassMaker4Model", "high", "I", false)
  | 27 => ("ClassMaker4Model", "running", "[I", true)
  | 28 => ("ClassMaker4Model", "next", "[I", true)
  | 29 => ("ClassMaker4Model", "length", "I", false)
  | _ => ("ClassMaker4Model", "file", "[I", true)
def tyX8 : Nat → FieldType := fun k => match k with
  | 0 => .int
  | 1 => .int
  | 2 => .int
  | 3 => .int
  | 4 => .array .int
  | 5 => .array .int
  | 6 => .array .int
  | 7 => .array .int
  | 8 => .array .int
  | 9 => .array .boolean
  | 10 => .array .int
  | 11 => .array .int
  | 12 => .array .int
  | 13 => .array .boolean
  | 14 => .array .boolean
  | 15 => .array .boolean
  | 16 => .array .boolean
  | 17 => .array .boolean
  | 18 => .array .int
  | 19 => .array .int
  | 20 => .array .int
  | 21 => .array .int
  | 22 => .array .int
  | 23 => .array .int
  | 24 => .array .byte
  | 25 => .array .int
  | 26 => .int
  | 27 => .array .int
  | 28 => .array .int
  | 29 => .int
  | _ => .array .int
theorem nmX8 : ∀ a, a < 31 → ∀ b, b < 31 → a ≠ b → (TX8 a).2.1 ≠ (TX8 b).2.1 := by decide +kernel
theorem tyX8_ok : ∀ k, k < 31 → parseFieldDescriptor (TX8 k).2.2.1 = some (tyX8 k) := by decide +kernel
abbrev cX8_init : ByteArray := prog_10_method_1_code
def yX8_init : MethodName := ⟨RX8, "<init>", "()V"⟩
abbrev cX8_thrown : ByteArray := prog_10_method_2_code
def yX8_thrown : MethodName := ⟨RX8, "thrown", "()I"⟩
abbrev cX8_isProgram : ByteArray := prog_10_method_3_code
def yX8_isProgram : MethodName := ⟨RX8, "isProgram", "(I)Z"⟩
abbrev cX8_isUnit : ByteArray := prog_10_method_4_code
def yX8_isUnit : MethodName := ⟨RX8, "isUnit", "(I)Z"⟩
abbrev cX8_program : ByteArray := prog_10_method_5_code
def yX8_program : MethodName := ⟨RX8, "program", "(IZ)I"⟩
abbrev cX8_isIn : ByteArray := prog_10_method_6_code
def yX8_isIn : MethodName := ⟨RX8, "isIn", "(III)Z"⟩
abbrev cX8_isRow : ByteArray := prog_10_method_7_code
def yX8_isRow : MethodName := ⟨RX8, "isRow", "(IIII)Z"⟩
abbrev cX8_code : ByteArray := prog_10_method_8_code
def yX8_code : MethodName := ⟨RX8, "code", "(IIII)I"⟩
abbrev cX8_unit : ByteArray := prog_10_method_9_code
def yX8_unit : MethodName := ⟨RX8, "unit", "()I"⟩
abbrev cX8_latestOf : ByteArray := prog_10_method_10_code
def yX8_latestOf : MethodName := ⟨RX8, "latestOf", "(II)I"⟩
abbrev cX8_made : ByteArray := prog_10_method_11_code
def yX8_made : MethodName := ⟨RX8, "made", "(II)I"⟩
abbrev cX8_make : ByteArray := prog_10_method_12_code
def yX8_make : MethodName := ⟨RX8, "make", "(II)I"⟩
abbrev cX8_cancel : ByteArray := prog_10_method_13_code
def yX8_cancel : MethodName := ⟨RX8, "cancel", "(II)I"⟩
abbrev cX8_shares : ByteArray := prog_10_method_14_code
def yX8_shares : MethodName := ⟨RX8, "shares", "(II)Z"⟩
abbrev cX8_state : ByteArray := prog_10_method_15_code
def yX8_state : MethodName := ⟨RX8, "state", "(I)I"⟩
abbrev cX8_enter : ByteArray := prog_10_method_16_code
def yX8_enter : MethodName := ⟨RX8, "enter", "(I)I"⟩
abbrev cX8_called : ByteArray := prog_10_method_17_code
def yX8_called : MethodName := ⟨RX8, "called", "(II)I"⟩
abbrev cX8_step : ByteArray := prog_10_method_18_code
def yX8_step : MethodName := ⟨RX8, "step", "(II)I"⟩
abbrev cX8_run : ByteArray := prog_10_method_19_code
def yX8_run : MethodName := ⟨RX8, "run", "(II)I"⟩
abbrev cX8_at : ByteArray := prog_10_method_20_code
def yX8_at : MethodName := ⟨RX8, "at", "(III)B"⟩
abbrev cX8_raised : ByteArray := prog_10_method_21_code
def yX8_raised : MethodName := ⟨RX8, "raised", "(I)I"⟩
abbrev cX8_told : ByteArray := prog_10_method_22_code
def yX8_told : MethodName := ⟨RX8, "told", "(II)I"⟩
abbrev cX8_mark : ByteArray := prog_10_method_23_code
def yX8_mark : MethodName := ⟨RX8, "mark", "(II)I"⟩
abbrev cX8_u1 : ByteArray := prog_10_method_24_code
def yX8_u1 : MethodName := ⟨RX8, "u1", "(I)V"⟩
abbrev cX8_u2 : ByteArray := prog_10_method_25_code
def yX8_u2 : MethodName := ⟨RX8, "u2", "(I)V"⟩
abbrev cX8_u4 : ByteArray := prog_10_method_26_code
def yX8_u4 : MethodName := ⟨RX8, "u4", "(I)V"⟩
abbrev cX8_utf : ByteArray := prog_10_method_27_code
def yX8_utf : MethodName := ⟨RX8, "utf", "(JJ)V"⟩
abbrev cX8_signs : ByteArray := prog_10_method_28_code
def yX8_signs : MethodName := ⟨RX8, "signs", "(J)V"⟩
abbrev cX8_pair : ByteArray := prog_10_method_29_code
def yX8_pair : MethodName := ⟨RX8, "pair", "(III)V"⟩
abbrev cX8_classed : ByteArray := prog_10_method_30_code
def yX8_classed : MethodName := ⟨RX8, "classed", "(I)V"⟩
abbrev cX8_named : ByteArray := prog_10_method_31_code
def yX8_named : MethodName := ⟨RX8, "named", "(II)J"⟩
abbrev cX8_constants : ByteArray := prog_10_method_32_code
def yX8_constants : MethodName := ⟨RX8, "constants", "(II)V"⟩
abbrev cX8_method : ByteArray := prog_10_method_33_code
def yX8_method : MethodName := ⟨RX8, "method", "(IIIII)V"⟩
abbrev cX8_isWithin : ByteArray := prog_10_method_34_code
def yX8_isWithin : MethodName := ⟨RX8, "isWithin", "(III)Z"⟩
abbrev cX8_going : ByteArray := prog_10_method_35_code
def yX8_going : MethodName := ⟨RX8, "going", "(III)I"⟩
abbrev cX8_bytesOf : ByteArray := prog_10_method_36_code
def yX8_bytesOf : MethodName := ⟨RX8, "bytesOf", "(III)I"⟩
abbrev cX8_begins : ByteArray := prog_10_method_37_code
def yX8_begins : MethodName := ⟨RX8, "begins", "(IIII)I"⟩
abbrev cX8_words : ByteArray := prog_10_method_38_code
def yX8_words : MethodName := ⟨RX8, "words", "()V"⟩
abbrev cX8_push : ByteArray := prog_10_method_39_code
def yX8_push : MethodName := ⟨RX8, "push", "(I)V"⟩
abbrev cX8_load : ByteArray := prog_10_method_40_code
def yX8_load : MethodName := ⟨RX8, "load", "(I)V"⟩
abbrev cX8_goes : ByteArray := prog_10_method_41_code
def yX8_goes : MethodName := ⟨RX8, "goes", "(IIIII)V"⟩
abbrev cX8_row : ByteArray := prog_10_method_42_code
def yX8_row : MethodName := ⟨RX8, "row", "(IIII)V"⟩
abbrev cX8_member : ByteArray := prog_10_method_43_code
def yX8_member : MethodName := ⟨RX8, "member", "(III)V"⟩
abbrev cX8_build : ByteArray := prog_10_method_44_code
def yX8_build : MethodName := ⟨RX8, "build", "(I)V"⟩
abbrev cX8_octet : ByteArray := prog_10_method_45_code
def yX8_octet : MethodName := ⟨RX8, "octet", "(II)B"⟩
abbrev cX8_plain : ByteArray := prog_10_method_46_code
def yX8_plain : MethodName := ⟨RX8, "plain", "(IJJ)J"⟩
abbrev cX8_count : ByteArray := prog_10_method_47_code
def yX8_count : MethodName := ⟨RX8, "count", "(I)I"⟩
def RJx00060 : String := "java/lang/ArrayIndexOutOfBoundsException"
def TJx00060 : u_T := fun k => match k with
  | 0 => ("java/lang/Throwable", "cause", "Ljava/lang/Throwable;", false)
  | 1 => ("java/lang/Throwable", "stackTrace", "[Ljava/lang/StackTraceElement;", false)
  | 2 => ("java/lang/Throwable", "suppressedExceptions", "Ljava/util/List;", false)
  | 3 => ("java/lang/Throwable", "detailMessage", "Ljava/lang/String;", false)
  | 4 => ("java/lang/Throwable", "backtrace", "Ljava/lang/Object;", false)
  | _ => ("java/lang/Throwable", "depth", "I", false)
def tyJx00060 : Nat → FieldType := fun k => match k with
  | 0 => .object "java/lang/Throwable"
  | 1 => .array (.object "java/lang/StackTraceElement")
  | 2 => .object "java/util/List"
  | 3 => .object "java/lang/String"
  | 4 => .object "java/lang/Object"
  | _ => .int
theorem nmJx00060 : ∀ a, a < 6 → ∀ b, b < 6 → a ≠ b → (TJx00060 a).2.1 ≠ (TJx00060 b).2.1 := by decide +kernel
theorem tyJx00060_ok : ∀ k, k < 6 → parseFieldDescriptor (TJx00060 k).2.2.1 = some (tyJx00060 k) := by decide +kernel
abbrev cJx00060_init_a7421 : ByteArray := prog_12_method_2_code
def yJx00060_init_a7421 : MethodName := ⟨RJx00060, "<init>", "(Ljava/lang/String;)V"⟩
def RJx8e188 : String := "java/lang/Cloneable"
def TJx8e188 : u_T := fun k => match k with
  | _ => ("", "", "", false)
def tyJx8e188 : Nat → FieldType := fun k => match k with
  | _ => .int
theorem nmJx8e188 : ∀ a, a < 0 → ∀ b, b < 0 → a ≠ b → (TJx8e188 a).2.1 ≠ (TJx8e188 b).2.1 := by decide +kernel
theorem tyJx8e188_ok : ∀ k, k < 0 → parseFieldDescriptor (TJx8e188 k).2.2.1 = some (tyJx8e188 k) := by decide +kernel
def RJ9 : String := "java/lang/Math"
def TJ9 : u_T := fun k => match k with
  | _ => ("", "", "", false)
def tyJ9 : Nat → FieldType := fun k => match k with
  | _ => .int
theorem nmJ9 : ∀ a, a < 0 → ∀ b, b < 0 → a ≠ b → (TJ9 a).2.1 ≠ (TJ9 b).2.1 := by decide +kernel
theorem tyJ9_ok : ∀ k, k < 0 → parseFieldDescriptor (TJ9 k).2.2.1 = some (tyJ9 k) := by decide +kernel
abbrev cJ9_min_7cf53 : ByteArray := prog_16_method_69_code
def yJ9_min_7cf53 : MethodName := ⟨RJ9, "min", "(II)I"⟩
abbrev cJ9_min_f86c9 : ByteArray := prog_16_method_70_code
def yJ9_min_f86c9 : MethodName := ⟨RJ9, "min", "(JJ)J"⟩
def RJxde1cd : String := "java/lang/NegativeArraySizeException"
def TJxde1cd : u_T := fun k => match k with
  | 0 => ("java/lang/Throwable", "cause", "Ljava/lang/Throwable;", false)
  | 1 => ("java/lang/Throwable", "stackTrace", "[Ljava/lang/StackTraceElement;", false)
  | 2 => ("java/lang/Throwable", "suppressedExceptions", "Ljava/util/List;", false)
  | 3 => ("java/lang/Throwable", "detailMessage", "Ljava/lang/String;", false)
  | 4 => ("java/lang/Throwable", "backtrace", "Ljava/lang/Object;", false)
  | _ => ("java/lang/Throwable", "depth", "I", false)
def tyJxde1cd : Nat → FieldType := fun k => match k with
  | 0 => .object "java/lang/Throwable"
  | 1 => .array (.object "java/lang/StackTraceElement")
  | 2 => .object "java/util/List"
  | 3 => .object "java/lang/String"
  | 4 => .object "java/lang/Object"
  | _ => .int
theorem nmJxde1cd : ∀ a, a < 6 → ∀ b, b < 6 → a ≠ b → (TJxde1cd a).2.1 ≠ (TJxde1cd b).2.1 := by decide +kernel
theorem tyJxde1cd_ok : ∀ k, k < 6 → parseFieldDescriptor (TJxde1cd k).2.2.1 = some (tyJxde1cd k) := by decide +kernel
abbrev cJxde1cd_init_a7421 : ByteArray := prog_17_method_2_code
def yJxde1cd_init_a7421 : MethodName := ⟨RJxde1cd, "<init>", "(Ljava/lang/String;)V"⟩
def RJ0 : String := "java/lang/String"
def TJ0 : u_T := fun k => match k with
  | _ => ("", "", "", false)
def tyJ0 : Nat → FieldType := fun k => match k with
  | _ => .int
theorem nmJ0 : ∀ a, a < 0 → ∀ b, b < 0 → a ≠ b → (TJ0 a).2.1 ≠ (TJ0 b).2.1 := by decide +kernel
theorem tyJ0_ok : ∀ k, k < 0 → parseFieldDescriptor (TJ0 k).2.2.1 = some (tyJ0 k) := by decide +kernel
abbrev cJ0_length_8abf5 : ByteArray := prog_19_method_54_code
def yJ0_length_8abf5 : MethodName := ⟨RJ0, "length", "()I"⟩
abbrev cJ0_charAt_5068e : ByteArray := prog_19_method_56_code
def yJ0_charAt_5068e : MethodName := ⟨RJ0, "charAt", "(I)C"⟩
abbrev cJ0_coder_7d493 : ByteArray := prog_19_method_152_code
def yJ0_coder_7d493 : MethodName := ⟨RJ0, "coder", "()B"⟩
abbrev cJ0_isLatin1_aae02 : ByteArray := prog_19_method_154_code
def yJ0_isLatin1_aae02 : MethodName := ⟨RJ0, "isLatin1", "()Z"⟩
abbrev cJ0_checkIndex_df160 : ByteArray := prog_19_method_155_code
def yJ0_checkIndex_df160 : MethodName := ⟨RJ0, "checkIndex", "(II)V"⟩
def RJ1 : String := "java/lang/StringLatin1"
def TJ1 : u_T := fun k => match k with
  | _ => ("", "", "", false)
def tyJ1 : Nat → FieldType := fun k => match k with
  | _ => .int
theorem nmJ1 : ∀ a, a < 0 → ∀ b, b < 0 → a ≠ b → (TJ1 a).2.1 ≠ (TJ1 b).2.1 := by decide +kernel
theorem tyJ1_ok : ∀ k, k < 0 → parseFieldDescriptor (TJ1 k).2.2.1 = some (tyJ1 k) := by decide +kernel
abbrev cJ1_charAt_3b067 : ByteArray := prog_20_method_2_code
def yJ1_charAt_3b067 : MethodName := ⟨RJ1, "charAt", "([BI)C"⟩
def RJ2 : String := "java/lang/StringUTF16"
def TJ2 : u_T := fun k => match k with
  | _ => ("", "", "", false)
def tyJ2 : Nat → FieldType := fun k => match k with
  | _ => .int
theorem nmJ2 : ∀ a, a < 0 → ∀ b, b < 0 → a ≠ b → (TJ2 a).2.1 ≠ (TJ2 b).2.1 := by decide +kernel
theorem tyJ2_ok : ∀ k, k < 0 → parseFieldDescriptor (TJ2 k).2.2.1 = some (tyJ2 k) := by decide +kernel
abbrev cJ2_getChar_3b067 : ByteArray := prog_21_method_5_code
def yJ2_getChar_3b067 : MethodName := ⟨RJ2, "getChar", "([BI)C"⟩
abbrev cJ2_length_9d52b : ByteArray := prog_21_method_6_code
def yJ2_length_9d52b : MethodName := ⟨RJ2, "length", "([B)I"⟩
abbrev cJ2_charAt_3b067 : ByteArray := prog_21_method_83_code
def yJ2_charAt_3b067 : MethodName := ⟨RJ2, "charAt", "([BI)C"⟩
abbrev cJ2_checkIndex_2214a : ByteArray := prog_21_method_91_code
def yJ2_checkIndex_2214a : MethodName := ⟨RJ2, "checkIndex", "(I[B)V"⟩
def RJ10 : String := "java/lang/System"
def TJ10 : u_T := fun k => match k with
  | _ => ("", "", "", false)
def tyJ10 : Nat → FieldType := fun k => match k with
  | _ => .int
theorem nmJ10 : ∀ a, a < 0 → ∀ b, b < 0 → a ≠ b → (TJ10 a).2.1 ≠ (TJ10 b).2.1 := by decide +kernel
theorem tyJ10_ok : ∀ k, k < 0 → parseFieldDescriptor (TJ10 k).2.2.1 = some (tyJ10 k) := by decide +kernel
def RJ7 : String := "java/util/Arrays"
def TJ7 : u_T := fun k => match k with
  | _ => ("", "", "", false)
def tyJ7 : Nat → FieldType := fun k => match k with
  | _ => .int
theorem nmJ7 : ∀ a, a < 0 → ∀ b, b < 0 → a ≠ b → (TJ7 a).2.1 ≠ (TJ7 b).2.1 := by decide +kernel
theorem tyJ7_ok : ∀ k, k < 0 → parseFieldDescriptor (TJ7 k).2.2.1 = some (tyJ7 k) := by decide +kernel
abbrev cJ7_fill_031fb : ByteArray := prog_24_method_109_code
def yJ7_fill_031fb : MethodName := ⟨RJ7, "fill", "([BB)V"⟩
abbrev cJ7_copyOf_9075b : ByteArray := prog_24_method_121_code
def yJ7_copyOf_9075b : MethodName := ⟨RJ7, "copyOf", "([BI)[B"⟩
def RJ3 : String := "jdk/internal/util/Preconditions"
def TJ3 : u_T := fun k => match k with
  | _ => ("", "", "", false)
def tyJ3 : Nat → FieldType := fun k => match k with
  | _ => .int
theorem nmJ3 : ∀ a, a < 0 → ∀ b, b < 0 → a ≠ b → (TJ3 a).2.1 ≠ (TJ3 b).2.1 := by decide +kernel
theorem tyJ3_ok : ∀ k, k < 0 → parseFieldDescriptor (TJ3 k).2.2.1 = some (tyJ3 k) := by decide +kernel
abbrev cJ3_checkIndex_8e157 : ByteArray := prog_25_method_11_code
def yJ3_checkIndex_8e157 : MethodName := ⟨RJ3, "checkIndex", "(IILjava/util/function/BiFunction;)I"⟩
def RL : String := "ClassMaker4Law"
abbrev cL_at : ByteArray := method_3_code
def yL_at : MethodName := ⟨RL, "at", "(LClassMaker4;III[J)I"⟩
abbrev cL_octet : ByteArray := method_4_code
def yL_octet : MethodName := ⟨RL, "octet", "(LClassMaker4;II[J)I"⟩
abbrev cL_plain : ByteArray := method_5_code
def yL_plain : MethodName := ⟨RL, "plain", "(LClassMaker4;IJJ[J)I"⟩
abbrev cL_law : ByteArray := code
def yL_law : MethodName := ⟨RL, "law", "([I)Z"⟩
abbrev vwCl : List vw_C := [(RJx00060, TJx00060, 6), (RJxde1cd, TJxde1cd, 6), (RX0, TX0, 5), (RX1, TX1, 1), (RX2, TX2, 9), (RX3, TX3, 5), (RX4, TX4, 3), (RX5, TX5, 9), (RX6, TX6, 4), (RX7, TX7, 5), (RX8, TX8, 31)]
