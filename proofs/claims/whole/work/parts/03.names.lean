def RX0 : String := "BitRows$Row"
def RX1 : String := "BitRows$Track"
def RX2 : String := "BitRows"
def RX3 : String := "BitRowsModel"
def RL : String := "BitRowsLaw"
def RJ7 : String := "java/util/Arrays"
def TX0 : u_T := fun k => match k with
  | 0 => ("BitRows$Row", "lowFirst", "Z", true)
  | 1 => ("BitRows$Row", "bytes", "[I", true)
  | _ => ("BitRows$Row", "count", "I", false)
def tyX0 : Nat → FieldType := fun k => match k with
  | 0 => .boolean
  | 1 => .array .int
  | _ => .int
theorem nmX0 : ∀ a, a < 3 → ∀ b, b < 3 → a ≠ b → (TX0 a).2.1 ≠ (TX0 b).2.1 := by decide +kernel
theorem tyX0_ok : ∀ k, k < 3 → parseFieldDescriptor (TX0 k).2.2.1 = some (tyX0 k) := by decide +kernel
def TX1 : u_T := fun k => match k with
  | 0 => ("BitRows$Track", "row", "LBitRows$Row;", true)
  | 1 => ("BitRows$Track", "stuffing", "I", true)
  | 2 => ("BitRows$Track", "stuffedInByte", "I", true)
  | 3 => ("BitRows$Track", "place", "I", false)
  | 4 => ("BitRows$Track", "stuffed", "I", false)
  | 5 => ("BitRows$Track", "ones", "I", false)
  | _ => ("BitRows$Track", "markEnd", "I", false)
def tyX1 : Nat → FieldType := fun k => match k with
  | 0 => .object "BitRows$Row"
  | 1 => .int
  | 2 => .int
  | 3 => .int
  | 4 => .int
  | 5 => .int
  | _ => .int
theorem nmX1 : ∀ a, a < 7 → ∀ b, b < 7 → a ≠ b → (TX1 a).2.1 ≠ (TX1 b).2.1 := by decide +kernel
theorem tyX1_ok : ∀ k, k < 7 → parseFieldDescriptor (TX1 k).2.2.1 = some (tyX1 k) := by decide +kernel
def TX2 : u_T := fun k => match k with
  | 0 => ("BitRows", "stuffing", "I", true)
  | 1 => ("BitRows", "lowFirst", "Z", true)
  | 2 => ("BitRows", "stuffsAtOnce", "Z", true)
  | 3 => ("BitRows", "written", "LBitRows$Row;", true)
  | 4 => ("BitRows", "writing", "LBitRows$Track;", true)
  | 5 => ("BitRows", "came", "LBitRows$Row;", true)
  | 6 => ("BitRows", "reading", "LBitRows$Track;", true)
  | _ => ("BitRows", "bad", "Z", false)
def tyX2 : Nat → FieldType := fun k => match k with
  | 0 => .int
  | 1 => .boolean
  | 2 => .boolean
  | 3 => .object "BitRows$Row"
  | 4 => .object "BitRows$Track"
  | 5 => .object "BitRows$Row"
  | 6 => .object "BitRows$Track"
  | _ => .boolean
theorem nmX2 : ∀ a, a < 8 → ∀ b, b < 8 → a ≠ b → (TX2 a).2.1 ≠ (TX2 b).2.1 := by decide +kernel
theorem tyX2_ok : ∀ k, k < 8 → parseFieldDescriptor (TX2 k).2.2.1 = some (tyX2 k) := by decide +kernel
def TX3 : u_T := fun k => match k with
  | 0 => ("BitRowsModel", "thrown", "I", false)
  | 1 => ("BitRowsModel", "stuffing", "I", true)
  | 2 => ("BitRowsModel", "low", "Z", true)
  | 3 => ("BitRowsModel", "bits", "[Z", true)
  | 4 => ("BitRowsModel", "written", "I", false)
  | 5 => ("BitRowsModel", "stuffed", "I", false)
  | 6 => ("BitRowsModel", "ones", "I", false)
  | 7 => ("BitRowsModel", "after", "Z", false)
  | 8 => ("BitRowsModel", "came", "[I", true)
  | 9 => ("BitRowsModel", "cameCount", "I", false)
  | 10 => ("BitRowsModel", "read", "I", false)
  | 11 => ("BitRowsModel", "readStuffed", "I", false)
  | 12 => ("BitRowsModel", "readOnes", "I", false)
  | 13 => ("BitRowsModel", "readAfter", "Z", false)
  | 14 => ("BitRowsModel", "bad", "Z", false)
  | 15 => ("BitRowsModel", "tried", "I", false)
  | 16 => ("BitRowsModel", "triedStuffed", "I", false)
  | 17 => ("BitRowsModel", "triedOnes", "I", false)
  | _ => ("BitRowsModel", "triedAfter", "Z", false)
def tyX3 : Nat → FieldType := fun k => match k with
  | 0 => .int
  | 1 => .int
  | 2 => .boolean
  | 3 => .array .boolean
  | 4 => .int
  | 5 => .int
  | 6 => .int
  | 7 => .boolean
  | 8 => .array .int
  | 9 => .int
  | 10 => .int
  | 11 => .int
  | 12 => .int
  | 13 => .boolean
  | 14 => .boolean
  | 15 => .int
  | 16 => .int
  | 17 => .int
  | _ => .boolean
theorem nmX3 : ∀ a, a < 19 → ∀ b, b < 19 → a ≠ b → (TX3 a).2.1 ≠ (TX3 b).2.1 := by decide +kernel
theorem tyX3_ok : ∀ k, k < 19 → parseFieldDescriptor (TX3 k).2.2.1 = some (tyX3 k) := by decide +kernel
abbrev cX2_init : ByteArray := prog_1_method_1_code
def yX2_init : MethodName := ⟨RX2, "<init>", "(II)V"⟩
abbrev cX0_init : ByteArray := prog_2_method_1_code
def yX0_init : MethodName := ⟨RX0, "<init>", "(Z)V"⟩
abbrev cX1_init : ByteArray := prog_3_method_1_code
def yX1_init : MethodName := ⟨RX1, "<init>", "(LBitRows$Row;IZ)V"⟩
abbrev cX2_skip : ByteArray := prog_1_method_10_code
def yX2_skip : MethodName := ⟨RX2, "skip", "()I"⟩
abbrev cX1_isAligned : ByteArray := prog_3_method_6_code
def yX1_isAligned : MethodName := ⟨RX1, "isAligned", "()Z"⟩
abbrev cX1_isAtByte : ByteArray := prog_3_method_5_code
def yX1_isAtByte : MethodName := ⟨RX1, "isAtByte", "()Z"⟩
abbrev cX1_isBehindFullByte : ByteArray := prog_3_method_11_code
def yX1_isBehindFullByte : MethodName := ⟨RX1, "isBehindFullByte", "()Z"⟩
abbrev cX0_byteOf : ByteArray := prog_2_method_3_code
def yX0_byteOf : MethodName := ⟨RX0, "byteOf", "(I)I"⟩
abbrev cX1_isStuffedDue : ByteArray := prog_3_method_7_code
def yX1_isStuffedDue : MethodName := ⟨RX1, "isStuffedDue", "()Z"⟩
abbrev cX1_stepOverStuffed : ByteArray := prog_3_method_9_code
def yX1_stepOverStuffed : MethodName := ⟨RX1, "stepOverStuffed", "()V"⟩
abbrev cX0_bitOf : ByteArray := prog_2_method_5_code
def yX0_bitOf : MethodName := ⟨RX0, "bitOf", "(I)I"⟩
abbrev cX0_shiftInByte : ByteArray := prog_2_method_10_code
def yX0_shiftInByte : MethodName := ⟨RX0, "shiftInByte", "(I)I"⟩
abbrev cX1_stepOver : ByteArray := prog_3_method_8_code
def yX1_stepOver : MethodName := ⟨RX1, "stepOver", "(I)V"⟩
abbrev cX2_take : ByteArray := prog_1_method_11_code
def yX2_take : MethodName := ⟨RX2, "take", "()I"⟩
abbrev cX0_isMarkAt : ByteArray := prog_2_method_7_code
def yX0_isMarkAt : MethodName := ⟨RX0, "isMarkAt", "(I)Z"⟩
abbrev cX1_stepOverMark : ByteArray := prog_3_method_10_code
def yX1_stepOverMark : MethodName := ⟨RX1, "stepOverMark", "()V"⟩
abbrev cX2_told : ByteArray := prog_1_method_14_code
def yX2_told : MethodName := ⟨RX2, "told", "(I)I"⟩
abbrev cX2_clear : ByteArray := prog_1_method_15_code
def yX2_clear : MethodName := ⟨RX2, "clear", "()V"⟩
abbrev cX0_empty : ByteArray := prog_2_method_2_code
def yX0_empty : MethodName := ⟨RX0, "empty", "()V"⟩
abbrev cJ7_fill : ByteArray := prog_15_method_103_code
def yJ7_fill : MethodName := ⟨RJ7, "fill", "([II)V"⟩
abbrev cX1_goToStart : ByteArray := prog_3_method_2_code
def yX1_goToStart : MethodName := ⟨RX1, "goToStart", "()V"⟩
abbrev cX1_goBack : ByteArray := prog_3_method_3_code
def yX1_goBack : MethodName := ⟨RX1, "goBack", "(III)V"⟩
abbrev cL_cell : ByteArray := method_2_code
def yL_cell : MethodName := ⟨RL, "cell", "([II)I"⟩
abbrev cL_put : ByteArray := method_3_code
def yL_put : MethodName := ⟨RL, "put", "(LBitRows;II[J)I"⟩
abbrev cX2_put : ByteArray := prog_1_method_2_code
def yX2_put : MethodName := ⟨RX2, "put", "(II)I"⟩
abbrev cX2_refuseOtherWidths : ByteArray := prog_1_method_16_code
def yX2_refuseOtherWidths : MethodName := ⟨RX2, "refuseOtherWidths", "(I)V"⟩
abbrev cX2_refuseToOverfill : ByteArray := prog_1_method_17_code
def yX2_refuseToOverfill : MethodName := ⟨RX2, "refuseToOverfill", "(I)V"⟩
abbrev cX2_writeStuffedIfDue : ByteArray := prog_1_method_21_code
def yX2_writeStuffedIfDue : MethodName := ⟨RX2, "writeStuffedIfDue", "()V"⟩
abbrev cX0_setBit : ByteArray := prog_2_method_6_code
def yX0_setBit : MethodName := ⟨RX0, "setBit", "(II)V"⟩
abbrev cX2_shiftOf : ByteArray := prog_1_method_19_code
def yX2_shiftOf : MethodName := ⟨RX2, "shiftOf", "(II)I"⟩
abbrev cX2_writeBit : ByteArray := prog_1_method_20_code
def yX2_writeBit : MethodName := ⟨RX2, "writeBit", "(I)V"⟩
abbrev cL_align : ByteArray := method_4_code
def yL_align : MethodName := ⟨RL, "align", "(LBitRows;[J)I"⟩
abbrev cX2_align : ByteArray := prog_1_method_3_code
def yX2_align : MethodName := ⟨RX2, "align", "()I"⟩
abbrev cX2_writeTillAligned : ByteArray := prog_1_method_22_code
def yX2_writeTillAligned : MethodName := ⟨RX2, "writeTillAligned", "()I"⟩
abbrev cL_mark : ByteArray := method_5_code
def yL_mark : MethodName := ⟨RL, "mark", "(LBitRows;I[J)I"⟩
abbrev cX2_mark : ByteArray := prog_1_method_4_code
def yX2_mark : MethodName := ⟨RX2, "mark", "(I)I"⟩
abbrev cX0_addByte : ByteArray := prog_2_method_4_code
def yX0_addByte : MethodName := ⟨RX0, "addByte", "(I)V"⟩
abbrev cL_patch : ByteArray := method_6_code
def yL_patch : MethodName := ⟨RL, "patch", "(LBitRows;III[J)I"⟩
abbrev cX2_patch : ByteArray := prog_1_method_5_code
def yX2_patch : MethodName := ⟨RX2, "patch", "(III)I"⟩
abbrev cL_byteAt : ByteArray := method_7_code
def yL_byteAt : MethodName := ⟨RL, "byteAt", "(LBitRows;I[J)I"⟩
abbrev cX2_byteAt : ByteArray := prog_1_method_6_code
def yX2_byteAt : MethodName := ⟨RX2, "byteAt", "(I)I"⟩
abbrev cL_feed : ByteArray := method_8_code
def yL_feed : MethodName := ⟨RL, "feed", "(LBitRows;I[J)I"⟩
abbrev cX2_feed : ByteArray := prog_1_method_7_code
def yX2_feed : MethodName := ⟨RX2, "feed", "(I)I"⟩
abbrev cX2_refuseMoreBytes : ByteArray := prog_1_method_18_code
def yX2_refuseMoreBytes : MethodName := ⟨RX2, "refuseMoreBytes", "(I)V"⟩
abbrev cL_pass : ByteArray := method_9_code
def yL_pass : MethodName := ⟨RL, "pass", "(LBitRows;II[J)I"⟩
abbrev cX2_pass : ByteArray := prog_1_method_8_code
def yX2_pass : MethodName := ⟨RX2, "pass", "(II)I"⟩
abbrev cL_get : ByteArray := method_10_code
def yL_get : MethodName := ⟨RL, "get", "(LBitRows;I[J)I"⟩
abbrev cX2_get : ByteArray := prog_1_method_9_code
def yX2_get : MethodName := ⟨RX2, "get", "(I)J"⟩
abbrev cX2_readBit : ByteArray := prog_1_method_23_code
def yX2_readBit : MethodName := ⟨RX2, "readBit", "()I"⟩
abbrev cX2_meetHere : ByteArray := prog_1_method_24_code
def yX2_meetHere : MethodName := ⟨RX2, "meetHere", "()I"⟩
abbrev cX1_isWithin : ByteArray := prog_3_method_4_code
def yX1_isWithin : MethodName := ⟨RX1, "isWithin", "()Z"⟩
abbrev cX2_readStuffedIfDue : ByteArray := prog_1_method_25_code
def yX2_readStuffedIfDue : MethodName := ⟨RX2, "readStuffedIfDue", "()I"⟩
abbrev cL_find : ByteArray := method_11_code
def yL_find : MethodName := ⟨RL, "find", "(LBitRows;I[J)I"⟩
abbrev cX2_find : ByteArray := prog_1_method_12_code
def yX2_find : MethodName := ⟨RX2, "find", "(I)I"⟩
abbrev cL_sum : ByteArray := method_12_code
def yL_sum : MethodName := ⟨RL, "sum", "(LBitRows;ZIII[J)I"⟩
abbrev cX2_sum : ByteArray := prog_1_method_13_code
def yX2_sum : MethodName := ⟨RX2, "sum", "(ZIII)I"⟩
abbrev cX0_sumOf16 : ByteArray := prog_2_method_8_code
def yX0_sumOf16 : MethodName := ⟨RX0, "sumOf16", "(II)I"⟩
abbrev cX0_sumOf32 : ByteArray := prog_2_method_9_code
def yX0_sumOf32 : MethodName := ⟨RX0, "sumOf32", "(II)I"⟩
abbrev cX3_init : ByteArray := prog_5_method_1_code
def yX3_init : MethodName := ⟨RX3, "<init>", "(II)V"⟩
abbrev cX3_thrown : ByteArray := prog_5_method_2_code
def yX3_thrown : MethodName := ⟨RX3, "thrown", "()I"⟩
abbrev cX3_put : ByteArray := prog_5_method_9_code
def yX3_put : MethodName := ⟨RX3, "put", "(II)I"⟩
abbrev cX3_isIn : ByteArray := prog_5_method_3_code
def yX3_isIn : MethodName := ⟨RX3, "isIn", "(JJJ)Z"⟩
abbrev cX3_isFull : ByteArray := prog_5_method_4_code
def yX3_isFull : MethodName := ⟨RX3, "isFull", "(I)Z"⟩
abbrev cX3_putBit : ByteArray := prog_5_method_8_code
def yX3_putBit : MethodName := ⟨RX3, "putBit", "(Z)I"⟩
abbrev cX3_stuff : ByteArray := prog_5_method_7_code
def yX3_stuff : MethodName := ⟨RX3, "stuff", "()V"⟩
abbrev cX3_add : ByteArray := prog_5_method_6_code
def yX3_add : MethodName := ⟨RX3, "add", "(Z)V"⟩
abbrev cX3_byteOf : ByteArray := prog_5_method_5_code
def yX3_byteOf : MethodName := ⟨RX3, "byteOf", "(I)I"⟩
abbrev cX3_align : ByteArray := prog_5_method_11_code
def yX3_align : MethodName := ⟨RX3, "align", "()I"⟩
abbrev cX3_alignAll : ByteArray := prog_5_method_10_code
def yX3_alignAll : MethodName := ⟨RX3, "alignAll", "()I"⟩
abbrev cX3_mark : ByteArray := prog_5_method_12_code
def yX3_mark : MethodName := ⟨RX3, "mark", "(I)I"⟩
abbrev cX3_patch : ByteArray := prog_5_method_13_code
def yX3_patch : MethodName := ⟨RX3, "patch", "(III)I"⟩
abbrev cX3_byteAt : ByteArray := prog_5_method_15_code
def yX3_byteAt : MethodName := ⟨RX3, "byteAt", "(I)I"⟩
abbrev cX3_bytesWritten : ByteArray := prog_5_method_14_code
def yX3_bytesWritten : MethodName := ⟨RX3, "bytesWritten", "()I"⟩
abbrev cX3_feed : ByteArray := prog_5_method_16_code
def yX3_feed : MethodName := ⟨RX3, "feed", "(I)I"⟩
abbrev cX3_pass : ByteArray := prog_5_method_17_code
def yX3_pass : MethodName := ⟨RX3, "pass", "(II)I"⟩
abbrev cX3_get : ByteArray := prog_5_method_25_code
def yX3_get : MethodName := ⟨RX3, "get", "(I)J"⟩
abbrev cX3_beginTry : ByteArray := prog_5_method_23_code
def yX3_beginTry : MethodName := ⟨RX3, "beginTry", "()V"⟩
abbrev cX3_tryBit : ByteArray := prog_5_method_22_code
def yX3_tryBit : MethodName := ⟨RX3, "tryBit", "()I"⟩
abbrev cX3_obstacle : ByteArray := prog_5_method_21_code
def yX3_obstacle : MethodName := ⟨RX3, "obstacle", "()I"⟩
abbrev cX3_bitAt : ByteArray := prog_5_method_19_code
def yX3_bitAt : MethodName := ⟨RX3, "bitAt", "(I)I"⟩
abbrev cX3_goOn : ByteArray := prog_5_method_20_code
def yX3_goOn : MethodName := ⟨RX3, "goOn", "()V"⟩
abbrev cX3_keepTry : ByteArray := prog_5_method_24_code
def yX3_keepTry : MethodName := ⟨RX3, "keepTry", "()V"⟩
abbrev cX3_skip : ByteArray := prog_5_method_26_code
def yX3_skip : MethodName := ⟨RX3, "skip", "()I"⟩
abbrev cX3_take : ByteArray := prog_5_method_27_code
def yX3_take : MethodName := ⟨RX3, "take", "()I"⟩
abbrev cX3_isMark : ByteArray := prog_5_method_18_code
def yX3_isMark : MethodName := ⟨RX3, "isMark", "(I)Z"⟩
abbrev cX3_find : ByteArray := prog_5_method_28_code
def yX3_find : MethodName := ⟨RX3, "find", "(I)I"⟩
abbrev cX3_sum : ByteArray := prog_5_method_31_code
def yX3_sum : MethodName := ⟨RX3, "sum", "(ZIII)I"⟩
abbrev cX3_sum16 : ByteArray := prog_5_method_29_code
def yX3_sum16 : MethodName := ⟨RX3, "sum16", "(II)I"⟩
abbrev cX3_sum32 : ByteArray := prog_5_method_30_code
def yX3_sum32 : MethodName := ⟨RX3, "sum32", "(II)I"⟩
abbrev cX3_told : ByteArray := prog_5_method_32_code
def yX3_told : MethodName := ⟨RX3, "told", "(I)I"⟩
abbrev cX3_clear : ByteArray := prog_5_method_33_code
def yX3_clear : MethodName := ⟨RX3, "clear", "()V"⟩
abbrev cL_law : ByteArray := code
def yL_law : MethodName := ⟨RL, "law", "([I)Z"⟩
abbrev vwCl : List vw_C := [(RX0, TX0, 3), (RX1, TX1, 7), (RX2, TX2, 8), (RX3, TX3, 19)]
def g0 : List Cond := [(Cond.selects RX1 yX1_isBehindFullByte yX1_isBehindFullByte), (Cond.selects RX0 yX0_shiftInByte yX0_shiftInByte), (Cond.selects RX2 yX2_refuseToOverfill yX2_refuseToOverfill), (Cond.selects RX2 yX2_writeStuffedIfDue yX2_writeStuffedIfDue), (Cond.selects RX2 yX2_shiftOf yX2_shiftOf), (Cond.selects RX2 yX2_writeBit yX2_writeBit), (Cond.selects RX2 yX2_writeTillAligned yX2_writeTillAligned), (Cond.selects RX2 yX2_refuseMoreBytes yX2_refuseMoreBytes), (Cond.selects RX2 yX2_readBit yX2_readBit), (Cond.selects RX2 yX2_meetHere yX2_meetHere), (Cond.selects RX2 yX2_readStuffedIfDue yX2_readStuffedIfDue), (Cond.selects RX3 yX3_isFull yX3_isFull), (Cond.selects RX3 yX3_putBit yX3_putBit), (Cond.selects RX3 yX3_stuff yX3_stuff), (Cond.selects RX3 yX3_add yX3_add), (Cond.selects RX3 yX3_byteOf yX3_byteOf), (Cond.selects RX3 yX3_alignAll yX3_alignAll), (Cond.selects RX3 yX3_bytesWritten yX3_bytesWritten), (Cond.selects RX3 yX3_beginTry yX3_beginTry), (Cond.selects RX3 yX3_tryBit yX3_tryBit), (Cond.selects RX3 yX3_obstacle yX3_obstacle), (Cond.selects RX3 yX3_bitAt yX3_bitAt), (Cond.selects RX3 yX3_goOn yX3_goOn), (Cond.selects RX3 yX3_keepTry yX3_keepTry), (Cond.selects RX3 yX3_isMark yX3_isMark)]
def g1 : List Cond := [(Cond.initialized RL), (Cond.initialized RX2), (Cond.initialized "java/lang/Math"), (Cond.initialized RX0), (Cond.initialized RX1), (Cond.initialized RX3), (Cond.initialized "java/lang/Throwable"), (Cond.initialized "java/lang/Exception"), (Cond.initialized "java/lang/RuntimeException"), (Cond.initialized "java/lang/IllegalArgumentException"), (Cond.initialized "java/lang/UnsupportedOperationException"), (Cond.initialized "java/lang/IllegalStateException"), (Cond.initialized "java/lang/IndexOutOfBoundsException"), (Cond.initialized RJ7), (Cond.classLink RL 8 RX2), (Cond.instantiable RX2 8), (Cond.methodLink RL 59 yX2_init), (Cond.instanceMethod yX2_init), (Cond.code yX2_init prog_1_method_1_code 3 none), (Cond.methodLink RX2 1 objectInit), (Cond.instanceMethod objectInit), (Cond.code objectInit object_method_1_code 1 none), (Cond.methodLink RX2 9 ⟨"java/lang/Math", "min", "(II)I"⟩), (Cond.static ⟨"java/lang/Math", "min", "(II)I"⟩), (Cond.code ⟨"java/lang/Math", "min", "(II)I"⟩ prog_10_method_69_code 2 (some FieldType.int)), (Cond.methodLink RX2 15 ⟨"java/lang/Math", "max", "(II)I"⟩), (Cond.static ⟨"java/lang/Math", "max", "(II)I"⟩), (Cond.code ⟨"java/lang/Math", "max", "(II)I"⟩ prog_10_method_65_code 2 (some FieldType.int)), (Cond.classLink RX2 29 RX0), (Cond.instantiable RX0 3)]
def g2 : List Cond := [(Cond.methodLink RX2 31 yX0_init), (Cond.instanceMethod yX0_init), (Cond.code yX0_init prog_2_method_1_code 2 none), (Cond.methodLink RX0 3 objectInit), (Cond.fieldLink RX0 9 RX0 "lowFirst" "Z"), (Cond.fieldLink RX0 15 RX0 "bytes" "[I"), (Cond.fieldLink RX0 19 RX0 "count" "I"), (Cond.laysFinal RX0 RX0 "lowFirst" "Z"), (Cond.soleField RX0 "lowFirst"), (Cond.laysFinal RX0 RX0 "bytes" "[I"), (Cond.soleField RX0 "bytes"), (Cond.lays RX0 RX0 "count" "I"), (Cond.soleField RX0 "count"), (Cond.superclass RX0 "java/lang/Object"), (Cond.arrayClass FieldType.int), (Cond.classLink RX2 38 RX1), (Cond.instantiable RX1 7), (Cond.methodLink RX2 40 yX1_init), (Cond.instanceMethod yX1_init), (Cond.code yX1_init prog_3_method_1_code 4 none), (Cond.methodLink RX1 3 objectInit), (Cond.fieldLink RX1 9 RX1 "row" "LBitRows$Row;"), (Cond.fieldLink RX1 15 RX1 "stuffing" "I"), (Cond.fieldLink RX1 19 RX1 "stuffedInByte" "I"), (Cond.fieldLink RX1 22 RX1 "place" "I"), (Cond.fieldLink RX1 25 RX1 "stuffed" "I"), (Cond.fieldLink RX1 28 RX1 "ones" "I"), (Cond.fieldLink RX1 31 RX1 "markEnd" "I"), (Cond.laysFinal RX1 RX1 "row" "LBitRows$Row;"), (Cond.soleField RX1 "row")]
def g3 : List Cond := [(Cond.laysFinal RX1 RX1 "stuffing" "I"), (Cond.soleField RX1 "stuffing"), (Cond.laysFinal RX1 RX1 "stuffedInByte" "I"), (Cond.soleField RX1 "stuffedInByte"), (Cond.lays RX1 RX1 "place" "I"), (Cond.soleField RX1 "place"), (Cond.lays RX1 RX1 "stuffed" "I"), (Cond.soleField RX1 "stuffed"), (Cond.lays RX1 RX1 "ones" "I"), (Cond.soleField RX1 "ones"), (Cond.lays RX1 RX1 "markEnd" "I"), (Cond.soleField RX1 "markEnd"), (Cond.superclass RX1 "java/lang/Object"), (Cond.fieldLink RX2 18 RX2 "stuffing" "I"), (Cond.fieldLink RX2 22 RX2 "lowFirst" "Z"), (Cond.fieldLink RX2 26 RX2 "stuffsAtOnce" "Z"), (Cond.fieldLink RX2 34 RX2 "written" "LBitRows$Row;"), (Cond.fieldLink RX2 43 RX2 "writing" "LBitRows$Track;"), (Cond.fieldLink RX2 47 RX2 "came" "LBitRows$Row;"), (Cond.fieldLink RX2 50 RX2 "reading" "LBitRows$Track;"), (Cond.fieldLink RX2 53 RX2 "bad" "Z"), (Cond.laysFinal RX2 RX2 "stuffing" "I"), (Cond.soleField RX2 "stuffing"), (Cond.laysFinal RX2 RX2 "lowFirst" "Z"), (Cond.soleField RX2 "lowFirst"), (Cond.laysFinal RX2 RX2 "stuffsAtOnce" "Z"), (Cond.soleField RX2 "stuffsAtOnce"), (Cond.laysFinal RX2 RX2 "written" "LBitRows$Row;"), (Cond.soleField RX2 "written"), (Cond.laysFinal RX2 RX2 "writing" "LBitRows$Track;")]
def g4 : List Cond := [(Cond.soleField RX2 "writing"), (Cond.laysFinal RX2 RX2 "came" "LBitRows$Row;"), (Cond.soleField RX2 "came"), (Cond.laysFinal RX2 RX2 "reading" "LBitRows$Track;"), (Cond.soleField RX2 "reading"), (Cond.lays RX2 RX2 "bad" "Z"), (Cond.soleField RX2 "bad"), (Cond.superclass RX2 "java/lang/Object"), (Cond.methodLink RL 96 yX2_skip), (Cond.instanceMethod yX2_skip), (Cond.selects RX2 yX2_skip yX2_skip), (Cond.code yX2_skip prog_1_method_10_code 3 (some FieldType.int)), (Cond.methodLink RX2 144 yX1_isAligned), (Cond.instanceMethod yX1_isAligned), (Cond.selects RX1 yX1_isAligned yX1_isAligned), (Cond.code yX1_isAligned prog_3_method_6_code 1 (some FieldType.boolean)), (Cond.methodLink RX1 43 yX1_isAtByte), (Cond.instanceMethod yX1_isAtByte), (Cond.selects RX1 yX1_isAtByte yX1_isAtByte), (Cond.code yX1_isAtByte prog_3_method_5_code 1 (some FieldType.boolean)), (Cond.methodLink RX1 47 yX1_isBehindFullByte), (Cond.instanceMethod yX1_isBehindFullByte), (Cond.code yX1_isBehindFullByte prog_3_method_11_code 2 (some FieldType.boolean)), (Cond.methodLink RX1 50 yX0_byteOf), (Cond.instanceMethod yX0_byteOf), (Cond.selects RX0 yX0_byteOf yX0_byteOf), (Cond.code yX0_byteOf prog_2_method_3_code 2 (some FieldType.int)), (Cond.methodLink RX2 148 yX1_isStuffedDue), (Cond.instanceMethod yX1_isStuffedDue), (Cond.selects RX1 yX1_isStuffedDue yX1_isStuffedDue)]
def g5 : List Cond := [(Cond.code yX1_isStuffedDue prog_3_method_7_code 1 (some FieldType.boolean)), (Cond.methodLink RX2 151 yX1_stepOverStuffed), (Cond.instanceMethod yX1_stepOverStuffed), (Cond.selects RX1 yX1_stepOverStuffed yX1_stepOverStuffed), (Cond.code yX1_stepOverStuffed prog_3_method_9_code 1 none), (Cond.methodLink RX2 104 yX0_bitOf), (Cond.instanceMethod yX0_bitOf), (Cond.selects RX0 yX0_bitOf yX0_bitOf), (Cond.code yX0_bitOf prog_2_method_5_code 2 (some FieldType.int)), (Cond.methodLink RX0 29 yX0_byteOf), (Cond.methodLink RX0 33 yX0_shiftInByte), (Cond.instanceMethod yX0_shiftInByte), (Cond.code yX0_shiftInByte prog_2_method_10_code 2 (some FieldType.int)), (Cond.methodLink RX2 154 yX1_stepOver), (Cond.instanceMethod yX1_stepOver), (Cond.selects RX1 yX1_stepOver yX1_stepOver), (Cond.code yX1_stepOver prog_3_method_8_code 2 none), (Cond.methodLink RL 100 yX2_take), (Cond.instanceMethod yX2_take), (Cond.selects RX2 yX2_take yX2_take), (Cond.code yX2_take prog_1_method_11_code 2 (some FieldType.int)), (Cond.methodLink RX2 157 yX1_isAtByte), (Cond.methodLink RX2 160 yX0_isMarkAt), (Cond.instanceMethod yX0_isMarkAt), (Cond.selects RX0 yX0_isMarkAt yX0_isMarkAt), (Cond.code yX0_isMarkAt prog_2_method_7_code 2 (some FieldType.boolean)), (Cond.methodLink RX2 94 yX1_stepOverMark), (Cond.instanceMethod yX1_stepOverMark), (Cond.selects RX1 yX1_stepOverMark yX1_stepOverMark), (Cond.code yX1_stepOverMark prog_3_method_10_code 1 none)]
def g6 : List Cond := [(Cond.methodLink RX2 117 yX0_byteOf), (Cond.methodLink RL 111 yX2_told), (Cond.instanceMethod yX2_told), (Cond.selects RX2 yX2_told yX2_told), (Cond.code yX2_told prog_1_method_14_code 2 (some FieldType.int)), (Cond.methodLink RL 115 yX2_clear), (Cond.instanceMethod yX2_clear), (Cond.selects RX2 yX2_clear yX2_clear), (Cond.code yX2_clear prog_1_method_15_code 1 none), (Cond.methodLink RX2 176 yX0_empty), (Cond.instanceMethod yX0_empty), (Cond.selects RX0 yX0_empty yX0_empty), (Cond.code yX0_empty prog_2_method_2_code 1 none), (Cond.methodLink RX0 23 yJ7_fill), (Cond.static yJ7_fill), (Cond.code yJ7_fill prog_15_method_103_code 4 none), (Cond.methodLink RX2 179 yX1_goToStart), (Cond.instanceMethod yX1_goToStart), (Cond.selects RX1 yX1_goToStart yX1_goToStart), (Cond.code yX1_goToStart prog_3_method_2_code 1 none), (Cond.methodLink RX1 34 yX1_goBack), (Cond.instanceMethod yX1_goBack), (Cond.selects RX1 yX1_goBack yX1_goBack), (Cond.code yX1_goBack prog_3_method_3_code 4 none), (Cond.methodLink RL 53 yL_cell), (Cond.static yL_cell), (Cond.code yL_cell method_2_code 2 (some FieldType.int)), (Cond.methodLink RL 65 yL_put), (Cond.static yL_put), (Cond.codeWith yL_put method_3_code 5 (some FieldType.int) [(0, 10, 13, 13), (0, 10, 17, 15)])]
def g7 : List Cond := [(Cond.classLink RL 13 "java/lang/IllegalArgumentException"), (Cond.classLink RL 15 "java/lang/UnsupportedOperationException"), (Cond.methodLink RL 7 yX2_put), (Cond.instanceMethod yX2_put), (Cond.selects RX2 yX2_put yX2_put), (Cond.code yX2_put prog_1_method_2_code 5 (some FieldType.int)), (Cond.methodLink RX2 56 yX2_refuseOtherWidths), (Cond.static yX2_refuseOtherWidths), (Cond.code yX2_refuseOtherWidths prog_1_method_16_code 1 none), (Cond.classLink RX2 86 "java/lang/IllegalArgumentException"), (Cond.instantiable "java/lang/IllegalArgumentException" 6), (Cond.selects "java/lang/IllegalArgumentException" ⟨"java/lang/Throwable", "fillInStackTrace", "(I)Ljava/lang/Throwable;"⟩ ⟨"java/lang/Throwable", "fillInStackTrace", "(I)Ljava/lang/Throwable;"⟩), (Cond.selects "java/lang/IllegalArgumentException" ⟨"java/lang/Throwable", "fillInStackTrace", "()Ljava/lang/Throwable;"⟩ ⟨"java/lang/Throwable", "fillInStackTrace", "()Ljava/lang/Throwable;"⟩), (Cond.lays "java/lang/IllegalArgumentException" "java/lang/Throwable" "cause" "Ljava/lang/Throwable;"), (Cond.lays "java/lang/Throwable" "java/lang/Throwable" "cause" "Ljava/lang/Throwable;"), (Cond.lays "java/lang/IllegalArgumentException" "java/lang/Throwable" "stackTrace" "[Ljava/lang/StackTraceElement;"), (Cond.lays "java/lang/Throwable" "java/lang/Throwable" "stackTrace" "[Ljava/lang/StackTraceElement;"), (Cond.lays "java/lang/IllegalArgumentException" "java/lang/Throwable" "suppressedExceptions" "Ljava/util/List;"), (Cond.lays "java/lang/Throwable" "java/lang/Throwable" "suppressedExceptions" "Ljava/util/List;"), (Cond.lays "java/lang/IllegalArgumentException" "java/lang/Throwable" "detailMessage" "Ljava/lang/String;"), (Cond.lays "java/lang/Throwable" "java/lang/Throwable" "detailMessage" "Ljava/lang/String;"), (Cond.lays "java/lang/IllegalArgumentException" "java/lang/Throwable" "backtrace" "Ljava/lang/Object;"), (Cond.lays "java/lang/Throwable" "java/lang/Throwable" "backtrace" "Ljava/lang/Object;"), (Cond.fieldLink "java/lang/Throwable" 198 "java/lang/Throwable" "backtrace" "Ljava/lang/Object;"), (Cond.superclass "java/lang/Throwable" "java/lang/Object"), (Cond.instanceMethod ⟨"java/lang/Throwable", "<init>", "()V"⟩), (Cond.code ⟨"java/lang/Throwable", "<init>", "()V"⟩ prog_13_method_1_code 1 none), (Cond.methodLink "java/lang/Throwable" 1 objectInit), (Cond.fieldLink "java/lang/Throwable" 13 "java/lang/Throwable" "UNASSIGNED_STACK" "[Ljava/lang/StackTraceElement;"), (Cond.fieldLink "java/lang/Throwable" 20 "java/lang/Throwable" "SUPPRESSED_SENTINEL" "Ljava/util/List;")]
def g8 : List Cond := [(Cond.methodLink "java/lang/Throwable" 27 ⟨"java/lang/Throwable", "fillInStackTrace", "()Ljava/lang/Throwable;"⟩), (Cond.instanceMethod ⟨"java/lang/Throwable", "fillInStackTrace", "()Ljava/lang/Throwable;"⟩), (Cond.sameMethod "java/lang/Throwable" "java/lang/Throwable" "fillInStackTrace" "()Ljava/lang/Throwable;"), (Cond.selects "java/lang/IllegalStateException" ⟨"java/lang/Throwable", "fillInStackTrace", "()Ljava/lang/Throwable;"⟩ ⟨"java/lang/Throwable", "fillInStackTrace", "()Ljava/lang/Throwable;"⟩), (Cond.selects "java/lang/IndexOutOfBoundsException" ⟨"java/lang/Throwable", "fillInStackTrace", "()Ljava/lang/Throwable;"⟩ ⟨"java/lang/Throwable", "fillInStackTrace", "()Ljava/lang/Throwable;"⟩), (Cond.selects "java/lang/UnsupportedOperationException" ⟨"java/lang/Throwable", "fillInStackTrace", "()Ljava/lang/Throwable;"⟩ ⟨"java/lang/Throwable", "fillInStackTrace", "()Ljava/lang/Throwable;"⟩), (Cond.codeSync ⟨"java/lang/Throwable", "fillInStackTrace", "()Ljava/lang/Throwable;"⟩ prog_13_method_18_code 1 (some (FieldType.object "java/lang/Throwable"))), (Cond.methodLink "java/lang/Throwable" 202 ⟨"java/lang/Throwable", "fillInStackTrace", "(I)Ljava/lang/Throwable;"⟩), (Cond.instanceMethod ⟨"java/lang/Throwable", "fillInStackTrace", "(I)Ljava/lang/Throwable;"⟩), (Cond.instantiable "java/lang/Throwable" 6), (Cond.native ⟨"java/lang/Throwable", "fillInStackTrace", "(I)Ljava/lang/Throwable;"⟩), (Cond.methodLink RX2 90 ⟨"java/lang/IllegalArgumentException", "<init>", "(Ljava/lang/String;)V"⟩)]
def g9 : List Cond := [(Cond.instanceMethod ⟨"java/lang/IllegalArgumentException", "<init>", "(Ljava/lang/String;)V"⟩), (Cond.code ⟨"java/lang/IllegalArgumentException", "<init>", "(Ljava/lang/String;)V"⟩ prog_7_method_2_code 2 none), (Cond.methodLink "java/lang/IllegalArgumentException" 7 ⟨"java/lang/RuntimeException", "<init>", "(Ljava/lang/String;)V"⟩), (Cond.instanceMethod ⟨"java/lang/RuntimeException", "<init>", "(Ljava/lang/String;)V"⟩), (Cond.code ⟨"java/lang/RuntimeException", "<init>", "(Ljava/lang/String;)V"⟩ prog_11_method_2_code 2 none), (Cond.methodLink "java/lang/RuntimeException" 7 ⟨"java/lang/Exception", "<init>", "(Ljava/lang/String;)V"⟩), (Cond.instanceMethod ⟨"java/lang/Exception", "<init>", "(Ljava/lang/String;)V"⟩), (Cond.code ⟨"java/lang/Exception", "<init>", "(Ljava/lang/String;)V"⟩ prog_6_method_2_code 2 none), (Cond.methodLink "java/lang/Exception" 7 ⟨"java/lang/Throwable", "<init>", "(Ljava/lang/String;)V"⟩), (Cond.instanceMethod ⟨"java/lang/Throwable", "<init>", "(Ljava/lang/String;)V"⟩), (Cond.code ⟨"java/lang/Throwable", "<init>", "(Ljava/lang/String;)V"⟩ prog_13_method_2_code 2 none), (Cond.fieldLink "java/lang/Throwable" 31 "java/lang/Throwable" "detailMessage" "Ljava/lang/String;"), (Cond.fieldLink "java/lang/Throwable" 7 "java/lang/Throwable" "cause" "Ljava/lang/Throwable;"), (Cond.fieldLink "java/lang/Throwable" 17 "java/lang/Throwable" "stackTrace" "[Ljava/lang/StackTraceElement;"), (Cond.fieldLink "java/lang/Throwable" 24 "java/lang/Throwable" "suppressedExceptions" "Ljava/util/List;"), (Cond.soleField "java/lang/Throwable" "backtrace"), (Cond.soleField "java/lang/Throwable" "detailMessage"), (Cond.soleField "java/lang/Throwable" "cause"), (Cond.soleField "java/lang/Throwable" "stackTrace"), (Cond.lays "java/lang/IllegalArgumentException" "java/lang/Throwable" "depth" "I"), (Cond.soleField "java/lang/Throwable" "depth"), (Cond.soleField "java/lang/Throwable" "suppressedExceptions"), (Cond.superclass "java/lang/IllegalArgumentException" "java/lang/RuntimeException"), (Cond.arrayClass FieldType.byte), (Cond.methodLink RX2 60 yX2_refuseToOverfill), (Cond.instanceMethod yX2_refuseToOverfill), (Cond.code yX2_refuseToOverfill prog_1_method_17_code 2 none), (Cond.classLink RX2 184 "java/lang/UnsupportedOperationException"), (Cond.instantiable "java/lang/UnsupportedOperationException" 6), (Cond.selects "java/lang/UnsupportedOperationException" ⟨"java/lang/Throwable", "fillInStackTrace", "(I)Ljava/lang/Throwable;"⟩ ⟨"java/lang/Throwable", "fillInStackTrace", "(I)Ljava/lang/Throwable;"⟩)]
def g10 : List Cond := [(Cond.lays "java/lang/UnsupportedOperationException" "java/lang/Throwable" "cause" "Ljava/lang/Throwable;"), (Cond.lays "java/lang/UnsupportedOperationException" "java/lang/Throwable" "stackTrace" "[Ljava/lang/StackTraceElement;"), (Cond.lays "java/lang/UnsupportedOperationException" "java/lang/Throwable" "suppressedExceptions" "Ljava/util/List;"), (Cond.lays "java/lang/UnsupportedOperationException" "java/lang/Throwable" "detailMessage" "Ljava/lang/String;"), (Cond.lays "java/lang/UnsupportedOperationException" "java/lang/Throwable" "backtrace" "Ljava/lang/Object;"), (Cond.methodLink RX2 188 ⟨"java/lang/UnsupportedOperationException", "<init>", "(Ljava/lang/String;)V"⟩), (Cond.instanceMethod ⟨"java/lang/UnsupportedOperationException", "<init>", "(Ljava/lang/String;)V"⟩), (Cond.code ⟨"java/lang/UnsupportedOperationException", "<init>", "(Ljava/lang/String;)V"⟩ prog_14_method_2_code 2 none), (Cond.methodLink "java/lang/UnsupportedOperationException" 7 ⟨"java/lang/RuntimeException", "<init>", "(Ljava/lang/String;)V"⟩), (Cond.lays "java/lang/UnsupportedOperationException" "java/lang/Throwable" "depth" "I"), (Cond.superclass "java/lang/UnsupportedOperationException" "java/lang/RuntimeException"), (Cond.methodLink RX2 63 yX2_writeStuffedIfDue), (Cond.instanceMethod yX2_writeStuffedIfDue), (Cond.code yX2_writeStuffedIfDue prog_1_method_21_code 1 none), (Cond.methodLink RX2 108 yX0_setBit), (Cond.instanceMethod yX0_setBit), (Cond.selects RX0 yX0_setBit yX0_setBit), (Cond.code yX0_setBit prog_2_method_6_code 5 none), (Cond.methodLink RX0 36 ⟨"java/lang/Math", "max", "(II)I"⟩), (Cond.methodLink RX2 69 yX2_shiftOf), (Cond.instanceMethod yX2_shiftOf), (Cond.code yX2_shiftOf prog_1_method_19_code 3 (some FieldType.int)), (Cond.methodLink RX2 72 yX2_writeBit), (Cond.instanceMethod yX2_writeBit), (Cond.code yX2_writeBit prog_1_method_20_code 2 none), (Cond.methodLink RL 72 yL_align), (Cond.static yL_align), (Cond.codeWith yL_align method_4_code 3 (some FieldType.int) [(0, 8, 11, 15)]), (Cond.methodLink RL 17 yX2_align), (Cond.instanceMethod yX2_align)]
def g11 : List Cond := [(Cond.selects RX2 yX2_align yX2_align), (Cond.code yX2_align prog_1_method_3_code 1 (some FieldType.int)), (Cond.methodLink RX2 75 yX2_writeTillAligned), (Cond.instanceMethod yX2_writeTillAligned), (Cond.code yX2_writeTillAligned prog_1_method_22_code 3 (some FieldType.int)), (Cond.methodLink RL 76 yL_mark), (Cond.static yL_mark), (Cond.codeWith yL_mark method_5_code 4 (some FieldType.int) [(0, 9, 12, 25), (0, 9, 15, 13), (0, 9, 18, 15)]), (Cond.classLink RL 25 "java/lang/IllegalStateException"), (Cond.methodLink RL 21 yX2_mark), (Cond.instanceMethod yX2_mark), (Cond.selects RX2 yX2_mark yX2_mark), (Cond.code yX2_mark prog_1_method_4_code 3 (some FieldType.int)), (Cond.classLink RX2 79 "java/lang/IllegalStateException"), (Cond.instantiable "java/lang/IllegalStateException" 6), (Cond.selects "java/lang/IllegalStateException" ⟨"java/lang/Throwable", "fillInStackTrace", "(I)Ljava/lang/Throwable;"⟩ ⟨"java/lang/Throwable", "fillInStackTrace", "(I)Ljava/lang/Throwable;"⟩), (Cond.lays "java/lang/IllegalStateException" "java/lang/Throwable" "cause" "Ljava/lang/Throwable;"), (Cond.lays "java/lang/IllegalStateException" "java/lang/Throwable" "stackTrace" "[Ljava/lang/StackTraceElement;"), (Cond.lays "java/lang/IllegalStateException" "java/lang/Throwable" "suppressedExceptions" "Ljava/util/List;"), (Cond.lays "java/lang/IllegalStateException" "java/lang/Throwable" "detailMessage" "Ljava/lang/String;"), (Cond.lays "java/lang/IllegalStateException" "java/lang/Throwable" "backtrace" "Ljava/lang/Object;"), (Cond.methodLink RX2 83 ⟨"java/lang/IllegalStateException", "<init>", "(Ljava/lang/String;)V"⟩), (Cond.instanceMethod ⟨"java/lang/IllegalStateException", "<init>", "(Ljava/lang/String;)V"⟩), (Cond.code ⟨"java/lang/IllegalStateException", "<init>", "(Ljava/lang/String;)V"⟩ prog_8_method_2_code 2 none), (Cond.methodLink "java/lang/IllegalStateException" 7 ⟨"java/lang/RuntimeException", "<init>", "(Ljava/lang/String;)V"⟩), (Cond.lays "java/lang/IllegalStateException" "java/lang/Throwable" "depth" "I"), (Cond.superclass "java/lang/IllegalStateException" "java/lang/RuntimeException"), (Cond.methodLink RX2 91 yX0_addByte), (Cond.instanceMethod yX0_addByte), (Cond.selects RX0 yX0_addByte yX0_addByte)]
def g12 : List Cond := [(Cond.code yX0_addByte prog_2_method_4_code 2 none), (Cond.methodLink RL 80 yL_patch), (Cond.static yL_patch), (Cond.codeWith yL_patch method_6_code 6 (some FieldType.int) [(0, 12, 15, 25), (0, 12, 19, 13), (0, 12, 23, 31)]), (Cond.classLink RL 31 "java/lang/IndexOutOfBoundsException"), (Cond.methodLink RL 27 yX2_patch), (Cond.instanceMethod yX2_patch), (Cond.selects RX2 yX2_patch yX2_patch), (Cond.code yX2_patch prog_1_method_5_code 7 (some FieldType.int)), (Cond.classLink RX2 99 "java/lang/IndexOutOfBoundsException"), (Cond.instantiable "java/lang/IndexOutOfBoundsException" 6), (Cond.selects "java/lang/IndexOutOfBoundsException" ⟨"java/lang/Throwable", "fillInStackTrace", "(I)Ljava/lang/Throwable;"⟩ ⟨"java/lang/Throwable", "fillInStackTrace", "(I)Ljava/lang/Throwable;"⟩), (Cond.lays "java/lang/IndexOutOfBoundsException" "java/lang/Throwable" "cause" "Ljava/lang/Throwable;"), (Cond.lays "java/lang/IndexOutOfBoundsException" "java/lang/Throwable" "stackTrace" "[Ljava/lang/StackTraceElement;"), (Cond.lays "java/lang/IndexOutOfBoundsException" "java/lang/Throwable" "suppressedExceptions" "Ljava/util/List;"), (Cond.lays "java/lang/IndexOutOfBoundsException" "java/lang/Throwable" "detailMessage" "Ljava/lang/String;"), (Cond.lays "java/lang/IndexOutOfBoundsException" "java/lang/Throwable" "backtrace" "Ljava/lang/Object;"), (Cond.methodLink RX2 103 ⟨"java/lang/IndexOutOfBoundsException", "<init>", "(Ljava/lang/String;)V"⟩), (Cond.instanceMethod ⟨"java/lang/IndexOutOfBoundsException", "<init>", "(Ljava/lang/String;)V"⟩), (Cond.code ⟨"java/lang/IndexOutOfBoundsException", "<init>", "(Ljava/lang/String;)V"⟩ prog_9_method_2_code 2 none), (Cond.methodLink "java/lang/IndexOutOfBoundsException" 7 ⟨"java/lang/RuntimeException", "<init>", "(Ljava/lang/String;)V"⟩), (Cond.lays "java/lang/IndexOutOfBoundsException" "java/lang/Throwable" "depth" "I"), (Cond.superclass "java/lang/IndexOutOfBoundsException" "java/lang/RuntimeException"), (Cond.methodLink RL 84 yL_byteAt), (Cond.static yL_byteAt), (Cond.codeWith yL_byteAt method_7_code 4 (some FieldType.int) [(0, 9, 12, 31)]), (Cond.methodLink RL 33 yX2_byteAt), (Cond.instanceMethod yX2_byteAt), (Cond.selects RX2 yX2_byteAt yX2_byteAt), (Cond.code yX2_byteAt prog_1_method_6_code 2 (some FieldType.int))]
def g13 : List Cond := [(Cond.methodLink RL 87 yL_feed), (Cond.static yL_feed), (Cond.codeWith yL_feed method_8_code 4 (some FieldType.int) [(0, 9, 12, 13), (0, 9, 15, 15)]), (Cond.methodLink RL 36 yX2_feed), (Cond.instanceMethod yX2_feed), (Cond.selects RX2 yX2_feed yX2_feed), (Cond.code yX2_feed prog_1_method_7_code 2 (some FieldType.int)), (Cond.methodLink RX2 122 yX2_refuseMoreBytes), (Cond.instanceMethod yX2_refuseMoreBytes), (Cond.code yX2_refuseMoreBytes prog_1_method_18_code 2 none), (Cond.methodLink RL 90 yL_pass), (Cond.static yL_pass), (Cond.codeWith yL_pass method_9_code 5 (some FieldType.int) [(0, 10, 13, 31), (0, 10, 17, 13), (0, 10, 21, 15)]), (Cond.methodLink RL 39 yX2_pass), (Cond.instanceMethod yX2_pass), (Cond.selects RX2 yX2_pass yX2_pass), (Cond.code yX2_pass prog_1_method_8_code 6 (some FieldType.int)), (Cond.methodLink RL 93 yL_get), (Cond.static yL_get), (Cond.codeWith yL_get method_10_code 4 (some FieldType.int) [(0, 8, 11, 13)]), (Cond.methodLink RL 42 yX2_get), (Cond.instanceMethod yX2_get), (Cond.selects RX2 yX2_get yX2_get), (Cond.code yX2_get prog_1_method_9_code 9 (some FieldType.long)), (Cond.constantLong RX2 129 (-3)), (Cond.methodLink RX2 137 yX2_readBit), (Cond.instanceMethod yX2_readBit), (Cond.code yX2_readBit prog_1_method_23_code 3 (some FieldType.int)), (Cond.methodLink RX2 191 yX2_meetHere), (Cond.instanceMethod yX2_meetHere)]
def g14 : List Cond := [(Cond.code yX2_meetHere prog_1_method_24_code 2 (some FieldType.int)), (Cond.methodLink RX2 197 yX1_isWithin), (Cond.instanceMethod yX1_isWithin), (Cond.selects RX1 yX1_isWithin yX1_isWithin), (Cond.code yX1_isWithin prog_3_method_4_code 1 (some FieldType.boolean)), (Cond.methodLink RX2 194 yX2_readStuffedIfDue), (Cond.instanceMethod yX2_readStuffedIfDue), (Cond.code yX2_readStuffedIfDue prog_1_method_25_code 1 (some FieldType.int)), (Cond.methodLink RX2 140 yX1_goBack), (Cond.methodLink RL 104 yL_find), (Cond.static yL_find), (Cond.codeWith yL_find method_11_code 4 (some FieldType.int) [(0, 9, 12, 31)]), (Cond.methodLink RL 46 yX2_find), (Cond.instanceMethod yX2_find), (Cond.selects RX2 yX2_find yX2_find), (Cond.code yX2_find prog_1_method_12_code 3 (some FieldType.int)), (Cond.methodLink RL 107 yL_sum), (Cond.static yL_sum), (Cond.codeWith yL_sum method_12_code 7 (some FieldType.int) [(0, 14, 17, 13), (0, 14, 21, 31)]), (Cond.methodLink RL 49 yX2_sum), (Cond.instanceMethod yX2_sum), (Cond.selects RX2 yX2_sum yX2_sum), (Cond.code yX2_sum prog_1_method_13_code 6 (some FieldType.int)), (Cond.methodLink RX2 170 yX0_sumOf16), (Cond.instanceMethod yX0_sumOf16), (Cond.selects RX0 yX0_sumOf16 yX0_sumOf16), (Cond.code yX0_sumOf16 prog_2_method_8_code 6 (some FieldType.int)), (Cond.constant RX0 42 65535), (Cond.constant RX0 43 32768), (Cond.methodLink RX2 173 yX0_sumOf32)]
def g15 : List Cond := [(Cond.instanceMethod yX0_sumOf32), (Cond.selects RX0 yX0_sumOf32 yX0_sumOf32), (Cond.code yX0_sumOf32 prog_2_method_9_code 6 (some FieldType.int)), (Cond.constant RX0 44 (-306674912)), (Cond.classLink RL 62 RX3), (Cond.instantiable RX3 19), (Cond.methodLink RL 64 yX3_init), (Cond.instanceMethod yX3_init), (Cond.code yX3_init prog_5_method_1_code 3 none), (Cond.methodLink RX3 1 objectInit), (Cond.fieldLink RX3 25 RX3 "thrown" "I"), (Cond.fieldLink RX3 17 RX3 "stuffing" "I"), (Cond.fieldLink RX3 21 RX3 "low" "Z"), (Cond.fieldLink RX3 7 RX3 "bits" "[Z"), (Cond.fieldLink RX3 28 RX3 "written" "I"), (Cond.fieldLink RX3 38 RX3 "stuffed" "I"), (Cond.fieldLink RX3 48 RX3 "ones" "I"), (Cond.fieldLink RX3 35 RX3 "after" "Z"), (Cond.fieldLink RX3 13 RX3 "came" "[I"), (Cond.fieldLink RX3 76 RX3 "cameCount" "I"), (Cond.fieldLink RX3 100 RX3 "read" "I"), (Cond.fieldLink RX3 103 RX3 "readStuffed" "I"), (Cond.fieldLink RX3 106 RX3 "readOnes" "I"), (Cond.fieldLink RX3 109 RX3 "readAfter" "Z"), (Cond.fieldLink RX3 112 RX3 "bad" "Z"), (Cond.fieldLink RX3 79 RX3 "tried" "I"), (Cond.fieldLink RX3 91 RX3 "triedStuffed" "I"), (Cond.fieldLink RX3 97 RX3 "triedOnes" "I"), (Cond.fieldLink RX3 82 RX3 "triedAfter" "Z"), (Cond.lays RX3 RX3 "thrown" "I")]
def g16 : List Cond := [(Cond.soleField RX3 "thrown"), (Cond.laysFinal RX3 RX3 "stuffing" "I"), (Cond.soleField RX3 "stuffing"), (Cond.laysFinal RX3 RX3 "low" "Z")]
def g17 : List Cond := [(Cond.soleField RX3 "low"), (Cond.laysFinal RX3 RX3 "bits" "[Z"), (Cond.soleField RX3 "bits"), (Cond.lays RX3 RX3 "written" "I"), (Cond.soleField RX3 "written"), (Cond.lays RX3 RX3 "stuffed" "I"), (Cond.soleField RX3 "stuffed"), (Cond.lays RX3 RX3 "ones" "I"), (Cond.soleField RX3 "ones"), (Cond.lays RX3 RX3 "after" "Z"), (Cond.soleField RX3 "after"), (Cond.laysFinal RX3 RX3 "came" "[I"), (Cond.soleField RX3 "came"), (Cond.lays RX3 RX3 "cameCount" "I"), (Cond.soleField RX3 "cameCount"), (Cond.lays RX3 RX3 "read" "I"), (Cond.soleField RX3 "read"), (Cond.lays RX3 RX3 "readStuffed" "I"), (Cond.soleField RX3 "readStuffed"), (Cond.lays RX3 RX3 "readOnes" "I"), (Cond.soleField RX3 "readOnes"), (Cond.lays RX3 RX3 "readAfter" "Z"), (Cond.soleField RX3 "readAfter"), (Cond.lays RX3 RX3 "bad" "Z"), (Cond.soleField RX3 "bad"), (Cond.lays RX3 RX3 "tried" "I"), (Cond.soleField RX3 "tried"), (Cond.lays RX3 RX3 "triedStuffed" "I"), (Cond.soleField RX3 "triedStuffed"), (Cond.lays RX3 RX3 "triedOnes" "I")]
def g18 : List Cond := [(Cond.soleField RX3 "triedOnes"), (Cond.lays RX3 RX3 "triedAfter" "Z"), (Cond.soleField RX3 "triedAfter"), (Cond.superclass RX3 "java/lang/Object"), (Cond.arrayClass FieldType.boolean), (Cond.methodLink RL 69 yX3_thrown), (Cond.instanceMethod yX3_thrown), (Cond.selects RX3 yX3_thrown yX3_thrown), (Cond.code yX3_thrown prog_5_method_2_code 1 (some FieldType.int)), (Cond.methodLink RL 68 yX3_put), (Cond.instanceMethod yX3_put), (Cond.selects RX3 yX3_put yX3_put), (Cond.code yX3_put prog_5_method_9_code 6 (some FieldType.int)), (Cond.constantLong RX3 51 32), (Cond.methodLink RX3 53 yX3_isIn), (Cond.static yX3_isIn), (Cond.code yX3_isIn prog_5_method_3_code 6 (some FieldType.boolean)), (Cond.methodLink RX3 57 yX3_isFull), (Cond.instanceMethod yX3_isFull), (Cond.code yX3_isFull prog_5_method_4_code 2 (some FieldType.boolean)), (Cond.methodLink RX3 61 yX3_putBit), (Cond.instanceMethod yX3_putBit), (Cond.code yX3_putBit prog_5_method_8_code 3 (some FieldType.int)), (Cond.methodLink RX3 45 yX3_stuff), (Cond.instanceMethod yX3_stuff), (Cond.code yX3_stuff prog_5_method_7_code 1 none), (Cond.methodLink RX3 41 yX3_add), (Cond.instanceMethod yX3_add), (Cond.code yX3_add prog_5_method_6_code 2 none), (Cond.methodLink RX3 31 yX3_byteOf)]
def g19 : List Cond := [(Cond.instanceMethod yX3_byteOf), (Cond.code yX3_byteOf prog_5_method_5_code 6 (some FieldType.int)), (Cond.methodLink RL 75 yX3_align), (Cond.instanceMethod yX3_align), (Cond.selects RX3 yX3_align yX3_align), (Cond.code yX3_align prog_5_method_11_code 1 (some FieldType.int)), (Cond.methodLink RX3 65 yX3_alignAll), (Cond.instanceMethod yX3_alignAll), (Cond.code yX3_alignAll prog_5_method_10_code 3 (some FieldType.int)), (Cond.methodLink RL 79 yX3_mark), (Cond.instanceMethod yX3_mark), (Cond.selects RX3 yX3_mark yX3_mark), (Cond.code yX3_mark prog_5_method_12_code 5 (some FieldType.int)), (Cond.constantLong RX3 69 128), (Cond.constantLong RX3 71 255), (Cond.methodLink RL 83 yX3_patch), (Cond.instanceMethod yX3_patch), (Cond.selects RX3 yX3_patch yX3_patch), (Cond.code yX3_patch prog_5_method_13_code 7 (some FieldType.int)), (Cond.methodLink RL 86 yX3_byteAt), (Cond.instanceMethod yX3_byteAt), (Cond.selects RX3 yX3_byteAt yX3_byteAt), (Cond.code yX3_byteAt prog_5_method_15_code 2 (some FieldType.int)), (Cond.methodLink RX3 73 yX3_bytesWritten), (Cond.instanceMethod yX3_bytesWritten), (Cond.code yX3_bytesWritten prog_5_method_14_code 1 (some FieldType.int)), (Cond.methodLink RL 89 yX3_feed), (Cond.instanceMethod yX3_feed), (Cond.selects RX3 yX3_feed yX3_feed), (Cond.code yX3_feed prog_5_method_16_code 2 (some FieldType.int))]
def g20 : List Cond := [(Cond.methodLink RL 92 yX3_pass), (Cond.instanceMethod yX3_pass), (Cond.selects RX3 yX3_pass yX3_pass), (Cond.code yX3_pass prog_5_method_17_code 6 (some FieldType.int)), (Cond.methodLink RL 95 yX3_get), (Cond.instanceMethod yX3_get), (Cond.selects RX3 yX3_get yX3_get), (Cond.code yX3_get prog_5_method_25_code 6 (some FieldType.long)), (Cond.constantLong RX3 115 (-3)), (Cond.methodLink RX3 117 yX3_beginTry), (Cond.instanceMethod yX3_beginTry), (Cond.code yX3_beginTry prog_5_method_23_code 1 none), (Cond.methodLink RX3 120 yX3_tryBit), (Cond.instanceMethod yX3_tryBit), (Cond.code yX3_tryBit prog_5_method_22_code 6 (some FieldType.int)), (Cond.methodLink RX3 85 yX3_obstacle), (Cond.instanceMethod yX3_obstacle), (Cond.code yX3_obstacle prog_5_method_21_code 2 (some FieldType.int)), (Cond.methodLink RX3 88 yX3_bitAt), (Cond.instanceMethod yX3_bitAt), (Cond.code yX3_bitAt prog_5_method_19_code 3 (some FieldType.int)), (Cond.methodLink RX3 94 yX3_goOn), (Cond.instanceMethod yX3_goOn), (Cond.code yX3_goOn prog_5_method_20_code 1 none), (Cond.constantLong RX3 123 2), (Cond.methodLink RX3 125 yX3_keepTry), (Cond.instanceMethod yX3_keepTry), (Cond.code yX3_keepTry prog_5_method_24_code 1 none), (Cond.methodLink RL 99 yX3_skip), (Cond.instanceMethod yX3_skip)]
def g21 : List Cond := [(Cond.selects RX3 yX3_skip yX3_skip), (Cond.code yX3_skip prog_5_method_26_code 4 (some FieldType.int)), (Cond.methodLink RL 103 yX3_take), (Cond.instanceMethod yX3_take), (Cond.selects RX3 yX3_take yX3_take), (Cond.code yX3_take prog_5_method_27_code 2 (some FieldType.int)), (Cond.methodLink RX3 128 yX3_isMark), (Cond.instanceMethod yX3_isMark), (Cond.code yX3_isMark prog_5_method_18_code 2 (some FieldType.boolean)), (Cond.methodLink RL 106 yX3_find), (Cond.instanceMethod yX3_find), (Cond.selects RX3 yX3_find yX3_find), (Cond.code yX3_find prog_5_method_28_code 3 (some FieldType.int)), (Cond.methodLink RL 110 yX3_sum), (Cond.instanceMethod yX3_sum), (Cond.selects RX3 yX3_sum yX3_sum), (Cond.code yX3_sum prog_5_method_31_code 9 (some FieldType.int)), (Cond.constant RX3 131 65535), (Cond.methodLink RX3 133 yX3_sum16), (Cond.static yX3_sum16), (Cond.code yX3_sum16 prog_5_method_29_code 5 (some FieldType.int)), (Cond.methodLink RX3 137 yX3_sum32), (Cond.static yX3_sum32), (Cond.code yX3_sum32 prog_5_method_30_code 5 (some FieldType.int)), (Cond.constant RX3 132 (-306674912)), (Cond.methodLink RL 114 yX3_told), (Cond.instanceMethod yX3_told), (Cond.selects RX3 yX3_told yX3_told), (Cond.code yX3_told prog_5_method_32_code 2 (some FieldType.int)), (Cond.methodLink RL 118 yX3_clear)]
def g22 : List Cond := [(Cond.instanceMethod yX3_clear), (Cond.selects RX3 yX3_clear yX3_clear), (Cond.code yX3_clear prog_5_method_33_code 1 none), (Cond.arrayClass FieldType.long), (Cond.sameMethod "java/lang/Throwable" "java/lang/Throwable" "fillInStackTrace" "(I)Ljava/lang/Throwable;")]
def G : List Cond := g0 ++ (g1 ++ (g2 ++ (g3 ++ (g4 ++ (g5 ++ (g6 ++ (g7 ++ (g8 ++ (g9 ++ (g10 ++ (g11 ++ (g12 ++ (g13 ++ (g14 ++ (g15 ++ (g16 ++ (g17 ++ (g18 ++ (g19 ++ (g20 ++ (g21 ++ (g22))))))))))))))))))))))
theorem g_in (j : Nat) (l : List Cond) (h : ∀ w ∈ l, w ∈ G) {w : Cond} {i : Nat} (e : l[i]? = some w) : w ∈ G := h w (List.mem_of_getElem? e)
theorem g0_in : ∀ w ∈ g0, w ∈ G := fun w h => List.mem_append_left _ h
theorem g1_in : ∀ w ∈ g1, w ∈ G := fun w h => List.mem_append_right _ (List.mem_append_left _ h)
theorem g2_in : ∀ w ∈ g2, w ∈ G := fun w h => List.mem_append_right _ (List.mem_append_right _ (List.mem_append_left _ h))
theorem g3_in : ∀ w ∈ g3, w ∈ G := fun w h => List.mem_append_right _ (List.mem_append_right _ (List.mem_append_right _ (List.mem_append_left _ h)))
theorem g4_in : ∀ w ∈ g4, w ∈ G := fun w h => List.mem_append_right _ (List.mem_append_right _ (List.mem_append_right _ (List.mem_append_right _ (List.mem_append_left _ h))))
theorem g5_in : ∀ w ∈ g5, w ∈ G := fun w h => List.mem_append_right _ (List.mem_append_right _ (List.mem_append_right _ (List.mem_append_right _ (List.mem_append_right _ (List.mem_append_left _ h)))))
theorem g6_in : ∀ w ∈ g6, w ∈ G := fun w h => List.mem_append_right _ (List.mem_append_right _ (List.mem_append_right _ (List.mem_append_right _ (List.mem_append_right _ (List.mem_append_right _ (List.mem_append_left _ h))))))
theorem g7_in : ∀ w ∈ g7, w ∈ G := fun w h => List.mem_append_right _ (List.mem_append_right _ (List.mem_append_right _ (List.mem_append_right _ (List.mem_append_right _ (List.mem_append_right _ (List.mem_append_right _ (List.mem_append_left _ h)))))))
theorem g8_in : ∀ w ∈ g8, w ∈ G := fun w h => List.mem_append_right _ (List.mem_append_right _ (List.mem_append_right _ (List.mem_append_right _ (List.mem_append_right _ (List.mem_append_right _ (List.mem_append_right _ (List.mem_append_right _ (List.mem_append_left _ h))))))))
theorem g9_in : ∀ w ∈ g9, w ∈ G := fun w h => List.mem_append_right _ (List.mem_append_right _ (List.mem_append_right _ (List.mem_append_right _ (List.mem_append_right _ (List.mem_append_right _ (List.mem_append_right _ (List.mem_append_right _ (List.mem_append_right _ (List.mem_append_left _ h)))))))))
theorem g10_in : ∀ w ∈ g10, w ∈ G := fun w h => List.mem_append_right _ (List.mem_append_right _ (List.mem_append_right _ (List.mem_append_right _ (List.mem_append_right _ (List.mem_append_right _ (List.mem_append_right _ (List.mem_append_right _ (List.mem_append_right _ (List.mem_append_right _ (List.mem_append_left _ h))))))))))
theorem g11_in : ∀ w ∈ g11, w ∈ G := fun w h => List.mem_append_right _ (List.mem_append_right _ (List.mem_append_right _ (List.mem_append_right _ (List.mem_append_right _ (List.mem_append_right _ (List.mem_append_right _ (List.mem_append_right _ (List.mem_append_right _ (List.mem_append_right _ (List.mem_append_right _ (List.mem_append_left _ h)))))))))))
theorem g12_in : ∀ w ∈ g12, w ∈ G := fun w h => List.mem_append_right _ (List.mem_append_right _ (List.mem_append_right _ (List.mem_append_right _ (List.mem_append_right _ (List.mem_append_right _ (List.mem_append_right _ (List.mem_append_right _ (List.mem_append_right _ (List.mem_append_right _ (List.mem_append_right _ (List.mem_append_right _ (List.mem_append_left _ h))))))))))))
theorem g13_in : ∀ w ∈ g13, w ∈ G := fun w h => List.mem_append_right _ (List.mem_append_right _ (List.mem_append_right _ (List.mem_append_right _ (List.mem_append_right _ (List.mem_append_right _ (List.mem_append_right _ (List.mem_append_right _ (List.mem_append_right _ (List.mem_append_right _ (List.mem_append_right _ (List.mem_append_right _ (List.mem_append_right _ (List.mem_append_left _ h)))))))))))))
theorem g14_in : ∀ w ∈ g14, w ∈ G := fun w h => List.mem_append_right _ (List.mem_append_right _ (List.mem_append_right _ (List.mem_append_right _ (List.mem_append_right _ (List.mem_append_right _ (List.mem_append_right _ (List.mem_append_right _ (List.mem_append_right _ (List.mem_append_right _ (List.mem_append_right _ (List.mem_append_right _ (List.mem_append_right _ (List.mem_append_right _ (List.mem_append_left _ h))))))))))))))
theorem g15_in : ∀ w ∈ g15, w ∈ G := fun w h => List.mem_append_right _ (List.mem_append_right _ (List.mem_append_right _ (List.mem_append_right _ (List.mem_append_right _ (List.mem_append_right _ (List.mem_append_right _ (List.mem_append_right _ (List.mem_append_right _ (List.mem_append_right _ (List.mem_append_right _ (List.mem_append_right _ (List.mem_append_right _ (List.mem_append_right _ (List.mem_append_right _ (List.mem_append_left _ h)))))))))))))))
theorem g16_in : ∀ w ∈ g16, w ∈ G := fun w h => List.mem_append_right _ (List.mem_append_right _ (List.mem_append_right _ (List.mem_append_right _ (List.mem_append_right _ (List.mem_append_right _ (List.mem_append_right _ (List.mem_append_right _ (List.mem_append_right _ (List.mem_append_right _ (List.mem_append_right _ (List.mem_append_right _ (List.mem_append_right _ (List.mem_append_right _ (List.mem_append_right _ (List.mem_append_right _ (List.mem_append_left _ h))))))))))))))))
theorem g17_in : ∀ w ∈ g17, w ∈ G := fun w h => List.mem_append_right _ (List.mem_append_right _ (List.mem_append_right _ (List.mem_append_right _ (List.mem_append_right _ (List.mem_append_right _ (List.mem_append_right _ (List.mem_append_right _ (List.mem_append_right _ (List.mem_append_right _ (List.mem_append_right _ (List.mem_append_right _ (List.mem_append_right _ (List.mem_append_right _ (List.mem_append_right _ (List.mem_append_right _ (List.mem_append_right _ (List.mem_append_left _ h)))))))))))))))))
theorem g18_in : ∀ w ∈ g18, w ∈ G := fun w h => List.mem_append_right _ (List.mem_append_right _ (List.mem_append_right _ (List.mem_append_right _ (List.mem_append_right _ (List.mem_append_right _ (List.mem_append_right _ (List.mem_append_right _ (List.mem_append_right _ (List.mem_append_right _ (List.mem_append_right _ (List.mem_append_right _ (List.mem_append_right _ (List.mem_append_right _ (List.mem_append_right _ (List.mem_append_right _ (List.mem_append_right _ (List.mem_append_right _ (List.mem_append_left _ h))))))))))))))))))
theorem g19_in : ∀ w ∈ g19, w ∈ G := fun w h => List.mem_append_right _ (List.mem_append_right _ (List.mem_append_right _ (List.mem_append_right _ (List.mem_append_right _ (List.mem_append_right _ (List.mem_append_right _ (List.mem_append_right _ (List.mem_append_right _ (List.mem_append_right _ (List.mem_append_right _ (List.mem_append_right _ (List.mem_append_right _ (List.mem_append_right _ (List.mem_append_right _ (List.mem_append_right _ (List.mem_append_right _ (List.mem_append_right _ (List.mem_append_right _ (List.mem_append_left _ h)))))))))))))))))))
theorem g20_in : ∀ w ∈ g20, w ∈ G := fun w h => List.mem_append_right _ (List.mem_append_right _ (List.mem_append_right _ (List.mem_append_right _ (List.mem_append_right _ (List.mem_append_right _ (List.mem_append_right _ (List.mem_append_right _ (List.mem_append_right _ (List.mem_append_right _ (List.mem_append_right _ (List.mem_append_right _ (List.mem_append_right _ (List.mem_append_right _ (List.mem_append_right _ (List.mem_append_right _ (List.mem_append_right _ (List.mem_append_right _ (List.mem_append_right _ (List.mem_append_right _ (List.mem_append_left _ h))))))))))))))))))))
theorem g21_in : ∀ w ∈ g21, w ∈ G := fun w h => List.mem_append_right _ (List.mem_append_right _ (List.mem_append_right _ (List.mem_append_right _ (List.mem_append_right _ (List.mem_append_right _ (List.mem_append_right _ (List.mem_append_right _ (List.mem_append_right _ (List.mem_append_right _ (List.mem_append_right _ (List.mem_append_right _ (List.mem_append_right _ (List.mem_append_right _ (List.mem_append_right _ (List.mem_append_right _ (List.mem_append_right _ (List.mem_append_right _ (List.mem_append_right _ (List.mem_append_right _ (List.mem_append_right _ (List.mem_append_left _ h)))))))))))))))))))))
theorem g22_in : ∀ w ∈ g22, w ∈ G := fun w h => List.mem_append_right _ (List.mem_append_right _ (List.mem_append_right _ (List.mem_append_right _ (List.mem_append_right _ (List.mem_append_right _ (List.mem_append_right _ (List.mem_append_right _ (List.mem_append_right _ (List.mem_append_right _ (List.mem_append_right _ (List.mem_append_right _ (List.mem_append_right _ (List.mem_append_right _ (List.mem_append_right _ (List.mem_append_right _ (List.mem_append_right _ (List.mem_append_right _ (List.mem_append_right _ (List.mem_append_right _ (List.mem_append_right _ (List.mem_append_right _ (h))))))))))))))))))))))
theorem wd0 : (Cond.selects RX1 yX1_isBehindFullByte yX1_isBehindFullByte) ∈ G := g0_in _ (List.mem_of_getElem? (i := 0) rfl)
theorem wd1 : (Cond.selects RX0 yX0_shiftInByte yX0_shiftInByte) ∈ G := g0_in _ (List.mem_of_getElem? (i := 1) rfl)
theorem wd2 : (Cond.selects RX2 yX2_refuseToOverfill yX2_refuseToOverfill) ∈ G := g0_in _ (List.mem_of_getElem? (i := 2) rfl)
theorem wd3 : (Cond.selects RX2 yX2_writeStuffedIfDue yX2_writeStuffedIfDue) ∈ G := g0_in _ (List.mem_of_getElem? (i := 3) rfl)
theorem wd4 : (Cond.selects RX2 yX2_shiftOf yX2_shiftOf) ∈ G := g0_in _ (List.mem_of_getElem? (i := 4) rfl)
theorem wd5 : (Cond.selects RX2 yX2_writeBit yX2_writeBit) ∈ G := g0_in _ (List.mem_of_getElem? (i := 5) rfl)
theorem wd6 : (Cond.selects RX2 yX2_writeTillAligned yX2_writeTillAligned) ∈ G := g0_in _ (List.mem_of_getElem? (i := 6) rfl)
theorem wd7 : (Cond.selects RX2 yX2_refuseMoreBytes yX2_refuseMoreBytes) ∈ G := g0_in _ (List.mem_of_getElem? (i := 7) rfl)
theorem wd8 : (Cond.selects RX2 yX2_readBit yX2_readBit) ∈ G := g0_in _ (List.mem_of_getElem? (i := 8) rfl)
theorem wd9 : (Cond.selects RX2 yX2_meetHere yX2_meetHere) ∈ G := g0_in _ (List.mem_of_getElem? (i := 9) rfl)
theorem wd10 : (Cond.selects RX2 yX2_readStuffedIfDue yX2_readStuffedIfDue) ∈ G := g0_in _ (List.mem_of_getElem? (i := 10) rfl)
theorem wd11 : (Cond.selects RX3 yX3_isFull yX3_isFull) ∈ G := g0_in _ (List.mem_of_getElem? (i := 11) rfl)
theorem wd12 : (Cond.selects RX3 yX3_putBit yX3_putBit) ∈ G := g0_in _ (List.mem_of_getElem? (i := 12) rfl)
theorem wd13 : (Cond.selects RX3 yX3_stuff yX3_stuff) ∈ G := g0_in _ (List.mem_of_getElem? (i := 13) rfl)
theorem wd14 : (Cond.selects RX3 yX3_add yX3_add) ∈ G := g0_in _ (List.mem_of_getElem? (i := 14) rfl)
theorem wd15 : (Cond.selects RX3 yX3_byteOf yX3_byteOf) ∈ G := g0_in _ (List.mem_of_getElem? (i := 15) rfl)
theorem wd16 : (Cond.selects RX3 yX3_alignAll yX3_alignAll) ∈ G := g0_in _ (List.mem_of_getElem? (i := 16) rfl)
theorem wd17 : (Cond.selects RX3 yX3_bytesWritten yX3_bytesWritten) ∈ G := g0_in _ (List.mem_of_getElem? (i := 17) rfl)
theorem wd18 : (Cond.selects RX3 yX3_beginTry yX3_beginTry) ∈ G := g0_in _ (List.mem_of_getElem? (i := 18) rfl)
theorem wd19 : (Cond.selects RX3 yX3_tryBit yX3_tryBit) ∈ G := g0_in _ (List.mem_of_getElem? (i := 19) rfl)
theorem wd20 : (Cond.selects RX3 yX3_obstacle yX3_obstacle) ∈ G := g0_in _ (List.mem_of_getElem? (i := 20) rfl)
theorem wd21 : (Cond.selects RX3 yX3_bitAt yX3_bitAt) ∈ G := g0_in _ (List.mem_of_getElem? (i := 21) rfl)
theorem wd22 : (Cond.selects RX3 yX3_goOn yX3_goOn) ∈ G := g0_in _ (List.mem_of_getElem? (i := 22) rfl)
theorem wd23 : (Cond.selects RX3 yX3_keepTry yX3_keepTry) ∈ G := g0_in _ (List.mem_of_getElem? (i := 23) rfl)
theorem wd24 : (Cond.selects RX3 yX3_isMark yX3_isMark) ∈ G := g0_in _ (List.mem_of_getElem? (i := 24) rfl)
theorem wd25 : (Cond.initialized RL) ∈ G := g1_in _ (List.mem_of_getElem? (i := 0) rfl)
theorem wd26 : (Cond.initialized RX2) ∈ G := g1_in _ (List.mem_of_getElem? (i := 1) rfl)
theorem wd27 : (Cond.initialized "java/lang/Math") ∈ G := g1_in _ (List.mem_of_getElem? (i := 2) rfl)
theorem wd28 : (Cond.initialized RX0) ∈ G := g1_in _ (List.mem_of_getElem? (i := 3) rfl)
theorem wd29 : (Cond.initialized RX1) ∈ G := g1_in _ (List.mem_of_getElem? (i := 4) rfl)
theorem wd30 : (Cond.initialized RX3) ∈ G := g1_in _ (List.mem_of_getElem? (i := 5) rfl)
theorem wd31 : (Cond.initialized "java/lang/Throwable") ∈ G := g1_in _ (List.mem_of_getElem? (i := 6) rfl)
theorem wd32 : (Cond.initialized "java/lang/Exception") ∈ G := g1_in _ (List.mem_of_getElem? (i := 7) rfl)
theorem wd33 : (Cond.initialized "java/lang/RuntimeException") ∈ G := g1_in _ (List.mem_of_getElem? (i := 8) rfl)
theorem wd34 : (Cond.initialized "java/lang/IllegalArgumentException") ∈ G := g1_in _ (List.mem_of_getElem? (i := 9) rfl)
theorem wd35 : (Cond.initialized "java/lang/UnsupportedOperationException") ∈ G := g1_in _ (List.mem_of_getElem? (i := 10) rfl)
theorem wd36 : (Cond.initialized "java/lang/IllegalStateException") ∈ G := g1_in _ (List.mem_of_getElem? (i := 11) rfl)
theorem wd37 : (Cond.initialized "java/lang/IndexOutOfBoundsException") ∈ G := g1_in _ (List.mem_of_getElem? (i := 12) rfl)
theorem wd38 : (Cond.initialized RJ7) ∈ G := g1_in _ (List.mem_of_getElem? (i := 13) rfl)
theorem wd39 : (Cond.classLink RL 8 RX2) ∈ G := g1_in _ (List.mem_of_getElem? (i := 14) rfl)
theorem wd40 : (Cond.instantiable RX2 8) ∈ G := g1_in _ (List.mem_of_getElem? (i := 15) rfl)
theorem wd41 : (Cond.methodLink RL 59 yX2_init) ∈ G := g1_in _ (List.mem_of_getElem? (i := 16) rfl)
theorem wd42 : (Cond.instanceMethod yX2_init) ∈ G := g1_in _ (List.mem_of_getElem? (i := 17) rfl)
theorem wd43 : (Cond.code yX2_init prog_1_method_1_code 3 none) ∈ G := g1_in _ (List.mem_of_getElem? (i := 18) rfl)
theorem wd44 : (Cond.methodLink RX2 1 objectInit) ∈ G := g1_in _ (List.mem_of_getElem? (i := 19) rfl)
theorem wd45 : (Cond.instanceMethod objectInit) ∈ G := g1_in _ (List.mem_of_getElem? (i := 20) rfl)
theorem wd46 : (Cond.code objectInit object_method_1_code 1 none) ∈ G := g1_in _ (List.mem_of_getElem? (i := 21) rfl)
theorem wd47 : (Cond.methodLink RX2 9 ⟨"java/lang/Math", "min", "(II)I"⟩) ∈ G := g1_in _ (List.mem_of_getElem? (i := 22) rfl)
theorem wd48 : (Cond.static ⟨"java/lang/Math", "min", "(II)I"⟩) ∈ G := g1_in _ (List.mem_of_getElem? (i := 23) rfl)
theorem wd49 : (Cond.code ⟨"java/lang/Math", "min", "(II)I"⟩ prog_10_method_69_code 2 (some FieldType.int)) ∈ G := g1_in _ (List.mem_of_getElem? (i := 24) rfl)
theorem wd50 : (Cond.methodLink RX2 15 ⟨"java/lang/Math", "max", "(II)I"⟩) ∈ G := g1_in _ (List.mem_of_getElem? (i := 25) rfl)
theorem wd51 : (Cond.static ⟨"java/lang/Math", "max", "(II)I"⟩) ∈ G := g1_in _ (List.mem_of_getElem? (i := 26) rfl)
theorem wd52 : (Cond.code ⟨"java/lang/Math", "max", "(II)I"⟩ prog_10_method_65_code 2 (some FieldType.int)) ∈ G := g1_in _ (List.mem_of_getElem? (i := 27) rfl)
theorem wd53 : (Cond.classLink RX2 29 RX0) ∈ G := g1_in _ (List.mem_of_getElem? (i := 28) rfl)
theorem wd54 : (Cond.instantiable RX0 3) ∈ G := g1_in _ (List.mem_of_getElem? (i := 29) rfl)
theorem wd55 : (Cond.methodLink RX2 31 yX0_init) ∈ G := g2_in _ (List.mem_of_getElem? (i := 0) rfl)
theorem wd56 : (Cond.instanceMethod yX0_init) ∈ G := g2_in _ (List.mem_of_getElem? (i := 1) rfl)
theorem wd57 : (Cond.code yX0_init prog_2_method_1_code 2 none) ∈ G := g2_in _ (List.mem_of_getElem? (i := 2) rfl)
theorem wd58 : (Cond.methodLink RX0 3 objectInit) ∈ G := g2_in _ (List.mem_of_getElem? (i := 3) rfl)
theorem wd59 : (Cond.fieldLink RX0 9 RX0 "lowFirst" "Z") ∈ G := g2_in _ (List.mem_of_getElem? (i := 4) rfl)
theorem wd60 : (Cond.fieldLink RX0 15 RX0 "bytes" "[I") ∈ G := g2_in _ (List.mem_of_getElem? (i := 5) rfl)
theorem wd61 : (Cond.fieldLink RX0 19 RX0 "count" "I") ∈ G := g2_in _ (List.mem_of_getElem? (i := 6) rfl)
theorem wd62 : (Cond.laysFinal RX0 RX0 "lowFirst" "Z") ∈ G := g2_in _ (List.mem_of_getElem? (i := 7) rfl)
theorem wd63 : (Cond.soleField RX0 "lowFirst") ∈ G := g2_in _ (List.mem_of_getElem? (i := 8) rfl)
theorem wd64 : (Cond.laysFinal RX0 RX0 "bytes" "[I") ∈ G := g2_in _ (List.mem_of_getElem? (i := 9) rfl)
theorem wd65 : (Cond.soleField RX0 "bytes") ∈ G := g2_in _ (List.mem_of_getElem? (i := 10) rfl)
theorem wd66 : (Cond.lays RX0 RX0 "count" "I") ∈ G := g2_in _ (List.mem_of_getElem? (i := 11) rfl)
theorem wd67 : (Cond.soleField RX0 "count") ∈ G := g2_in _ (List.mem_of_getElem? (i := 12) rfl)
theorem wd68 : (Cond.superclass RX0 "java/lang/Object") ∈ G := g2_in _ (List.mem_of_getElem? (i := 13) rfl)
theorem wd69 : (Cond.arrayClass FieldType.int) ∈ G := g2_in _ (List.mem_of_getElem? (i := 14) rfl)
theorem wd70 : (Cond.classLink RX2 38 RX1) ∈ G := g2_in _ (List.mem_of_getElem? (i := 15) rfl)
theorem wd71 : (Cond.instantiable RX1 7) ∈ G := g2_in _ (List.mem_of_getElem? (i := 16) rfl)
theorem wd72 : (Cond.methodLink RX2 40 yX1_init) ∈ G := g2_in _ (List.mem_of_getElem? (i := 17) rfl)
theorem wd73 : (Cond.instanceMethod yX1_init) ∈ G := g2_in _ (List.mem_of_getElem? (i := 18) rfl)
theorem wd74 : (Cond.code yX1_init prog_3_method_1_code 4 none) ∈ G := g2_in _ (List.mem_of_getElem? (i := 19) rfl)
theorem wd75 : (Cond.methodLink RX1 3 objectInit) ∈ G := g2_in _ (List.mem_of_getElem? (i := 20) rfl)
theorem wd76 : (Cond.fieldLink RX1 9 RX1 "row" "LBitRows$Row;") ∈ G := g2_in _ (List.mem_of_getElem? (i := 21) rfl)
theorem wd77 : (Cond.fieldLink RX1 15 RX1 "stuffing" "I") ∈ G := g2_in _ (List.mem_of_getElem? (i := 22) rfl)
theorem wd78 : (Cond.fieldLink RX1 19 RX1 "stuffedInByte" "I") ∈ G := g2_in _ (List.mem_of_getElem? (i := 23) rfl)
theorem wd79 : (Cond.fieldLink RX1 22 RX1 "place" "I") ∈ G := g2_in _ (List.mem_of_getElem? (i := 24) rfl)
theorem wd80 : (Cond.fieldLink RX1 25 RX1 "stuffed" "I") ∈ G := g2_in _ (List.mem_of_getElem? (i := 25) rfl)
theorem wd81 : (Cond.fieldLink RX1 28 RX1 "ones" "I") ∈ G := g2_in _ (List.mem_of_getElem? (i := 26) rfl)
theorem wd82 : (Cond.fieldLink RX1 31 RX1 "markEnd" "I") ∈ G := g2_in _ (List.mem_of_getElem? (i := 27) rfl)
theorem wd83 : (Cond.laysFinal RX1 RX1 "row" "LBitRows$Row;") ∈ G := g2_in _ (List.mem_of_getElem? (i := 28) rfl)
theorem wd84 : (Cond.soleField RX1 "row") ∈ G := g2_in _ (List.mem_of_getElem? (i := 29) rfl)
theorem wd85 : (Cond.laysFinal RX1 RX1 "stuffing" "I") ∈ G := g3_in _ (List.mem_of_getElem? (i := 0) rfl)
theorem wd86 : (Cond.soleField RX1 "stuffing") ∈ G := g3_in _ (List.mem_of_getElem? (i := 1) rfl)
theorem wd87 : (Cond.laysFinal RX1 RX1 "stuffedInByte" "I") ∈ G := g3_in _ (List.mem_of_getElem? (i := 2) rfl)
theorem wd88 : (Cond.soleField RX1 "stuffedInByte") ∈ G := g3_in _ (List.mem_of_getElem? (i := 3) rfl)
theorem wd89 : (Cond.lays RX1 RX1 "place" "I") ∈ G := g3_in _ (List.mem_of_getElem? (i := 4) rfl)
theorem wd90 : (Cond.soleField RX1 "place") ∈ G := g3_in _ (List.mem_of_getElem? (i := 5) rfl)
theorem wd91 : (Cond.lays RX1 RX1 "stuffed" "I") ∈ G := g3_in _ (List.mem_of_getElem? (i := 6) rfl)
theorem wd92 : (Cond.soleField RX1 "stuffed") ∈ G := g3_in _ (List.mem_of_getElem? (i := 7) rfl)
theorem wd93 : (Cond.lays RX1 RX1 "ones" "I") ∈ G := g3_in _ (List.mem_of_getElem? (i := 8) rfl)
theorem wd94 : (Cond.soleField RX1 "ones") ∈ G := g3_in _ (List.mem_of_getElem? (i := 9) rfl)
theorem wd95 : (Cond.lays RX1 RX1 "markEnd" "I") ∈ G := g3_in _ (List.mem_of_getElem? (i := 10) rfl)
theorem wd96 : (Cond.soleField RX1 "markEnd") ∈ G := g3_in _ (List.mem_of_getElem? (i := 11) rfl)
theorem wd97 : (Cond.superclass RX1 "java/lang/Object") ∈ G := g3_in _ (List.mem_of_getElem? (i := 12) rfl)
theorem wd98 : (Cond.fieldLink RX2 18 RX2 "stuffing" "I") ∈ G := g3_in _ (List.mem_of_getElem? (i := 13) rfl)
theorem wd99 : (Cond.fieldLink RX2 22 RX2 "lowFirst" "Z") ∈ G := g3_in _ (List.mem_of_getElem? (i := 14) rfl)
theorem wd100 : (Cond.fieldLink RX2 26 RX2 "stuffsAtOnce" "Z") ∈ G := g3_in _ (List.mem_of_getElem? (i := 15) rfl)
theorem wd101 : (Cond.fieldLink RX2 34 RX2 "written" "LBitRows$Row;") ∈ G := g3_in _ (List.mem_of_getElem? (i := 16) rfl)
theorem wd102 : (Cond.fieldLink RX2 43 RX2 "writing" "LBitRows$Track;") ∈ G := g3_in _ (List.mem_of_getElem? (i := 17) rfl)
theorem wd103 : (Cond.fieldLink RX2 47 RX2 "came" "LBitRows$Row;") ∈ G := g3_in _ (List.mem_of_getElem? (i := 18) rfl)
theorem wd104 : (Cond.fieldLink RX2 50 RX2 "reading" "LBitRows$Track;") ∈ G := g3_in _ (List.mem_of_getElem? (i := 19) rfl)
theorem wd105 : (Cond.fieldLink RX2 53 RX2 "bad" "Z") ∈ G := g3_in _ (List.mem_of_getElem? (i := 20) rfl)
theorem wd106 : (Cond.laysFinal RX2 RX2 "stuffing" "I") ∈ G := g3_in _ (List.mem_of_getElem? (i := 21) rfl)
theorem wd107 : (Cond.soleField RX2 "stuffing") ∈ G := g3_in _ (List.mem_of_getElem? (i := 22) rfl)
theorem wd108 : (Cond.laysFinal RX2 RX2 "lowFirst" "Z") ∈ G := g3_in _ (List.mem_of_getElem? (i := 23) rfl)
theorem wd109 : (Cond.soleField RX2 "lowFirst") ∈ G := g3_in _ (List.mem_of_getElem? (i := 24) rfl)
theorem wd110 : (Cond.laysFinal RX2 RX2 "stuffsAtOnce" "Z") ∈ G := g3_in _ (List.mem_of_getElem? (i := 25) rfl)
theorem wd111 : (Cond.soleField RX2 "stuffsAtOnce") ∈ G := g3_in _ (List.mem_of_getElem? (i := 26) rfl)
theorem wd112 : (Cond.laysFinal RX2 RX2 "written" "LBitRows$Row;") ∈ G := g3_in _ (List.mem_of_getElem? (i := 27) rfl)
theorem wd113 : (Cond.soleField RX2 "written") ∈ G := g3_in _ (List.mem_of_getElem? (i := 28) rfl)
theorem wd114 : (Cond.laysFinal RX2 RX2 "writing" "LBitRows$Track;") ∈ G := g3_in _ (List.mem_of_getElem? (i := 29) rfl)
theorem wd115 : (Cond.soleField RX2 "writing") ∈ G := g4_in _ (List.mem_of_getElem? (i := 0) rfl)
theorem wd116 : (Cond.laysFinal RX2 RX2 "came" "LBitRows$Row;") ∈ G := g4_in _ (List.mem_of_getElem? (i := 1) rfl)
theorem wd117 : (Cond.soleField RX2 "came") ∈ G := g4_in _ (List.mem_of_getElem? (i := 2) rfl)
theorem wd118 : (Cond.laysFinal RX2 RX2 "reading" "LBitRows$Track;") ∈ G := g4_in _ (List.mem_of_getElem? (i := 3) rfl)
theorem wd119 : (Cond.soleField RX2 "reading") ∈ G := g4_in _ (List.mem_of_getElem? (i := 4) rfl)
theorem wd120 : (Cond.lays RX2 RX2 "bad" "Z") ∈ G := g4_in _ (List.mem_of_getElem? (i := 5) rfl)
theorem wd121 : (Cond.soleField RX2 "bad") ∈ G := g4_in _ (List.mem_of_getElem? (i := 6) rfl)
theorem wd122 : (Cond.superclass RX2 "java/lang/Object") ∈ G := g4_in _ (List.mem_of_getElem? (i := 7) rfl)
theorem wd123 : (Cond.methodLink RL 96 yX2_skip) ∈ G := g4_in _ (List.mem_of_getElem? (i := 8) rfl)
theorem wd124 : (Cond.instanceMethod yX2_skip) ∈ G := g4_in _ (List.mem_of_getElem? (i := 9) rfl)
theorem wd125 : (Cond.selects RX2 yX2_skip yX2_skip) ∈ G := g4_in _ (List.mem_of_getElem? (i := 10) rfl)
theorem wd126 : (Cond.code yX2_skip prog_1_method_10_code 3 (some FieldType.int)) ∈ G := g4_in _ (List.mem_of_getElem? (i := 11) rfl)
theorem wd127 : (Cond.methodLink RX2 144 yX1_isAligned) ∈ G := g4_in _ (List.mem_of_getElem? (i := 12) rfl)
theorem wd128 : (Cond.instanceMethod yX1_isAligned) ∈ G := g4_in _ (List.mem_of_getElem? (i := 13) rfl)
theorem wd129 : (Cond.selects RX1 yX1_isAligned yX1_isAligned) ∈ G := g4_in _ (List.mem_of_getElem? (i := 14) rfl)
theorem wd130 : (Cond.code yX1_isAligned prog_3_method_6_code 1 (some FieldType.boolean)) ∈ G := g4_in _ (List.mem_of_getElem? (i := 15) rfl)
theorem wd131 : (Cond.methodLink RX1 43 yX1_isAtByte) ∈ G := g4_in _ (List.mem_of_getElem? (i := 16) rfl)
theorem wd132 : (Cond.instanceMethod yX1_isAtByte) ∈ G := g4_in _ (List.mem_of_getElem? (i := 17) rfl)
theorem wd133 : (Cond.selects RX1 yX1_isAtByte yX1_isAtByte) ∈ G := g4_in _ (List.mem_of_getElem? (i := 18) rfl)
theorem wd134 : (Cond.code yX1_isAtByte prog_3_method_5_code 1 (some FieldType.boolean)) ∈ G := g4_in _ (List.mem_of_getElem? (i := 19) rfl)
theorem wd135 : (Cond.methodLink RX1 47 yX1_isBehindFullByte) ∈ G := g4_in _ (List.mem_of_getElem? (i := 20) rfl)
theorem wd136 : (Cond.instanceMethod yX1_isBehindFullByte) ∈ G := g4_in _ (List.mem_of_getElem? (i := 21) rfl)
theorem wd137 : (Cond.code yX1_isBehindFullByte prog_3_method_11_code 2 (some FieldType.boolean)) ∈ G := g4_in _ (List.mem_of_getElem? (i := 22) rfl)
theorem wd138 : (Cond.methodLink RX1 50 yX0_byteOf) ∈ G := g4_in _ (List.mem_of_getElem? (i := 23) rfl)
theorem wd139 : (Cond.instanceMethod yX0_byteOf) ∈ G := g4_in _ (List.mem_of_getElem? (i := 24) rfl)
theorem wd140 : (Cond.selects RX0 yX0_byteOf yX0_byteOf) ∈ G := g4_in _ (List.mem_of_getElem? (i := 25) rfl)
theorem wd141 : (Cond.code yX0_byteOf prog_2_method_3_code 2 (some FieldType.int)) ∈ G := g4_in _ (List.mem_of_getElem? (i := 26) rfl)
theorem wd142 : (Cond.methodLink RX2 148 yX1_isStuffedDue) ∈ G := g4_in _ (List.mem_of_getElem? (i := 27) rfl)
theorem wd143 : (Cond.instanceMethod yX1_isStuffedDue) ∈ G := g4_in _ (List.mem_of_getElem? (i := 28) rfl)
theorem wd144 : (Cond.selects RX1 yX1_isStuffedDue yX1_isStuffedDue) ∈ G := g4_in _ (List.mem_of_getElem? (i := 29) rfl)
theorem wd145 : (Cond.code yX1_isStuffedDue prog_3_method_7_code 1 (some FieldType.boolean)) ∈ G := g5_in _ (List.mem_of_getElem? (i := 0) rfl)
theorem wd146 : (Cond.methodLink RX2 151 yX1_stepOverStuffed) ∈ G := g5_in _ (List.mem_of_getElem? (i := 1) rfl)
theorem wd147 : (Cond.instanceMethod yX1_stepOverStuffed) ∈ G := g5_in _ (List.mem_of_getElem? (i := 2) rfl)
theorem wd148 : (Cond.selects RX1 yX1_stepOverStuffed yX1_stepOverStuffed) ∈ G := g5_in _ (List.mem_of_getElem? (i := 3) rfl)
theorem wd149 : (Cond.code yX1_stepOverStuffed prog_3_method_9_code 1 none) ∈ G := g5_in _ (List.mem_of_getElem? (i := 4) rfl)
theorem wd150 : (Cond.methodLink RX2 104 yX0_bitOf) ∈ G := g5_in _ (List.mem_of_getElem? (i := 5) rfl)
theorem wd151 : (Cond.instanceMethod yX0_bitOf) ∈ G := g5_in _ (List.mem_of_getElem? (i := 6) rfl)
theorem wd152 : (Cond.selects RX0 yX0_bitOf yX0_bitOf) ∈ G := g5_in _ (List.mem_of_getElem? (i := 7) rfl)
theorem wd153 : (Cond.code yX0_bitOf prog_2_method_5_code 2 (some FieldType.int)) ∈ G := g5_in _ (List.mem_of_getElem? (i := 8) rfl)
theorem wd154 : (Cond.methodLink RX0 29 yX0_byteOf) ∈ G := g5_in _ (List.mem_of_getElem? (i := 9) rfl)
theorem wd155 : (Cond.methodLink RX0 33 yX0_shiftInByte) ∈ G := g5_in _ (List.mem_of_getElem? (i := 10) rfl)
theorem wd156 : (Cond.instanceMethod yX0_shiftInByte) ∈ G := g5_in _ (List.mem_of_getElem? (i := 11) rfl)
theorem wd157 : (Cond.code yX0_shiftInByte prog_2_method_10_code 2 (some FieldType.int)) ∈ G := g5_in _ (List.mem_of_getElem? (i := 12) rfl)
theorem wd158 : (Cond.methodLink RX2 154 yX1_stepOver) ∈ G := g5_in _ (List.mem_of_getElem? (i := 13) rfl)
theorem wd159 : (Cond.instanceMethod yX1_stepOver) ∈ G := g5_in _ (List.mem_of_getElem? (i := 14) rfl)
theorem wd160 : (Cond.selects RX1 yX1_stepOver yX1_stepOver) ∈ G := g5_in _ (List.mem_of_getElem? (i := 15) rfl)
theorem wd161 : (Cond.code yX1_stepOver prog_3_method_8_code 2 none) ∈ G := g5_in _ (List.mem_of_getElem? (i := 16) rfl)
theorem wd162 : (Cond.methodLink RL 100 yX2_take) ∈ G := g5_in _ (List.mem_of_getElem? (i := 17) rfl)
theorem wd163 : (Cond.instanceMethod yX2_take) ∈ G := g5_in _ (List.mem_of_getElem? (i := 18) rfl)
theorem wd164 : (Cond.selects RX2 yX2_take yX2_take) ∈ G := g5_in _ (List.mem_of_getElem? (i := 19) rfl)
theorem wd165 : (Cond.code yX2_take prog_1_method_11_code 2 (some FieldType.int)) ∈ G := g5_in _ (List.mem_of_getElem? (i := 20) rfl)
theorem wd166 : (Cond.methodLink RX2 157 yX1_isAtByte) ∈ G := g5_in _ (List.mem_of_getElem? (i := 21) rfl)
theorem wd167 : (Cond.methodLink RX2 160 yX0_isMarkAt) ∈ G := g5_in _ (List.mem_of_getElem? (i := 22) rfl)
theorem wd168 : (Cond.instanceMethod yX0_isMarkAt) ∈ G := g5_in _ (List.mem_of_getElem? (i := 23) rfl)
theorem wd169 : (Cond.selects RX0 yX0_isMarkAt yX0_isMarkAt) ∈ G := g5_in _ (List.mem_of_getElem? (i := 24) rfl)
theorem wd170 : (Cond.code yX0_isMarkAt prog_2_method_7_code 2 (some FieldType.boolean)) ∈ G := g5_in _ (List.mem_of_getElem? (i := 25) rfl)
theorem wd171 : (Cond.methodLink RX2 94 yX1_stepOverMark) ∈ G := g5_in _ (List.mem_of_getElem? (i := 26) rfl)
theorem wd172 : (Cond.instanceMethod yX1_stepOverMark) ∈ G := g5_in _ (List.mem_of_getElem? (i := 27) rfl)
theorem wd173 : (Cond.selects RX1 yX1_stepOverMark yX1_stepOverMark) ∈ G := g5_in _ (List.mem_of_getElem? (i := 28) rfl)
theorem wd174 : (Cond.code yX1_stepOverMark prog_3_method_10_code 1 none) ∈ G := g5_in _ (List.mem_of_getElem? (i := 29) rfl)
theorem wd175 : (Cond.methodLink RX2 117 yX0_byteOf) ∈ G := g6_in _ (List.mem_of_getElem? (i := 0) rfl)
theorem wd176 : (Cond.methodLink RL 111 yX2_told) ∈ G := g6_in _ (List.mem_of_getElem? (i := 1) rfl)
theorem wd177 : (Cond.instanceMethod yX2_told) ∈ G := g6_in _ (List.mem_of_getElem? (i := 2) rfl)
theorem wd178 : (Cond.selects RX2 yX2_told yX2_told) ∈ G := g6_in _ (List.mem_of_getElem? (i := 3) rfl)
theorem wd179 : (Cond.code yX2_told prog_1_method_14_code 2 (some FieldType.int)) ∈ G := g6_in _ (List.mem_of_getElem? (i := 4) rfl)
theorem wd180 : (Cond.methodLink RL 115 yX2_clear) ∈ G := g6_in _ (List.mem_of_getElem? (i := 5) rfl)
theorem wd181 : (Cond.instanceMethod yX2_clear) ∈ G := g6_in _ (List.mem_of_getElem? (i := 6) rfl)
theorem wd182 : (Cond.selects RX2 yX2_clear yX2_clear) ∈ G := g6_in _ (List.mem_of_getElem? (i := 7) rfl)
theorem wd183 : (Cond.code yX2_clear prog_1_method_15_code 1 none) ∈ G := g6_in _ (List.mem_of_getElem? (i := 8) rfl)
theorem wd184 : (Cond.methodLink RX2 176 yX0_empty) ∈ G := g6_in _ (List.mem_of_getElem? (i := 9) rfl)
theorem wd185 : (Cond.instanceMethod yX0_empty) ∈ G := g6_in _ (List.mem_of_getElem? (i := 10) rfl)
theorem wd186 : (Cond.selects RX0 yX0_empty yX0_empty) ∈ G := g6_in _ (List.mem_of_getElem? (i := 11) rfl)
theorem wd187 : (Cond.code yX0_empty prog_2_method_2_code 1 none) ∈ G := g6_in _ (List.mem_of_getElem? (i := 12) rfl)
theorem wd188 : (Cond.methodLink RX0 23 yJ7_fill) ∈ G := g6_in _ (List.mem_of_getElem? (i := 13) rfl)
theorem wd189 : (Cond.static yJ7_fill) ∈ G := g6_in _ (List.mem_of_getElem? (i := 14) rfl)
theorem wd190 : (Cond.code yJ7_fill prog_15_method_103_code 4 none) ∈ G := g6_in _ (List.mem_of_getElem? (i := 15) rfl)
theorem wd191 : (Cond.methodLink RX2 179 yX1_goToStart) ∈ G := g6_in _ (List.mem_of_getElem? (i := 16) rfl)
theorem wd192 : (Cond.instanceMethod yX1_goToStart) ∈ G := g6_in _ (List.mem_of_getElem? (i := 17) rfl)
theorem wd193 : (Cond.selects RX1 yX1_goToStart yX1_goToStart) ∈ G := g6_in _ (List.mem_of_getElem? (i := 18) rfl)
theorem wd194 : (Cond.code yX1_goToStart prog_3_method_2_code 1 none) ∈ G := g6_in _ (List.mem_of_getElem? (i := 19) rfl)
theorem wd195 : (Cond.methodLink RX1 34 yX1_goBack) ∈ G := g6_in _ (List.mem_of_getElem? (i := 20) rfl)
theorem wd196 : (Cond.instanceMethod yX1_goBack) ∈ G := g6_in _ (List.mem_of_getElem? (i := 21) rfl)
theorem wd197 : (Cond.selects RX1 yX1_goBack yX1_goBack) ∈ G := g6_in _ (List.mem_of_getElem? (i := 22) rfl)
theorem wd198 : (Cond.code yX1_goBack prog_3_method_3_code 4 none) ∈ G := g6_in _ (List.mem_of_getElem? (i := 23) rfl)
theorem wd199 : (Cond.methodLink RL 53 yL_cell) ∈ G := g6_in _ (List.mem_of_getElem? (i := 24) rfl)
theorem wd200 : (Cond.static yL_cell) ∈ G := g6_in _ (List.mem_of_getElem? (i := 25) rfl)
theorem wd201 : (Cond.code yL_cell method_2_code 2 (some FieldType.int)) ∈ G := g6_in _ (List.mem_of_getElem? (i := 26) rfl)
theorem wd202 : (Cond.methodLink RL 65 yL_put) ∈ G := g6_in _ (List.mem_of_getElem? (i := 27) rfl)
theorem wd203 : (Cond.static yL_put) ∈ G := g6_in _ (List.mem_of_getElem? (i := 28) rfl)
theorem wd204 : (Cond.codeWith yL_put method_3_code 5 (some FieldType.int) [(0, 10, 13, 13), (0, 10, 17, 15)]) ∈ G := g6_in _ (List.mem_of_getElem? (i := 29) rfl)
theorem wd205 : (Cond.classLink RL 13 "java/lang/IllegalArgumentException") ∈ G := g7_in _ (List.mem_of_getElem? (i := 0) rfl)
theorem wd206 : (Cond.classLink RL 15 "java/lang/UnsupportedOperationException") ∈ G := g7_in _ (List.mem_of_getElem? (i := 1) rfl)
theorem wd207 : (Cond.methodLink RL 7 yX2_put) ∈ G := g7_in _ (List.mem_of_getElem? (i := 2) rfl)
theorem wd208 : (Cond.instanceMethod yX2_put) ∈ G := g7_in _ (List.mem_of_getElem? (i := 3) rfl)
theorem wd209 : (Cond.selects RX2 yX2_put yX2_put) ∈ G := g7_in _ (List.mem_of_getElem? (i := 4) rfl)
theorem wd210 : (Cond.code yX2_put prog_1_method_2_code 5 (some FieldType.int)) ∈ G := g7_in _ (List.mem_of_getElem? (i := 5) rfl)
theorem wd211 : (Cond.methodLink RX2 56 yX2_refuseOtherWidths) ∈ G := g7_in _ (List.mem_of_getElem? (i := 6) rfl)
theorem wd212 : (Cond.static yX2_refuseOtherWidths) ∈ G := g7_in _ (List.mem_of_getElem? (i := 7) rfl)
theorem wd213 : (Cond.code yX2_refuseOtherWidths prog_1_method_16_code 1 none) ∈ G := g7_in _ (List.mem_of_getElem? (i := 8) rfl)
theorem wd214 : (Cond.classLink RX2 86 "java/lang/IllegalArgumentException") ∈ G := g7_in _ (List.mem_of_getElem? (i := 9) rfl)
theorem wd215 : (Cond.instantiable "java/lang/IllegalArgumentException" 6) ∈ G := g7_in _ (List.mem_of_getElem? (i := 10) rfl)
theorem wd216 : (Cond.selects "java/lang/IllegalArgumentException" ⟨"java/lang/Throwable", "fillInStackTrace", "(I)Ljava/lang/Throwable;"⟩ ⟨"java/lang/Throwable", "fillInStackTrace", "(I)Ljava/lang/Throwable;"⟩) ∈ G := g7_in _ (List.mem_of_getElem? (i := 11) rfl)
theorem wd217 : (Cond.selects "java/lang/IllegalArgumentException" ⟨"java/lang/Throwable", "fillInStackTrace", "()Ljava/lang/Throwable;"⟩ ⟨"java/lang/Throwable", "fillInStackTrace", "()Ljava/lang/Throwable;"⟩) ∈ G := g7_in _ (List.mem_of_getElem? (i := 12) rfl)
theorem wd218 : (Cond.lays "java/lang/IllegalArgumentException" "java/lang/Throwable" "cause" "Ljava/lang/Throwable;") ∈ G := g7_in _ (List.mem_of_getElem? (i := 13) rfl)
theorem wd219 : (Cond.lays "java/lang/Throwable" "java/lang/Throwable" "cause" "Ljava/lang/Throwable;") ∈ G := g7_in _ (List.mem_of_getElem? (i := 14) rfl)
theorem wd220 : (Cond.lays "java/lang/IllegalArgumentException" "java/lang/Throwable" "stackTrace" "[Ljava/lang/StackTraceElement;") ∈ G := g7_in _ (List.mem_of_getElem? (i := 15) rfl)
theorem wd221 : (Cond.lays "java/lang/Throwable" "java/lang/Throwable" "stackTrace" "[Ljava/lang/StackTraceElement;") ∈ G := g7_in _ (List.mem_of_getElem? (i := 16) rfl)
theorem wd222 : (Cond.lays "java/lang/IllegalArgumentException" "java/lang/Throwable" "suppressedExceptions" "Ljava/util/List;") ∈ G := g7_in _ (List.mem_of_getElem? (i := 17) rfl)
theorem wd223 : (Cond.lays "java/lang/Throwable" "java/lang/Throwable" "suppressedExceptions" "Ljava/util/List;") ∈ G := g7_in _ (List.mem_of_getElem? (i := 18) rfl)
theorem wd224 : (Cond.lays "java/lang/IllegalArgumentException" "java/lang/Throwable" "detailMessage" "Ljava/lang/String;") ∈ G := g7_in _ (List.mem_of_getElem? (i := 19) rfl)
theorem wd225 : (Cond.lays "java/lang/Throwable" "java/lang/Throwable" "detailMessage" "Ljava/lang/String;") ∈ G := g7_in _ (List.mem_of_getElem? (i := 20) rfl)
theorem wd226 : (Cond.lays "java/lang/IllegalArgumentException" "java/lang/Throwable" "backtrace" "Ljava/lang/Object;") ∈ G := g7_in _ (List.mem_of_getElem? (i := 21) rfl)
theorem wd227 : (Cond.lays "java/lang/Throwable" "java/lang/Throwable" "backtrace" "Ljava/lang/Object;") ∈ G := g7_in _ (List.mem_of_getElem? (i := 22) rfl)
theorem wd228 : (Cond.fieldLink "java/lang/Throwable" 198 "java/lang/Throwable" "backtrace" "Ljava/lang/Object;") ∈ G := g7_in _ (List.mem_of_getElem? (i := 23) rfl)
theorem wd229 : (Cond.superclass "java/lang/Throwable" "java/lang/Object") ∈ G := g7_in _ (List.mem_of_getElem? (i := 24) rfl)
theorem wd230 : (Cond.instanceMethod ⟨"java/lang/Throwable", "<init>", "()V"⟩) ∈ G := g7_in _ (List.mem_of_getElem? (i := 25) rfl)
theorem wd231 : (Cond.code ⟨"java/lang/Throwable", "<init>", "()V"⟩ prog_13_method_1_code 1 none) ∈ G := g7_in _ (List.mem_of_getElem? (i := 26) rfl)
theorem wd232 : (Cond.methodLink "java/lang/Throwable" 1 objectInit) ∈ G := g7_in _ (List.mem_of_getElem? (i := 27) rfl)
theorem wd233 : (Cond.fieldLink "java/lang/Throwable" 13 "java/lang/Throwable" "UNASSIGNED_STACK" "[Ljava/lang/StackTraceElement;") ∈ G := g7_in _ (List.mem_of_getElem? (i := 28) rfl)
theorem wd234 : (Cond.fieldLink "java/lang/Throwable" 20 "java/lang/Throwable" "SUPPRESSED_SENTINEL" "Ljava/util/List;") ∈ G := g7_in _ (List.mem_of_getElem? (i := 29) rfl)
theorem wd235 : (Cond.methodLink "java/lang/Throwable" 27 ⟨"java/lang/Throwable", "fillInStackTrace", "()Ljava/lang/Throwable;"⟩) ∈ G := g8_in _ (List.mem_of_getElem? (i := 0) rfl)
theorem wd236 : (Cond.instanceMethod ⟨"java/lang/Throwable", "fillInStackTrace", "()Ljava/lang/Throwable;"⟩) ∈ G := g8_in _ (List.mem_of_getElem? (i := 1) rfl)
theorem wd237 : (Cond.sameMethod "java/lang/Throwable" "java/lang/Throwable" "fillInStackTrace" "()Ljava/lang/Throwable;") ∈ G := g8_in _ (List.mem_of_getElem? (i := 2) rfl)
theorem wd238 : (Cond.selects "java/lang/IllegalStateException" ⟨"java/lang/Throwable", "fillInStackTrace", "()Ljava/lang/Throwable;"⟩ ⟨"java/lang/Throwable", "fillInStackTrace", "()Ljava/lang/Throwable;"⟩) ∈ G := g8_in _ (List.mem_of_getElem? (i := 3) rfl)
theorem wd239 : (Cond.selects "java/lang/IndexOutOfBoundsException" ⟨"java/lang/Throwable", "fillInStackTrace", "()Ljava/lang/Throwable;"⟩ ⟨"java/lang/Throwable", "fillInStackTrace", "()Ljava/lang/Throwable;"⟩) ∈ G := g8_in _ (List.mem_of_getElem? (i := 4) rfl)
theorem wd240 : (Cond.selects "java/lang/UnsupportedOperationException" ⟨"java/lang/Throwable", "fillInStackTrace", "()Ljava/lang/Throwable;"⟩ ⟨"java/lang/Throwable", "fillInStackTrace", "()Ljava/lang/Throwable;"⟩) ∈ G := g8_in _ (List.mem_of_getElem? (i := 5) rfl)
theorem wd241 : (Cond.codeSync ⟨"java/lang/Throwable", "fillInStackTrace", "()Ljava/lang/Throwable;"⟩ prog_13_method_18_code 1 (some (FieldType.object "java/lang/Throwable"))) ∈ G := g8_in _ (List.mem_of_getElem? (i := 6) rfl)
theorem wd242 : (Cond.methodLink "java/lang/Throwable" 202 ⟨"java/lang/Throwable", "fillInStackTrace", "(I)Ljava/lang/Throwable;"⟩) ∈ G := g8_in _ (List.mem_of_getElem? (i := 7) rfl)
theorem wd243 : (Cond.instanceMethod ⟨"java/lang/Throwable", "fillInStackTrace", "(I)Ljava/lang/Throwable;"⟩) ∈ G := g8_in _ (List.mem_of_getElem? (i := 8) rfl)
theorem wd244 : (Cond.instantiable "java/lang/Throwable" 6) ∈ G := g8_in _ (List.mem_of_getElem? (i := 9) rfl)
theorem wd245 : (Cond.native ⟨"java/lang/Throwable", "fillInStackTrace", "(I)Ljava/lang/Throwable;"⟩) ∈ G := g8_in _ (List.mem_of_getElem? (i := 10) rfl)
theorem wd246 : (Cond.methodLink RX2 90 ⟨"java/lang/IllegalArgumentException", "<init>", "(Ljava/lang/String;)V"⟩) ∈ G := g8_in _ (List.mem_of_getElem? (i := 11) rfl)
theorem wd247 : (Cond.instanceMethod ⟨"java/lang/IllegalArgumentException", "<init>", "(Ljava/lang/String;)V"⟩) ∈ G := g9_in _ (List.mem_of_getElem? (i := 0) rfl)
theorem wd248 : (Cond.code ⟨"java/lang/IllegalArgumentException", "<init>", "(Ljava/lang/String;)V"⟩ prog_7_method_2_code 2 none) ∈ G := g9_in _ (List.mem_of_getElem? (i := 1) rfl)
theorem wd249 : (Cond.methodLink "java/lang/IllegalArgumentException" 7 ⟨"java/lang/RuntimeException", "<init>", "(Ljava/lang/String;)V"⟩) ∈ G := g9_in _ (List.mem_of_getElem? (i := 2) rfl)
theorem wd250 : (Cond.instanceMethod ⟨"java/lang/RuntimeException", "<init>", "(Ljava/lang/String;)V"⟩) ∈ G := g9_in _ (List.mem_of_getElem? (i := 3) rfl)
theorem wd251 : (Cond.code ⟨"java/lang/RuntimeException", "<init>", "(Ljava/lang/String;)V"⟩ prog_11_method_2_code 2 none) ∈ G := g9_in _ (List.mem_of_getElem? (i := 4) rfl)
theorem wd252 : (Cond.methodLink "java/lang/RuntimeException" 7 ⟨"java/lang/Exception", "<init>", "(Ljava/lang/String;)V"⟩) ∈ G := g9_in _ (List.mem_of_getElem? (i := 5) rfl)
theorem wd253 : (Cond.instanceMethod ⟨"java/lang/Exception", "<init>", "(Ljava/lang/String;)V"⟩) ∈ G := g9_in _ (List.mem_of_getElem? (i := 6) rfl)
theorem wd254 : (Cond.code ⟨"java/lang/Exception", "<init>", "(Ljava/lang/String;)V"⟩ prog_6_method_2_code 2 none) ∈ G := g9_in _ (List.mem_of_getElem? (i := 7) rfl)
theorem wd255 : (Cond.methodLink "java/lang/Exception" 7 ⟨"java/lang/Throwable", "<init>", "(Ljava/lang/String;)V"⟩) ∈ G := g9_in _ (List.mem_of_getElem? (i := 8) rfl)
theorem wd256 : (Cond.instanceMethod ⟨"java/lang/Throwable", "<init>", "(Ljava/lang/String;)V"⟩) ∈ G := g9_in _ (List.mem_of_getElem? (i := 9) rfl)
theorem wd257 : (Cond.code ⟨"java/lang/Throwable", "<init>", "(Ljava/lang/String;)V"⟩ prog_13_method_2_code 2 none) ∈ G := g9_in _ (List.mem_of_getElem? (i := 10) rfl)
theorem wd258 : (Cond.fieldLink "java/lang/Throwable" 31 "java/lang/Throwable" "detailMessage" "Ljava/lang/String;") ∈ G := g9_in _ (List.mem_of_getElem? (i := 11) rfl)
theorem wd259 : (Cond.fieldLink "java/lang/Throwable" 7 "java/lang/Throwable" "cause" "Ljava/lang/Throwable;") ∈ G := g9_in _ (List.mem_of_getElem? (i := 12) rfl)
theorem wd260 : (Cond.fieldLink "java/lang/Throwable" 17 "java/lang/Throwable" "stackTrace" "[Ljava/lang/StackTraceElement;") ∈ G := g9_in _ (List.mem_of_getElem? (i := 13) rfl)
theorem wd261 : (Cond.fieldLink "java/lang/Throwable" 24 "java/lang/Throwable" "suppressedExceptions" "Ljava/util/List;") ∈ G := g9_in _ (List.mem_of_getElem? (i := 14) rfl)
theorem wd262 : (Cond.soleField "java/lang/Throwable" "backtrace") ∈ G := g9_in _ (List.mem_of_getElem? (i := 15) rfl)
theorem wd263 : (Cond.soleField "java/lang/Throwable" "detailMessage") ∈ G := g9_in _ (List.mem_of_getElem? (i := 16) rfl)
theorem wd264 : (Cond.soleField "java/lang/Throwable" "cause") ∈ G := g9_in _ (List.mem_of_getElem? (i := 17) rfl)
theorem wd265 : (Cond.soleField "java/lang/Throwable" "stackTrace") ∈ G := g9_in _ (List.mem_of_getElem? (i := 18) rfl)
theorem wd266 : (Cond.lays "java/lang/IllegalArgumentException" "java/lang/Throwable" "depth" "I") ∈ G := g9_in _ (List.mem_of_getElem? (i := 19) rfl)
theorem wd267 : (Cond.soleField "java/lang/Throwable" "depth") ∈ G := g9_in _ (List.mem_of_getElem? (i := 20) rfl)
theorem wd268 : (Cond.soleField "java/lang/Throwable" "suppressedExceptions") ∈ G := g9_in _ (List.mem_of_getElem? (i := 21) rfl)
theorem wd269 : (Cond.superclass "java/lang/IllegalArgumentException" "java/lang/RuntimeException") ∈ G := g9_in _ (List.mem_of_getElem? (i := 22) rfl)
theorem wd270 : (Cond.arrayClass FieldType.byte) ∈ G := g9_in _ (List.mem_of_getElem? (i := 23) rfl)
theorem wd271 : (Cond.methodLink RX2 60 yX2_refuseToOverfill) ∈ G := g9_in _ (List.mem_of_getElem? (i := 24) rfl)
theorem wd272 : (Cond.instanceMethod yX2_refuseToOverfill) ∈ G := g9_in _ (List.mem_of_getElem? (i := 25) rfl)
theorem wd273 : (Cond.code yX2_refuseToOverfill prog_1_method_17_code 2 none) ∈ G := g9_in _ (List.mem_of_getElem? (i := 26) rfl)
theorem wd274 : (Cond.classLink RX2 184 "java/lang/UnsupportedOperationException") ∈ G := g9_in _ (List.mem_of_getElem? (i := 27) rfl)
theorem wd275 : (Cond.instantiable "java/lang/UnsupportedOperationException" 6) ∈ G := g9_in _ (List.mem_of_getElem? (i := 28) rfl)
theorem wd276 : (Cond.selects "java/lang/UnsupportedOperationException" ⟨"java/lang/Throwable", "fillInStackTrace", "(I)Ljava/lang/Throwable;"⟩ ⟨"java/lang/Throwable", "fillInStackTrace", "(I)Ljava/lang/Throwable;"⟩) ∈ G := g9_in _ (List.mem_of_getElem? (i := 29) rfl)
theorem wd277 : (Cond.lays "java/lang/UnsupportedOperationException" "java/lang/Throwable" "cause" "Ljava/lang/Throwable;") ∈ G := g10_in _ (List.mem_of_getElem? (i := 0) rfl)
theorem wd278 : (Cond.lays "java/lang/UnsupportedOperationException" "java/lang/Throwable" "stackTrace" "[Ljava/lang/StackTraceElement;") ∈ G := g10_in _ (List.mem_of_getElem? (i := 1) rfl)
theorem wd279 : (Cond.lays "java/lang/UnsupportedOperationException" "java/lang/Throwable" "suppressedExceptions" "Ljava/util/List;") ∈ G := g10_in _ (List.mem_of_getElem? (i := 2) rfl)
theorem wd280 : (Cond.lays "java/lang/UnsupportedOperationException" "java/lang/Throwable" "detailMessage" "Ljava/lang/String;") ∈ G := g10_in _ (List.mem_of_getElem? (i := 3) rfl)
theorem wd281 : (Cond.lays "java/lang/UnsupportedOperationException" "java/lang/Throwable" "backtrace" "Ljava/lang/Object;") ∈ G := g10_in _ (List.mem_of_getElem? (i := 4) rfl)
theorem wd282 : (Cond.methodLink RX2 188 ⟨"java/lang/UnsupportedOperationException", "<init>", "(Ljava/lang/String;)V"⟩) ∈ G := g10_in _ (List.mem_of_getElem? (i := 5) rfl)
theorem wd283 : (Cond.instanceMethod ⟨"java/lang/UnsupportedOperationException", "<init>", "(Ljava/lang/String;)V"⟩) ∈ G := g10_in _ (List.mem_of_getElem? (i := 6) rfl)
theorem wd284 : (Cond.code ⟨"java/lang/UnsupportedOperationException", "<init>", "(Ljava/lang/String;)V"⟩ prog_14_method_2_code 2 none) ∈ G := g10_in _ (List.mem_of_getElem? (i := 7) rfl)
theorem wd285 : (Cond.methodLink "java/lang/UnsupportedOperationException" 7 ⟨"java/lang/RuntimeException", "<init>", "(Ljava/lang/String;)V"⟩) ∈ G := g10_in _ (List.mem_of_getElem? (i := 8) rfl)
theorem wd286 : (Cond.lays "java/lang/UnsupportedOperationException" "java/lang/Throwable" "depth" "I") ∈ G := g10_in _ (List.mem_of_getElem? (i := 9) rfl)
theorem wd287 : (Cond.superclass "java/lang/UnsupportedOperationException" "java/lang/RuntimeException") ∈ G := g10_in _ (List.mem_of_getElem? (i := 10) rfl)
theorem wd288 : (Cond.methodLink RX2 63 yX2_writeStuffedIfDue) ∈ G := g10_in _ (List.mem_of_getElem? (i := 11) rfl)
theorem wd289 : (Cond.instanceMethod yX2_writeStuffedIfDue) ∈ G := g10_in _ (List.mem_of_getElem? (i := 12) rfl)
theorem wd290 : (Cond.code yX2_writeStuffedIfDue prog_1_method_21_code 1 none) ∈ G := g10_in _ (List.mem_of_getElem? (i := 13) rfl)
theorem wd291 : (Cond.methodLink RX2 108 yX0_setBit) ∈ G := g10_in _ (List.mem_of_getElem? (i := 14) rfl)
theorem wd292 : (Cond.instanceMethod yX0_setBit) ∈ G := g10_in _ (List.mem_of_getElem? (i := 15) rfl)
theorem wd293 : (Cond.selects RX0 yX0_setBit yX0_setBit) ∈ G := g10_in _ (List.mem_of_getElem? (i := 16) rfl)
theorem wd294 : (Cond.code yX0_setBit prog_2_method_6_code 5 none) ∈ G := g10_in _ (List.mem_of_getElem? (i := 17) rfl)
theorem wd295 : (Cond.methodLink RX0 36 ⟨"java/lang/Math", "max", "(II)I"⟩) ∈ G := g10_in _ (List.mem_of_getElem? (i := 18) rfl)
theorem wd296 : (Cond.methodLink RX2 69 yX2_shiftOf) ∈ G := g10_in _ (List.mem_of_getElem? (i := 19) rfl)
theorem wd297 : (Cond.instanceMethod yX2_shiftOf) ∈ G := g10_in _ (List.mem_of_getElem? (i := 20) rfl)
theorem wd298 : (Cond.code yX2_shiftOf prog_1_method_19_code 3 (some FieldType.int)) ∈ G := g10_in _ (List.mem_of_getElem? (i := 21) rfl)
theorem wd299 : (Cond.methodLink RX2 72 yX2_writeBit) ∈ G := g10_in _ (List.mem_of_getElem? (i := 22) rfl)
theorem wd300 : (Cond.instanceMethod yX2_writeBit) ∈ G := g10_in _ (List.mem_of_getElem? (i := 23) rfl)
theorem wd301 : (Cond.code yX2_writeBit prog_1_method_20_code 2 none) ∈ G := g10_in _ (List.mem_of_getElem? (i := 24) rfl)
theorem wd302 : (Cond.methodLink RL 72 yL_align) ∈ G := g10_in _ (List.mem_of_getElem? (i := 25) rfl)
theorem wd303 : (Cond.static yL_align) ∈ G := g10_in _ (List.mem_of_getElem? (i := 26) rfl)
theorem wd304 : (Cond.codeWith yL_align method_4_code 3 (some FieldType.int) [(0, 8, 11, 15)]) ∈ G := g10_in _ (List.mem_of_getElem? (i := 27) rfl)
theorem wd305 : (Cond.methodLink RL 17 yX2_align) ∈ G := g10_in _ (List.mem_of_getElem? (i := 28) rfl)
theorem wd306 : (Cond.instanceMethod yX2_align) ∈ G := g10_in _ (List.mem_of_getElem? (i := 29) rfl)
theorem wd307 : (Cond.selects RX2 yX2_align yX2_align) ∈ G := g11_in _ (List.mem_of_getElem? (i := 0) rfl)
theorem wd308 : (Cond.code yX2_align prog_1_method_3_code 1 (some FieldType.int)) ∈ G := g11_in _ (List.mem_of_getElem? (i := 1) rfl)
theorem wd309 : (Cond.methodLink RX2 75 yX2_writeTillAligned) ∈ G := g11_in _ (List.mem_of_getElem? (i := 2) rfl)
theorem wd310 : (Cond.instanceMethod yX2_writeTillAligned) ∈ G := g11_in _ (List.mem_of_getElem? (i := 3) rfl)
theorem wd311 : (Cond.code yX2_writeTillAligned prog_1_method_22_code 3 (some FieldType.int)) ∈ G := g11_in _ (List.mem_of_getElem? (i := 4) rfl)
theorem wd312 : (Cond.methodLink RL 76 yL_mark) ∈ G := g11_in _ (List.mem_of_getElem? (i := 5) rfl)
theorem wd313 : (Cond.static yL_mark) ∈ G := g11_in _ (List.mem_of_getElem? (i := 6) rfl)
theorem wd314 : (Cond.codeWith yL_mark method_5_code 4 (some FieldType.int) [(0, 9, 12, 25), (0, 9, 15, 13), (0, 9, 18, 15)]) ∈ G := g11_in _ (List.mem_of_getElem? (i := 7) rfl)
theorem wd315 : (Cond.classLink RL 25 "java/lang/IllegalStateException") ∈ G := g11_in _ (List.mem_of_getElem? (i := 8) rfl)
theorem wd316 : (Cond.methodLink RL 21 yX2_mark) ∈ G := g11_in _ (List.mem_of_getElem? (i := 9) rfl)
theorem wd317 : (Cond.instanceMethod yX2_mark) ∈ G := g11_in _ (List.mem_of_getElem? (i := 10) rfl)
theorem wd318 : (Cond.selects RX2 yX2_mark yX2_mark) ∈ G := g11_in _ (List.mem_of_getElem? (i := 11) rfl)
theorem wd319 : (Cond.code yX2_mark prog_1_method_4_code 3 (some FieldType.int)) ∈ G := g11_in _ (List.mem_of_getElem? (i := 12) rfl)
theorem wd320 : (Cond.classLink RX2 79 "java/lang/IllegalStateException") ∈ G := g11_in _ (List.mem_of_getElem? (i := 13) rfl)
theorem wd321 : (Cond.instantiable "java/lang/IllegalStateException" 6) ∈ G := g11_in _ (List.mem_of_getElem? (i := 14) rfl)
theorem wd322 : (Cond.selects "java/lang/IllegalStateException" ⟨"java/lang/Throwable", "fillInStackTrace", "(I)Ljava/lang/Throwable;"⟩ ⟨"java/lang/Throwable", "fillInStackTrace", "(I)Ljava/lang/Throwable;"⟩) ∈ G := g11_in _ (List.mem_of_getElem? (i := 15) rfl)
theorem wd323 : (Cond.lays "java/lang/IllegalStateException" "java/lang/Throwable" "cause" "Ljava/lang/Throwable;") ∈ G := g11_in _ (List.mem_of_getElem? (i := 16) rfl)
theorem wd324 : (Cond.lays "java/lang/IllegalStateException" "java/lang/Throwable" "stackTrace" "[Ljava/lang/StackTraceElement;") ∈ G := g11_in _ (List.mem_of_getElem? (i := 17) rfl)
theorem wd325 : (Cond.lays "java/lang/IllegalStateException" "java/lang/Throwable" "suppressedExceptions" "Ljava/util/List;") ∈ G := g11_in _ (List.mem_of_getElem? (i := 18) rfl)
theorem wd326 : (Cond.lays "java/lang/IllegalStateException" "java/lang/Throwable" "detailMessage" "Ljava/lang/String;") ∈ G := g11_in _ (List.mem_of_getElem? (i := 19) rfl)
theorem wd327 : (Cond.lays "java/lang/IllegalStateException" "java/lang/Throwable" "backtrace" "Ljava/lang/Object;") ∈ G := g11_in _ (List.mem_of_getElem? (i := 20) rfl)
theorem wd328 : (Cond.methodLink RX2 83 ⟨"java/lang/IllegalStateException", "<init>", "(Ljava/lang/String;)V"⟩) ∈ G := g11_in _ (List.mem_of_getElem? (i := 21) rfl)
theorem wd329 : (Cond.instanceMethod ⟨"java/lang/IllegalStateException", "<init>", "(Ljava/lang/String;)V"⟩) ∈ G := g11_in _ (List.mem_of_getElem? (i := 22) rfl)
theorem wd330 : (Cond.code ⟨"java/lang/IllegalStateException", "<init>", "(Ljava/lang/String;)V"⟩ prog_8_method_2_code 2 none) ∈ G := g11_in _ (List.mem_of_getElem? (i := 23) rfl)
theorem wd331 : (Cond.methodLink "java/lang/IllegalStateException" 7 ⟨"java/lang/RuntimeException", "<init>", "(Ljava/lang/String;)V"⟩) ∈ G := g11_in _ (List.mem_of_getElem? (i := 24) rfl)
theorem wd332 : (Cond.lays "java/lang/IllegalStateException" "java/lang/Throwable" "depth" "I") ∈ G := g11_in _ (List.mem_of_getElem? (i := 25) rfl)
theorem wd333 : (Cond.superclass "java/lang/IllegalStateException" "java/lang/RuntimeException") ∈ G := g11_in _ (List.mem_of_getElem? (i := 26) rfl)
theorem wd334 : (Cond.methodLink RX2 91 yX0_addByte) ∈ G := g11_in _ (List.mem_of_getElem? (i := 27) rfl)
theorem wd335 : (Cond.instanceMethod yX0_addByte) ∈ G := g11_in _ (List.mem_of_getElem? (i := 28) rfl)
theorem wd336 : (Cond.selects RX0 yX0_addByte yX0_addByte) ∈ G := g11_in _ (List.mem_of_getElem? (i := 29) rfl)
theorem wd337 : (Cond.code yX0_addByte prog_2_method_4_code 2 none) ∈ G := g12_in _ (List.mem_of_getElem? (i := 0) rfl)
theorem wd338 : (Cond.methodLink RL 80 yL_patch) ∈ G := g12_in _ (List.mem_of_getElem? (i := 1) rfl)
theorem wd339 : (Cond.static yL_patch) ∈ G := g12_in _ (List.mem_of_getElem? (i := 2) rfl)
theorem wd340 : (Cond.codeWith yL_patch method_6_code 6 (some FieldType.int) [(0, 12, 15, 25), (0, 12, 19, 13), (0, 12, 23, 31)]) ∈ G := g12_in _ (List.mem_of_getElem? (i := 3) rfl)
theorem wd341 : (Cond.classLink RL 31 "java/lang/IndexOutOfBoundsException") ∈ G := g12_in _ (List.mem_of_getElem? (i := 4) rfl)
theorem wd342 : (Cond.methodLink RL 27 yX2_patch) ∈ G := g12_in _ (List.mem_of_getElem? (i := 5) rfl)
theorem wd343 : (Cond.instanceMethod yX2_patch) ∈ G := g12_in _ (List.mem_of_getElem? (i := 6) rfl)
theorem wd344 : (Cond.selects RX2 yX2_patch yX2_patch) ∈ G := g12_in _ (List.mem_of_getElem? (i := 7) rfl)
theorem wd345 : (Cond.code yX2_patch prog_1_method_5_code 7 (some FieldType.int)) ∈ G := g12_in _ (List.mem_of_getElem? (i := 8) rfl)
theorem wd346 : (Cond.classLink RX2 99 "java/lang/IndexOutOfBoundsException") ∈ G := g12_in _ (List.mem_of_getElem? (i := 9) rfl)
theorem wd347 : (Cond.instantiable "java/lang/IndexOutOfBoundsException" 6) ∈ G := g12_in _ (List.mem_of_getElem? (i := 10) rfl)
theorem wd348 : (Cond.selects "java/lang/IndexOutOfBoundsException" ⟨"java/lang/Throwable", "fillInStackTrace", "(I)Ljava/lang/Throwable;"⟩ ⟨"java/lang/Throwable", "fillInStackTrace", "(I)Ljava/lang/Throwable;"⟩) ∈ G := g12_in _ (List.mem_of_getElem? (i := 11) rfl)
theorem wd349 : (Cond.lays "java/lang/IndexOutOfBoundsException" "java/lang/Throwable" "cause" "Ljava/lang/Throwable;") ∈ G := g12_in _ (List.mem_of_getElem? (i := 12) rfl)
theorem wd350 : (Cond.lays "java/lang/IndexOutOfBoundsException" "java/lang/Throwable" "stackTrace" "[Ljava/lang/StackTraceElement;") ∈ G := g12_in _ (List.mem_of_getElem? (i := 13) rfl)
theorem wd351 : (Cond.lays "java/lang/IndexOutOfBoundsException" "java/lang/Throwable" "suppressedExceptions" "Ljava/util/List;") ∈ G := g12_in _ (List.mem_of_getElem? (i := 14) rfl)
theorem wd352 : (Cond.lays "java/lang/IndexOutOfBoundsException" "java/lang/Throwable" "detailMessage" "Ljava/lang/String;") ∈ G := g12_in _ (List.mem_of_getElem? (i := 15) rfl)
theorem wd353 : (Cond.lays "java/lang/IndexOutOfBoundsException" "java/lang/Throwable" "backtrace" "Ljava/lang/Object;") ∈ G := g12_in _ (List.mem_of_getElem? (i := 16) rfl)
theorem wd354 : (Cond.methodLink RX2 103 ⟨"java/lang/IndexOutOfBoundsException", "<init>", "(Ljava/lang/String;)V"⟩) ∈ G := g12_in _ (List.mem_of_getElem? (i := 17) rfl)
theorem wd355 : (Cond.instanceMethod ⟨"java/lang/IndexOutOfBoundsException", "<init>", "(Ljava/lang/String;)V"⟩) ∈ G := g12_in _ (List.mem_of_getElem? (i := 18) rfl)
theorem wd356 : (Cond.code ⟨"java/lang/IndexOutOfBoundsException", "<init>", "(Ljava/lang/String;)V"⟩ prog_9_method_2_code 2 none) ∈ G := g12_in _ (List.mem_of_getElem? (i := 19) rfl)
theorem wd357 : (Cond.methodLink "java/lang/IndexOutOfBoundsException" 7 ⟨"java/lang/RuntimeException", "<init>", "(Ljava/lang/String;)V"⟩) ∈ G := g12_in _ (List.mem_of_getElem? (i := 20) rfl)
theorem wd358 : (Cond.lays "java/lang/IndexOutOfBoundsException" "java/lang/Throwable" "depth" "I") ∈ G := g12_in _ (List.mem_of_getElem? (i := 21) rfl)
theorem wd359 : (Cond.superclass "java/lang/IndexOutOfBoundsException" "java/lang/RuntimeException") ∈ G := g12_in _ (List.mem_of_getElem? (i := 22) rfl)
theorem wd360 : (Cond.methodLink RL 84 yL_byteAt) ∈ G := g12_in _ (List.mem_of_getElem? (i := 23) rfl)
theorem wd361 : (Cond.static yL_byteAt) ∈ G := g12_in _ (List.mem_of_getElem? (i := 24) rfl)
theorem wd362 : (Cond.codeWith yL_byteAt method_7_code 4 (some FieldType.int) [(0, 9, 12, 31)]) ∈ G := g12_in _ (List.mem_of_getElem? (i := 25) rfl)
theorem wd363 : (Cond.methodLink RL 33 yX2_byteAt) ∈ G := g12_in _ (List.mem_of_getElem? (i := 26) rfl)
theorem wd364 : (Cond.instanceMethod yX2_byteAt) ∈ G := g12_in _ (List.mem_of_getElem? (i := 27) rfl)
theorem wd365 : (Cond.selects RX2 yX2_byteAt yX2_byteAt) ∈ G := g12_in _ (List.mem_of_getElem? (i := 28) rfl)
theorem wd366 : (Cond.code yX2_byteAt prog_1_method_6_code 2 (some FieldType.int)) ∈ G := g12_in _ (List.mem_of_getElem? (i := 29) rfl)
theorem wd367 : (Cond.methodLink RL 87 yL_feed) ∈ G := g13_in _ (List.mem_of_getElem? (i := 0) rfl)
theorem wd368 : (Cond.static yL_feed) ∈ G := g13_in _ (List.mem_of_getElem? (i := 1) rfl)
theorem wd369 : (Cond.codeWith yL_feed method_8_code 4 (some FieldType.int) [(0, 9, 12, 13), (0, 9, 15, 15)]) ∈ G := g13_in _ (List.mem_of_getElem? (i := 2) rfl)
theorem wd370 : (Cond.methodLink RL 36 yX2_feed) ∈ G := g13_in _ (List.mem_of_getElem? (i := 3) rfl)
theorem wd371 : (Cond.instanceMethod yX2_feed) ∈ G := g13_in _ (List.mem_of_getElem? (i := 4) rfl)
theorem wd372 : (Cond.selects RX2 yX2_feed yX2_feed) ∈ G := g13_in _ (List.mem_of_getElem? (i := 5) rfl)
theorem wd373 : (Cond.code yX2_feed prog_1_method_7_code 2 (some FieldType.int)) ∈ G := g13_in _ (List.mem_of_getElem? (i := 6) rfl)
theorem wd374 : (Cond.methodLink RX2 122 yX2_refuseMoreBytes) ∈ G := g13_in _ (List.mem_of_getElem? (i := 7) rfl)
theorem wd375 : (Cond.instanceMethod yX2_refuseMoreBytes) ∈ G := g13_in _ (List.mem_of_getElem? (i := 8) rfl)
theorem wd376 : (Cond.code yX2_refuseMoreBytes prog_1_method_18_code 2 none) ∈ G := g13_in _ (List.mem_of_getElem? (i := 9) rfl)
theorem wd377 : (Cond.methodLink RL 90 yL_pass) ∈ G := g13_in _ (List.mem_of_getElem? (i := 10) rfl)
theorem wd378 : (Cond.static yL_pass) ∈ G := g13_in _ (List.mem_of_getElem? (i := 11) rfl)
theorem wd379 : (Cond.codeWith yL_pass method_9_code 5 (some FieldType.int) [(0, 10, 13, 31), (0, 10, 17, 13), (0, 10, 21, 15)]) ∈ G := g13_in _ (List.mem_of_getElem? (i := 12) rfl)
theorem wd380 : (Cond.methodLink RL 39 yX2_pass) ∈ G := g13_in _ (List.mem_of_getElem? (i := 13) rfl)
theorem wd381 : (Cond.instanceMethod yX2_pass) ∈ G := g13_in _ (List.mem_of_getElem? (i := 14) rfl)
theorem wd382 : (Cond.selects RX2 yX2_pass yX2_pass) ∈ G := g13_in _ (List.mem_of_getElem? (i := 15) rfl)
theorem wd383 : (Cond.code yX2_pass prog_1_method_8_code 6 (some FieldType.int)) ∈ G := g13_in _ (List.mem_of_getElem? (i := 16) rfl)
theorem wd384 : (Cond.methodLink RL 93 yL_get) ∈ G := g13_in _ (List.mem_of_getElem? (i := 17) rfl)
theorem wd385 : (Cond.static yL_get) ∈ G := g13_in _ (List.mem_of_getElem? (i := 18) rfl)
theorem wd386 : (Cond.codeWith yL_get method_10_code 4 (some FieldType.int) [(0, 8, 11, 13)]) ∈ G := g13_in _ (List.mem_of_getElem? (i := 19) rfl)
theorem wd387 : (Cond.methodLink RL 42 yX2_get) ∈ G := g13_in _ (List.mem_of_getElem? (i := 20) rfl)
theorem wd388 : (Cond.instanceMethod yX2_get) ∈ G := g13_in _ (List.mem_of_getElem? (i := 21) rfl)
theorem wd389 : (Cond.selects RX2 yX2_get yX2_get) ∈ G := g13_in _ (List.mem_of_getElem? (i := 22) rfl)
theorem wd390 : (Cond.code yX2_get prog_1_method_9_code 9 (some FieldType.long)) ∈ G := g13_in _ (List.mem_of_getElem? (i := 23) rfl)
theorem wd391 : (Cond.constantLong RX2 129 (-3)) ∈ G := g13_in _ (List.mem_of_getElem? (i := 24) rfl)
theorem wd392 : (Cond.methodLink RX2 137 yX2_readBit) ∈ G := g13_in _ (List.mem_of_getElem? (i := 25) rfl)
theorem wd393 : (Cond.instanceMethod yX2_readBit) ∈ G := g13_in _ (List.mem_of_getElem? (i := 26) rfl)
theorem wd394 : (Cond.code yX2_readBit prog_1_method_23_code 3 (some FieldType.int)) ∈ G := g13_in _ (List.mem_of_getElem? (i := 27) rfl)
theorem wd395 : (Cond.methodLink RX2 191 yX2_meetHere) ∈ G := g13_in _ (List.mem_of_getElem? (i := 28) rfl)
theorem wd396 : (Cond.instanceMethod yX2_meetHere) ∈ G := g13_in _ (List.mem_of_getElem? (i := 29) rfl)
theorem wd397 : (Cond.code yX2_meetHere prog_1_method_24_code 2 (some FieldType.int)) ∈ G := g14_in _ (List.mem_of_getElem? (i := 0) rfl)
theorem wd398 : (Cond.methodLink RX2 197 yX1_isWithin) ∈ G := g14_in _ (List.mem_of_getElem? (i := 1) rfl)
theorem wd399 : (Cond.instanceMethod yX1_isWithin) ∈ G := g14_in _ (List.mem_of_getElem? (i := 2) rfl)
theorem wd400 : (Cond.selects RX1 yX1_isWithin yX1_isWithin) ∈ G := g14_in _ (List.mem_of_getElem? (i := 3) rfl)
theorem wd401 : (Cond.code yX1_isWithin prog_3_method_4_code 1 (some FieldType.boolean)) ∈ G := g14_in _ (List.mem_of_getElem? (i := 4) rfl)
theorem wd402 : (Cond.methodLink RX2 194 yX2_readStuffedIfDue) ∈ G := g14_in _ (List.mem_of_getElem? (i := 5) rfl)
theorem wd403 : (Cond.instanceMethod yX2_readStuffedIfDue) ∈ G := g14_in _ (List.mem_of_getElem? (i := 6) rfl)
theorem wd404 : (Cond.code yX2_readStuffedIfDue prog_1_method_25_code 1 (some FieldType.int)) ∈ G := g14_in _ (List.mem_of_getElem? (i := 7) rfl)
theorem wd405 : (Cond.methodLink RX2 140 yX1_goBack) ∈ G := g14_in _ (List.mem_of_getElem? (i := 8) rfl)
theorem wd406 : (Cond.methodLink RL 104 yL_find) ∈ G := g14_in _ (List.mem_of_getElem? (i := 9) rfl)
theorem wd407 : (Cond.static yL_find) ∈ G := g14_in _ (List.mem_of_getElem? (i := 10) rfl)
theorem wd408 : (Cond.codeWith yL_find method_11_code 4 (some FieldType.int) [(0, 9, 12, 31)]) ∈ G := g14_in _ (List.mem_of_getElem? (i := 11) rfl)
theorem wd409 : (Cond.methodLink RL 46 yX2_find) ∈ G := g14_in _ (List.mem_of_getElem? (i := 12) rfl)
theorem wd410 : (Cond.instanceMethod yX2_find) ∈ G := g14_in _ (List.mem_of_getElem? (i := 13) rfl)
theorem wd411 : (Cond.selects RX2 yX2_find yX2_find) ∈ G := g14_in _ (List.mem_of_getElem? (i := 14) rfl)
theorem wd412 : (Cond.code yX2_find prog_1_method_12_code 3 (some FieldType.int)) ∈ G := g14_in _ (List.mem_of_getElem? (i := 15) rfl)
theorem wd413 : (Cond.methodLink RL 107 yL_sum) ∈ G := g14_in _ (List.mem_of_getElem? (i := 16) rfl)
theorem wd414 : (Cond.static yL_sum) ∈ G := g14_in _ (List.mem_of_getElem? (i := 17) rfl)
theorem wd415 : (Cond.codeWith yL_sum method_12_code 7 (some FieldType.int) [(0, 14, 17, 13), (0, 14, 21, 31)]) ∈ G := g14_in _ (List.mem_of_getElem? (i := 18) rfl)
theorem wd416 : (Cond.methodLink RL 49 yX2_sum) ∈ G := g14_in _ (List.mem_of_getElem? (i := 19) rfl)
theorem wd417 : (Cond.instanceMethod yX2_sum) ∈ G := g14_in _ (List.mem_of_getElem? (i := 20) rfl)
theorem wd418 : (Cond.selects RX2 yX2_sum yX2_sum) ∈ G := g14_in _ (List.mem_of_getElem? (i := 21) rfl)
theorem wd419 : (Cond.code yX2_sum prog_1_method_13_code 6 (some FieldType.int)) ∈ G := g14_in _ (List.mem_of_getElem? (i := 22) rfl)
theorem wd420 : (Cond.methodLink RX2 170 yX0_sumOf16) ∈ G := g14_in _ (List.mem_of_getElem? (i := 23) rfl)
theorem wd421 : (Cond.instanceMethod yX0_sumOf16) ∈ G := g14_in _ (List.mem_of_getElem? (i := 24) rfl)
theorem wd422 : (Cond.selects RX0 yX0_sumOf16 yX0_sumOf16) ∈ G := g14_in _ (List.mem_of_getElem? (i := 25) rfl)
theorem wd423 : (Cond.code yX0_sumOf16 prog_2_method_8_code 6 (some FieldType.int)) ∈ G := g14_in _ (List.mem_of_getElem? (i := 26) rfl)
theorem wd424 : (Cond.constant RX0 42 65535) ∈ G := g14_in _ (List.mem_of_getElem? (i := 27) rfl)
theorem wd425 : (Cond.constant RX0 43 32768) ∈ G := g14_in _ (List.mem_of_getElem? (i := 28) rfl)
theorem wd426 : (Cond.methodLink RX2 173 yX0_sumOf32) ∈ G := g14_in _ (List.mem_of_getElem? (i := 29) rfl)
theorem wd427 : (Cond.instanceMethod yX0_sumOf32) ∈ G := g15_in _ (List.mem_of_getElem? (i := 0) rfl)
theorem wd428 : (Cond.selects RX0 yX0_sumOf32 yX0_sumOf32) ∈ G := g15_in _ (List.mem_of_getElem? (i := 1) rfl)
theorem wd429 : (Cond.code yX0_sumOf32 prog_2_method_9_code 6 (some FieldType.int)) ∈ G := g15_in _ (List.mem_of_getElem? (i := 2) rfl)
theorem wd430 : (Cond.constant RX0 44 (-306674912)) ∈ G := g15_in _ (List.mem_of_getElem? (i := 3) rfl)
theorem wd431 : (Cond.classLink RL 62 RX3) ∈ G := g15_in _ (List.mem_of_getElem? (i := 4) rfl)
theorem wd432 : (Cond.instantiable RX3 19) ∈ G := g15_in _ (List.mem_of_getElem? (i := 5) rfl)
theorem wd433 : (Cond.methodLink RL 64 yX3_init) ∈ G := g15_in _ (List.mem_of_getElem? (i := 6) rfl)
theorem wd434 : (Cond.instanceMethod yX3_init) ∈ G := g15_in _ (List.mem_of_getElem? (i := 7) rfl)
theorem wd435 : (Cond.code yX3_init prog_5_method_1_code 3 none) ∈ G := g15_in _ (List.mem_of_getElem? (i := 8) rfl)
theorem wd436 : (Cond.methodLink RX3 1 objectInit) ∈ G := g15_in _ (List.mem_of_getElem? (i := 9) rfl)
theorem wd437 : (Cond.fieldLink RX3 25 RX3 "thrown" "I") ∈ G := g15_in _ (List.mem_of_getElem? (i := 10) rfl)
theorem wd438 : (Cond.fieldLink RX3 17 RX3 "stuffing" "I") ∈ G := g15_in _ (List.mem_of_getElem? (i := 11) rfl)
theorem wd439 : (Cond.fieldLink RX3 21 RX3 "low" "Z") ∈ G := g15_in _ (List.mem_of_getElem? (i := 12) rfl)
theorem wd440 : (Cond.fieldLink RX3 7 RX3 "bits" "[Z") ∈ G := g15_in _ (List.mem_of_getElem? (i := 13) rfl)
theorem wd441 : (Cond.fieldLink RX3 28 RX3 "written" "I") ∈ G := g15_in _ (List.mem_of_getElem? (i := 14) rfl)
theorem wd442 : (Cond.fieldLink RX3 38 RX3 "stuffed" "I") ∈ G := g15_in _ (List.mem_of_getElem? (i := 15) rfl)
theorem wd443 : (Cond.fieldLink RX3 48 RX3 "ones" "I") ∈ G := g15_in _ (List.mem_of_getElem? (i := 16) rfl)
theorem wd444 : (Cond.fieldLink RX3 35 RX3 "after" "Z") ∈ G := g15_in _ (List.mem_of_getElem? (i := 17) rfl)
theorem wd445 : (Cond.fieldLink RX3 13 RX3 "came" "[I") ∈ G := g15_in _ (List.mem_of_getElem? (i := 18) rfl)
theorem wd446 : (Cond.fieldLink RX3 76 RX3 "cameCount" "I") ∈ G := g15_in _ (List.mem_of_getElem? (i := 19) rfl)
theorem wd447 : (Cond.fieldLink RX3 100 RX3 "read" "I") ∈ G := g15_in _ (List.mem_of_getElem? (i := 20) rfl)
theorem wd448 : (Cond.fieldLink RX3 103 RX3 "readStuffed" "I") ∈ G := g15_in _ (List.mem_of_getElem? (i := 21) rfl)
theorem wd449 : (Cond.fieldLink RX3 106 RX3 "readOnes" "I") ∈ G := g15_in _ (List.mem_of_getElem? (i := 22) rfl)
theorem wd450 : (Cond.fieldLink RX3 109 RX3 "readAfter" "Z") ∈ G := g15_in _ (List.mem_of_getElem? (i := 23) rfl)
theorem wd451 : (Cond.fieldLink RX3 112 RX3 "bad" "Z") ∈ G := g15_in _ (List.mem_of_getElem? (i := 24) rfl)
theorem wd452 : (Cond.fieldLink RX3 79 RX3 "tried" "I") ∈ G := g15_in _ (List.mem_of_getElem? (i := 25) rfl)
theorem wd453 : (Cond.fieldLink RX3 91 RX3 "triedStuffed" "I") ∈ G := g15_in _ (List.mem_of_getElem? (i := 26) rfl)
theorem wd454 : (Cond.fieldLink RX3 97 RX3 "triedOnes" "I") ∈ G := g15_in _ (List.mem_of_getElem? (i := 27) rfl)
theorem wd455 : (Cond.fieldLink RX3 82 RX3 "triedAfter" "Z") ∈ G := g15_in _ (List.mem_of_getElem? (i := 28) rfl)
theorem wd456 : (Cond.lays RX3 RX3 "thrown" "I") ∈ G := g15_in _ (List.mem_of_getElem? (i := 29) rfl)
theorem wd457 : (Cond.soleField RX3 "thrown") ∈ G := g16_in _ (List.mem_of_getElem? (i := 0) rfl)
theorem wd458 : (Cond.laysFinal RX3 RX3 "stuffing" "I") ∈ G := g16_in _ (List.mem_of_getElem? (i := 1) rfl)
theorem wd459 : (Cond.soleField RX3 "stuffing") ∈ G := g16_in _ (List.mem_of_getElem? (i := 2) rfl)
theorem wd460 : (Cond.laysFinal RX3 RX3 "low" "Z") ∈ G := g16_in _ (List.mem_of_getElem? (i := 3) rfl)
theorem wd461 : (Cond.soleField RX3 "low") ∈ G := g17_in _ (List.mem_of_getElem? (i := 0) rfl)
theorem wd462 : (Cond.laysFinal RX3 RX3 "bits" "[Z") ∈ G := g17_in _ (List.mem_of_getElem? (i := 1) rfl)
theorem wd463 : (Cond.soleField RX3 "bits") ∈ G := g17_in _ (List.mem_of_getElem? (i := 2) rfl)
theorem wd464 : (Cond.lays RX3 RX3 "written" "I") ∈ G := g17_in _ (List.mem_of_getElem? (i := 3) rfl)
theorem wd465 : (Cond.soleField RX3 "written") ∈ G := g17_in _ (List.mem_of_getElem? (i := 4) rfl)
theorem wd466 : (Cond.lays RX3 RX3 "stuffed" "I") ∈ G := g17_in _ (List.mem_of_getElem? (i := 5) rfl)
theorem wd467 : (Cond.soleField RX3 "stuffed") ∈ G := g17_in _ (List.mem_of_getElem? (i := 6) rfl)
theorem wd468 : (Cond.lays RX3 RX3 "ones" "I") ∈ G := g17_in _ (List.mem_of_getElem? (i := 7) rfl)
theorem wd469 : (Cond.soleField RX3 "ones") ∈ G := g17_in _ (List.mem_of_getElem? (i := 8) rfl)
theorem wd470 : (Cond.lays RX3 RX3 "after" "Z") ∈ G := g17_in _ (List.mem_of_getElem? (i := 9) rfl)
theorem wd471 : (Cond.soleField RX3 "after") ∈ G := g17_in _ (List.mem_of_getElem? (i := 10) rfl)
theorem wd472 : (Cond.laysFinal RX3 RX3 "came" "[I") ∈ G := g17_in _ (List.mem_of_getElem? (i := 11) rfl)
theorem wd473 : (Cond.soleField RX3 "came") ∈ G := g17_in _ (List.mem_of_getElem? (i := 12) rfl)
theorem wd474 : (Cond.lays RX3 RX3 "cameCount" "I") ∈ G := g17_in _ (List.mem_of_getElem? (i := 13) rfl)
theorem wd475 : (Cond.soleField RX3 "cameCount") ∈ G := g17_in _ (List.mem_of_getElem? (i := 14) rfl)
theorem wd476 : (Cond.lays RX3 RX3 "read" "I") ∈ G := g17_in _ (List.mem_of_getElem? (i := 15) rfl)
theorem wd477 : (Cond.soleField RX3 "read") ∈ G := g17_in _ (List.mem_of_getElem? (i := 16) rfl)
theorem wd478 : (Cond.lays RX3 RX3 "readStuffed" "I") ∈ G := g17_in _ (List.mem_of_getElem? (i := 17) rfl)
theorem wd479 : (Cond.soleField RX3 "readStuffed") ∈ G := g17_in _ (List.mem_of_getElem? (i := 18) rfl)
theorem wd480 : (Cond.lays RX3 RX3 "readOnes" "I") ∈ G := g17_in _ (List.mem_of_getElem? (i := 19) rfl)
theorem wd481 : (Cond.soleField RX3 "readOnes") ∈ G := g17_in _ (List.mem_of_getElem? (i := 20) rfl)
theorem wd482 : (Cond.lays RX3 RX3 "readAfter" "Z") ∈ G := g17_in _ (List.mem_of_getElem? (i := 21) rfl)
theorem wd483 : (Cond.soleField RX3 "readAfter") ∈ G := g17_in _ (List.mem_of_getElem? (i := 22) rfl)
theorem wd484 : (Cond.lays RX3 RX3 "bad" "Z") ∈ G := g17_in _ (List.mem_of_getElem? (i := 23) rfl)
theorem wd485 : (Cond.soleField RX3 "bad") ∈ G := g17_in _ (List.mem_of_getElem? (i := 24) rfl)
theorem wd486 : (Cond.lays RX3 RX3 "tried" "I") ∈ G := g17_in _ (List.mem_of_getElem? (i := 25) rfl)
theorem wd487 : (Cond.soleField RX3 "tried") ∈ G := g17_in _ (List.mem_of_getElem? (i := 26) rfl)
theorem wd488 : (Cond.lays RX3 RX3 "triedStuffed" "I") ∈ G := g17_in _ (List.mem_of_getElem? (i := 27) rfl)
theorem wd489 : (Cond.soleField RX3 "triedStuffed") ∈ G := g17_in _ (List.mem_of_getElem? (i := 28) rfl)
theorem wd490 : (Cond.lays RX3 RX3 "triedOnes" "I") ∈ G := g17_in _ (List.mem_of_getElem? (i := 29) rfl)
theorem wd491 : (Cond.soleField RX3 "triedOnes") ∈ G := g18_in _ (List.mem_of_getElem? (i := 0) rfl)
theorem wd492 : (Cond.lays RX3 RX3 "triedAfter" "Z") ∈ G := g18_in _ (List.mem_of_getElem? (i := 1) rfl)
theorem wd493 : (Cond.soleField RX3 "triedAfter") ∈ G := g18_in _ (List.mem_of_getElem? (i := 2) rfl)
theorem wd494 : (Cond.superclass RX3 "java/lang/Object") ∈ G := g18_in _ (List.mem_of_getElem? (i := 3) rfl)
theorem wd495 : (Cond.arrayClass FieldType.boolean) ∈ G := g18_in _ (List.mem_of_getElem? (i := 4) rfl)
theorem wd496 : (Cond.methodLink RL 69 yX3_thrown) ∈ G := g18_in _ (List.mem_of_getElem? (i := 5) rfl)
theorem wd497 : (Cond.instanceMethod yX3_thrown) ∈ G := g18_in _ (List.mem_of_getElem? (i := 6) rfl)
theorem wd498 : (Cond.selects RX3 yX3_thrown yX3_thrown) ∈ G := g18_in _ (List.mem_of_getElem? (i := 7) rfl)
theorem wd499 : (Cond.code yX3_thrown prog_5_method_2_code 1 (some FieldType.int)) ∈ G := g18_in _ (List.mem_of_getElem? (i := 8) rfl)
theorem wd500 : (Cond.methodLink RL 68 yX3_put) ∈ G := g18_in _ (List.mem_of_getElem? (i := 9) rfl)
theorem wd501 : (Cond.instanceMethod yX3_put) ∈ G := g18_in _ (List.mem_of_getElem? (i := 10) rfl)
theorem wd502 : (Cond.selects RX3 yX3_put yX3_put) ∈ G := g18_in _ (List.mem_of_getElem? (i := 11) rfl)
theorem wd503 : (Cond.code yX3_put prog_5_method_9_code 6 (some FieldType.int)) ∈ G := g18_in _ (List.mem_of_getElem? (i := 12) rfl)
theorem wd504 : (Cond.constantLong RX3 51 32) ∈ G := g18_in _ (List.mem_of_getElem? (i := 13) rfl)
theorem wd505 : (Cond.methodLink RX3 53 yX3_isIn) ∈ G := g18_in _ (List.mem_of_getElem? (i := 14) rfl)
theorem wd506 : (Cond.static yX3_isIn) ∈ G := g18_in _ (List.mem_of_getElem? (i := 15) rfl)
theorem wd507 : (Cond.code yX3_isIn prog_5_method_3_code 6 (some FieldType.boolean)) ∈ G := g18_in _ (List.mem_of_getElem? (i := 16) rfl)
theorem wd508 : (Cond.methodLink RX3 57 yX3_isFull) ∈ G := g18_in _ (List.mem_of_getElem? (i := 17) rfl)
theorem wd509 : (Cond.instanceMethod yX3_isFull) ∈ G := g18_in _ (List.mem_of_getElem? (i := 18) rfl)
theorem wd510 : (Cond.code yX3_isFull prog_5_method_4_code 2 (some FieldType.boolean)) ∈ G := g18_in _ (List.mem_of_getElem? (i := 19) rfl)
theorem wd511 : (Cond.methodLink RX3 61 yX3_putBit) ∈ G := g18_in _ (List.mem_of_getElem? (i := 20) rfl)
theorem wd512 : (Cond.instanceMethod yX3_putBit) ∈ G := g18_in _ (List.mem_of_getElem? (i := 21) rfl)
theorem wd513 : (Cond.code yX3_putBit prog_5_method_8_code 3 (some FieldType.int)) ∈ G := g18_in _ (List.mem_of_getElem? (i := 22) rfl)
theorem wd514 : (Cond.methodLink RX3 45 yX3_stuff) ∈ G := g18_in _ (List.mem_of_getElem? (i := 23) rfl)
theorem wd515 : (Cond.instanceMethod yX3_stuff) ∈ G := g18_in _ (List.mem_of_getElem? (i := 24) rfl)
theorem wd516 : (Cond.code yX3_stuff prog_5_method_7_code 1 none) ∈ G := g18_in _ (List.mem_of_getElem? (i := 25) rfl)
theorem wd517 : (Cond.methodLink RX3 41 yX3_add) ∈ G := g18_in _ (List.mem_of_getElem? (i := 26) rfl)
theorem wd518 : (Cond.instanceMethod yX3_add) ∈ G := g18_in _ (List.mem_of_getElem? (i := 27) rfl)
theorem wd519 : (Cond.code yX3_add prog_5_method_6_code 2 none) ∈ G := g18_in _ (List.mem_of_getElem? (i := 28) rfl)
theorem wd520 : (Cond.methodLink RX3 31 yX3_byteOf) ∈ G := g18_in _ (List.mem_of_getElem? (i := 29) rfl)
theorem wd521 : (Cond.instanceMethod yX3_byteOf) ∈ G := g19_in _ (List.mem_of_getElem? (i := 0) rfl)
theorem wd522 : (Cond.code yX3_byteOf prog_5_method_5_code 6 (some FieldType.int)) ∈ G := g19_in _ (List.mem_of_getElem? (i := 1) rfl)
theorem wd523 : (Cond.methodLink RL 75 yX3_align) ∈ G := g19_in _ (List.mem_of_getElem? (i := 2) rfl)
theorem wd524 : (Cond.instanceMethod yX3_align) ∈ G := g19_in _ (List.mem_of_getElem? (i := 3) rfl)
theorem wd525 : (Cond.selects RX3 yX3_align yX3_align) ∈ G := g19_in _ (List.mem_of_getElem? (i := 4) rfl)
theorem wd526 : (Cond.code yX3_align prog_5_method_11_code 1 (some FieldType.int)) ∈ G := g19_in _ (List.mem_of_getElem? (i := 5) rfl)
theorem wd527 : (Cond.methodLink RX3 65 yX3_alignAll) ∈ G := g19_in _ (List.mem_of_getElem? (i := 6) rfl)
theorem wd528 : (Cond.instanceMethod yX3_alignAll) ∈ G := g19_in _ (List.mem_of_getElem? (i := 7) rfl)
theorem wd529 : (Cond.code yX3_alignAll prog_5_method_10_code 3 (some FieldType.int)) ∈ G := g19_in _ (List.mem_of_getElem? (i := 8) rfl)
theorem wd530 : (Cond.methodLink RL 79 yX3_mark) ∈ G := g19_in _ (List.mem_of_getElem? (i := 9) rfl)
theorem wd531 : (Cond.instanceMethod yX3_mark) ∈ G := g19_in _ (List.mem_of_getElem? (i := 10) rfl)
theorem wd532 : (Cond.selects RX3 yX3_mark yX3_mark) ∈ G := g19_in _ (List.mem_of_getElem? (i := 11) rfl)
theorem wd533 : (Cond.code yX3_mark prog_5_method_12_code 5 (some FieldType.int)) ∈ G := g19_in _ (List.mem_of_getElem? (i := 12) rfl)
theorem wd534 : (Cond.constantLong RX3 69 128) ∈ G := g19_in _ (List.mem_of_getElem? (i := 13) rfl)
theorem wd535 : (Cond.constantLong RX3 71 255) ∈ G := g19_in _ (List.mem_of_getElem? (i := 14) rfl)
theorem wd536 : (Cond.methodLink RL 83 yX3_patch) ∈ G := g19_in _ (List.mem_of_getElem? (i := 15) rfl)
theorem wd537 : (Cond.instanceMethod yX3_patch) ∈ G := g19_in _ (List.mem_of_getElem? (i := 16) rfl)
theorem wd538 : (Cond.selects RX3 yX3_patch yX3_patch) ∈ G := g19_in _ (List.mem_of_getElem? (i := 17) rfl)
theorem wd539 : (Cond.code yX3_patch prog_5_method_13_code 7 (some FieldType.int)) ∈ G := g19_in _ (List.mem_of_getElem? (i := 18) rfl)
theorem wd540 : (Cond.methodLink RL 86 yX3_byteAt) ∈ G := g19_in _ (List.mem_of_getElem? (i := 19) rfl)
theorem wd541 : (Cond.instanceMethod yX3_byteAt) ∈ G := g19_in _ (List.mem_of_getElem? (i := 20) rfl)
theorem wd542 : (Cond.selects RX3 yX3_byteAt yX3_byteAt) ∈ G := g19_in _ (List.mem_of_getElem? (i := 21) rfl)
theorem wd543 : (Cond.code yX3_byteAt prog_5_method_15_code 2 (some FieldType.int)) ∈ G := g19_in _ (List.mem_of_getElem? (i := 22) rfl)
theorem wd544 : (Cond.methodLink RX3 73 yX3_bytesWritten) ∈ G := g19_in _ (List.mem_of_getElem? (i := 23) rfl)
theorem wd545 : (Cond.instanceMethod yX3_bytesWritten) ∈ G := g19_in _ (List.mem_of_getElem? (i := 24) rfl)
theorem wd546 : (Cond.code yX3_bytesWritten prog_5_method_14_code 1 (some FieldType.int)) ∈ G := g19_in _ (List.mem_of_getElem? (i := 25) rfl)
theorem wd547 : (Cond.methodLink RL 89 yX3_feed) ∈ G := g19_in _ (List.mem_of_getElem? (i := 26) rfl)
theorem wd548 : (Cond.instanceMethod yX3_feed) ∈ G := g19_in _ (List.mem_of_getElem? (i := 27) rfl)
theorem wd549 : (Cond.selects RX3 yX3_feed yX3_feed) ∈ G := g19_in _ (List.mem_of_getElem? (i := 28) rfl)
theorem wd550 : (Cond.code yX3_feed prog_5_method_16_code 2 (some FieldType.int)) ∈ G := g19_in _ (List.mem_of_getElem? (i := 29) rfl)
theorem wd551 : (Cond.methodLink RL 92 yX3_pass) ∈ G := g20_in _ (List.mem_of_getElem? (i := 0) rfl)
theorem wd552 : (Cond.instanceMethod yX3_pass) ∈ G := g20_in _ (List.mem_of_getElem? (i := 1) rfl)
theorem wd553 : (Cond.selects RX3 yX3_pass yX3_pass) ∈ G := g20_in _ (List.mem_of_getElem? (i := 2) rfl)
theorem wd554 : (Cond.code yX3_pass prog_5_method_17_code 6 (some FieldType.int)) ∈ G := g20_in _ (List.mem_of_getElem? (i := 3) rfl)
theorem wd555 : (Cond.methodLink RL 95 yX3_get) ∈ G := g20_in _ (List.mem_of_getElem? (i := 4) rfl)
theorem wd556 : (Cond.instanceMethod yX3_get) ∈ G := g20_in _ (List.mem_of_getElem? (i := 5) rfl)
theorem wd557 : (Cond.selects RX3 yX3_get yX3_get) ∈ G := g20_in _ (List.mem_of_getElem? (i := 6) rfl)
theorem wd558 : (Cond.code yX3_get prog_5_method_25_code 6 (some FieldType.long)) ∈ G := g20_in _ (List.mem_of_getElem? (i := 7) rfl)
theorem wd559 : (Cond.constantLong RX3 115 (-3)) ∈ G := g20_in _ (List.mem_of_getElem? (i := 8) rfl)
theorem wd560 : (Cond.methodLink RX3 117 yX3_beginTry) ∈ G := g20_in _ (List.mem_of_getElem? (i := 9) rfl)
theorem wd561 : (Cond.instanceMethod yX3_beginTry) ∈ G := g20_in _ (List.mem_of_getElem? (i := 10) rfl)
theorem wd562 : (Cond.code yX3_beginTry prog_5_method_23_code 1 none) ∈ G := g20_in _ (List.mem_of_getElem? (i := 11) rfl)
theorem wd563 : (Cond.methodLink RX3 120 yX3_tryBit) ∈ G := g20_in _ (List.mem_of_getElem? (i := 12) rfl)
theorem wd564 : (Cond.instanceMethod yX3_tryBit) ∈ G := g20_in _ (List.mem_of_getElem? (i := 13) rfl)
theorem wd565 : (Cond.code yX3_tryBit prog_5_method_22_code 6 (some FieldType.int)) ∈ G := g20_in _ (List.mem_of_getElem? (i := 14) rfl)
theorem wd566 : (Cond.methodLink RX3 85 yX3_obstacle) ∈ G := g20_in _ (List.mem_of_getElem? (i := 15) rfl)
theorem wd567 : (Cond.instanceMethod yX3_obstacle) ∈ G := g20_in _ (List.mem_of_getElem? (i := 16) rfl)
theorem wd568 : (Cond.code yX3_obstacle prog_5_method_21_code 2 (some FieldType.int)) ∈ G := g20_in _ (List.mem_of_getElem? (i := 17) rfl)
theorem wd569 : (Cond.methodLink RX3 88 yX3_bitAt) ∈ G := g20_in _ (List.mem_of_getElem? (i := 18) rfl)
theorem wd570 : (Cond.instanceMethod yX3_bitAt) ∈ G := g20_in _ (List.mem_of_getElem? (i := 19) rfl)
theorem wd571 : (Cond.code yX3_bitAt prog_5_method_19_code 3 (some FieldType.int)) ∈ G := g20_in _ (List.mem_of_getElem? (i := 20) rfl)
theorem wd572 : (Cond.methodLink RX3 94 yX3_goOn) ∈ G := g20_in _ (List.mem_of_getElem? (i := 21) rfl)
theorem wd573 : (Cond.instanceMethod yX3_goOn) ∈ G := g20_in _ (List.mem_of_getElem? (i := 22) rfl)
theorem wd574 : (Cond.code yX3_goOn prog_5_method_20_code 1 none) ∈ G := g20_in _ (List.mem_of_getElem? (i := 23) rfl)
theorem wd575 : (Cond.constantLong RX3 123 2) ∈ G := g20_in _ (List.mem_of_getElem? (i := 24) rfl)
theorem wd576 : (Cond.methodLink RX3 125 yX3_keepTry) ∈ G := g20_in _ (List.mem_of_getElem? (i := 25) rfl)
theorem wd577 : (Cond.instanceMethod yX3_keepTry) ∈ G := g20_in _ (List.mem_of_getElem? (i := 26) rfl)
theorem wd578 : (Cond.code yX3_keepTry prog_5_method_24_code 1 none) ∈ G := g20_in _ (List.mem_of_getElem? (i := 27) rfl)
theorem wd579 : (Cond.methodLink RL 99 yX3_skip) ∈ G := g20_in _ (List.mem_of_getElem? (i := 28) rfl)
theorem wd580 : (Cond.instanceMethod yX3_skip) ∈ G := g20_in _ (List.mem_of_getElem? (i := 29) rfl)
theorem wd581 : (Cond.selects RX3 yX3_skip yX3_skip) ∈ G := g21_in _ (List.mem_of_getElem? (i := 0) rfl)
theorem wd582 : (Cond.code yX3_skip prog_5_method_26_code 4 (some FieldType.int)) ∈ G := g21_in _ (List.mem_of_getElem? (i := 1) rfl)
theorem wd583 : (Cond.methodLink RL 103 yX3_take) ∈ G := g21_in _ (List.mem_of_getElem? (i := 2) rfl)
theorem wd584 : (Cond.instanceMethod yX3_take) ∈ G := g21_in _ (List.mem_of_getElem? (i := 3) rfl)
theorem wd585 : (Cond.selects RX3 yX3_take yX3_take) ∈ G := g21_in _ (List.mem_of_getElem? (i := 4) rfl)
theorem wd586 : (Cond.code yX3_take prog_5_method_27_code 2 (some FieldType.int)) ∈ G := g21_in _ (List.mem_of_getElem? (i := 5) rfl)
theorem wd587 : (Cond.methodLink RX3 128 yX3_isMark) ∈ G := g21_in _ (List.mem_of_getElem? (i := 6) rfl)
theorem wd588 : (Cond.instanceMethod yX3_isMark) ∈ G := g21_in _ (List.mem_of_getElem? (i := 7) rfl)
theorem wd589 : (Cond.code yX3_isMark prog_5_method_18_code 2 (some FieldType.boolean)) ∈ G := g21_in _ (List.mem_of_getElem? (i := 8) rfl)
theorem wd590 : (Cond.methodLink RL 106 yX3_find) ∈ G := g21_in _ (List.mem_of_getElem? (i := 9) rfl)
theorem wd591 : (Cond.instanceMethod yX3_find) ∈ G := g21_in _ (List.mem_of_getElem? (i := 10) rfl)
theorem wd592 : (Cond.selects RX3 yX3_find yX3_find) ∈ G := g21_in _ (List.mem_of_getElem? (i := 11) rfl)
theorem wd593 : (Cond.code yX3_find prog_5_method_28_code 3 (some FieldType.int)) ∈ G := g21_in _ (List.mem_of_getElem? (i := 12) rfl)
theorem wd594 : (Cond.methodLink RL 110 yX3_sum) ∈ G := g21_in _ (List.mem_of_getElem? (i := 13) rfl)
theorem wd595 : (Cond.instanceMethod yX3_sum) ∈ G := g21_in _ (List.mem_of_getElem? (i := 14) rfl)
theorem wd596 : (Cond.selects RX3 yX3_sum yX3_sum) ∈ G := g21_in _ (List.mem_of_getElem? (i := 15) rfl)
theorem wd597 : (Cond.code yX3_sum prog_5_method_31_code 9 (some FieldType.int)) ∈ G := g21_in _ (List.mem_of_getElem? (i := 16) rfl)
theorem wd598 : (Cond.constant RX3 131 65535) ∈ G := g21_in _ (List.mem_of_getElem? (i := 17) rfl)
theorem wd599 : (Cond.methodLink RX3 133 yX3_sum16) ∈ G := g21_in _ (List.mem_of_getElem? (i := 18) rfl)
theorem wd600 : (Cond.static yX3_sum16) ∈ G := g21_in _ (List.mem_of_getElem? (i := 19) rfl)
theorem wd601 : (Cond.code yX3_sum16 prog_5_method_29_code 5 (some FieldType.int)) ∈ G := g21_in _ (List.mem_of_getElem? (i := 20) rfl)
theorem wd602 : (Cond.methodLink RX3 137 yX3_sum32) ∈ G := g21_in _ (List.mem_of_getElem? (i := 21) rfl)
theorem wd603 : (Cond.static yX3_sum32) ∈ G := g21_in _ (List.mem_of_getElem? (i := 22) rfl)
theorem wd604 : (Cond.code yX3_sum32 prog_5_method_30_code 5 (some FieldType.int)) ∈ G := g21_in _ (List.mem_of_getElem? (i := 23) rfl)
theorem wd605 : (Cond.constant RX3 132 (-306674912)) ∈ G := g21_in _ (List.mem_of_getElem? (i := 24) rfl)
theorem wd606 : (Cond.methodLink RL 114 yX3_told) ∈ G := g21_in _ (List.mem_of_getElem? (i := 25) rfl)
theorem wd607 : (Cond.instanceMethod yX3_told) ∈ G := g21_in _ (List.mem_of_getElem? (i := 26) rfl)
theorem wd608 : (Cond.selects RX3 yX3_told yX3_told) ∈ G := g21_in _ (List.mem_of_getElem? (i := 27) rfl)
theorem wd609 : (Cond.code yX3_told prog_5_method_32_code 2 (some FieldType.int)) ∈ G := g21_in _ (List.mem_of_getElem? (i := 28) rfl)
theorem wd610 : (Cond.methodLink RL 118 yX3_clear) ∈ G := g21_in _ (List.mem_of_getElem? (i := 29) rfl)
theorem wd611 : (Cond.instanceMethod yX3_clear) ∈ G := g22_in _ (List.mem_of_getElem? (i := 0) rfl)
theorem wd612 : (Cond.selects RX3 yX3_clear yX3_clear) ∈ G := g22_in _ (List.mem_of_getElem? (i := 1) rfl)
theorem wd613 : (Cond.code yX3_clear prog_5_method_33_code 1 none) ∈ G := g22_in _ (List.mem_of_getElem? (i := 2) rfl)
theorem wd614 : (Cond.arrayClass FieldType.long) ∈ G := g22_in _ (List.mem_of_getElem? (i := 3) rfl)
theorem wd615 : (Cond.sameMethod "java/lang/Throwable" "java/lang/Throwable" "fillInStackTrace" "(I)Ljava/lang/Throwable;") ∈ G := g22_in _ (List.mem_of_getElem? (i := 4) rfl)
theorem g0_good : ∀ w ∈ g0, goodWord w = true := by decide +kernel
theorem g1_good : ∀ w ∈ g1, goodWord w = true := by decide +kernel
theorem g2_good : ∀ w ∈ g2, goodWord w = true := by decide +kernel
theorem g3_good : ∀ w ∈ g3, goodWord w = true := by decide +kernel
theorem g4_good : ∀ w ∈ g4, goodWord w = true := by decide +kernel
theorem g5_good : ∀ w ∈ g5, goodWord w = true := by decide +kernel
theorem g6_good : ∀ w ∈ g6, goodWord w = true := by decide +kernel
theorem g7_good : ∀ w ∈ g7, goodWord w = true := by decide +kernel
theorem g8_good : ∀ w ∈ g8, goodWord w = true := by decide +kernel
theorem g9_good : ∀ w ∈ g9, goodWord w = true := by decide +kernel
theorem g10_good : ∀ w ∈ g10, goodWord w = true := by decide +kernel
theorem g11_good : ∀ w ∈ g11, goodWord w = true := by decide +kernel
theorem g12_good : ∀ w ∈ g12, goodWord w = true := by decide +kernel
theorem g13_good : ∀ w ∈ g13, goodWord w = true := by decide +kernel
theorem g14_good : ∀ w ∈ g14, goodWord w = true := by decide +kernel
theorem g15_good : ∀ w ∈ g15, goodWord w = true := by decide +kernel
theorem g16_good : ∀ w ∈ g16, goodWord w = true := by decide +kernel
theorem g17_good : ∀ w ∈ g17, goodWord w = true := by decide +kernel
theorem g18_good : ∀ w ∈ g18, goodWord w = true := by decide +kernel
theorem g19_good : ∀ w ∈ g19, goodWord w = true := by decide +kernel
theorem g20_good : ∀ w ∈ g20, goodWord w = true := by decide +kernel
theorem g21_good : ∀ w ∈ g21, goodWord w = true := by decide +kernel
theorem g22_good : ∀ w ∈ g22, goodWord w = true := by decide +kernel
theorem g0_tbl : ∀ w ∈ g0, w ∈ lw_tbl := fun w h => List.mem_append_left _ ((by decide +kernel : ∀ w ∈ g0, w ∈ k2_sels lw_privs) w h)
theorem g1_tbl : ∀ w ∈ g1, w ∈ lw_tbl := fun w h => List.mem_append_right _ (List.mem_append_left _ ((by decide +kernel : ∀ w ∈ g1, w ∈ tables_1_1) w h))
theorem g2_tbl : ∀ w ∈ g2, w ∈ lw_tbl := fun w h => List.mem_append_right _ (List.mem_append_left _ ((by decide +kernel : ∀ w ∈ g2, w ∈ tables_1_1) w h))
theorem g3_tbl : ∀ w ∈ g3, w ∈ lw_tbl := fun w h => List.mem_append_right _ (List.mem_append_left _ ((by decide +kernel : ∀ w ∈ g3, w ∈ tables_1_1) w h))
theorem g4_tbl : ∀ w ∈ g4, w ∈ lw_tbl := fun w h => List.mem_append_right _ (List.mem_append_left _ ((by decide +kernel : ∀ w ∈ g4, w ∈ tables_1_1) w h))
theorem g5_tbl : ∀ w ∈ g5, w ∈ lw_tbl := fun w h => List.mem_append_right _ (List.mem_append_left _ ((by decide +kernel : ∀ w ∈ g5, w ∈ tables_1_1) w h))
theorem g6_tbl : ∀ w ∈ g6, w ∈ lw_tbl := fun w h => List.mem_append_right _ (List.mem_append_left _ ((by decide +kernel : ∀ w ∈ g6, w ∈ tables_1_1) w h))
theorem g7_tbl : ∀ w ∈ g7, w ∈ lw_tbl := fun w h => List.mem_append_right _ (List.mem_append_left _ ((by decide +kernel : ∀ w ∈ g7, w ∈ tables_1_1) w h))
theorem g8_tbl : ∀ w ∈ g8, w ∈ lw_tbl := fun w h => List.mem_append_right _ (List.mem_append_left _ ((by decide +kernel : ∀ w ∈ g8, w ∈ tables_1_1) w h))
theorem g9_tbl : ∀ w ∈ g9, w ∈ lw_tbl := fun w h => List.mem_append_right _ (List.mem_append_right _ (List.mem_append_left _ ((by decide +kernel : ∀ w ∈ g9, w ∈ tables_1_2) w h)))
theorem g10_tbl : ∀ w ∈ g10, w ∈ lw_tbl := fun w h => List.mem_append_right _ (List.mem_append_right _ (List.mem_append_left _ ((by decide +kernel : ∀ w ∈ g10, w ∈ tables_1_2) w h)))
theorem g11_tbl : ∀ w ∈ g11, w ∈ lw_tbl := fun w h => List.mem_append_right _ (List.mem_append_right _ (List.mem_append_left _ ((by decide +kernel : ∀ w ∈ g11, w ∈ tables_1_2) w h)))
theorem g12_tbl : ∀ w ∈ g12, w ∈ lw_tbl := fun w h => List.mem_append_right _ (List.mem_append_right _ (List.mem_append_left _ ((by decide +kernel : ∀ w ∈ g12, w ∈ tables_1_2) w h)))
theorem g13_tbl : ∀ w ∈ g13, w ∈ lw_tbl := fun w h => List.mem_append_right _ (List.mem_append_right _ (List.mem_append_left _ ((by decide +kernel : ∀ w ∈ g13, w ∈ tables_1_2) w h)))
theorem g14_tbl : ∀ w ∈ g14, w ∈ lw_tbl := fun w h => List.mem_append_right _ (List.mem_append_right _ (List.mem_append_left _ ((by decide +kernel : ∀ w ∈ g14, w ∈ tables_1_2) w h)))
theorem g15_tbl : ∀ w ∈ g15, w ∈ lw_tbl := fun w h => List.mem_append_right _ (List.mem_append_right _ (List.mem_append_left _ ((by decide +kernel : ∀ w ∈ g15, w ∈ tables_1_2) w h)))
theorem g16_tbl : ∀ w ∈ g16, w ∈ lw_tbl := fun w h => List.mem_append_right _ (List.mem_append_right _ (List.mem_append_left _ ((by decide +kernel : ∀ w ∈ g16, w ∈ tables_1_2) w h)))
theorem g17_tbl : ∀ w ∈ g17, w ∈ lw_tbl := fun w h => List.mem_append_right _ (List.mem_append_right _ (List.mem_append_right _ ((by decide +kernel : ∀ w ∈ g17, w ∈ tables_1_3) w h)))
theorem g18_tbl : ∀ w ∈ g18, w ∈ lw_tbl := fun w h => List.mem_append_right _ (List.mem_append_right _ (List.mem_append_right _ ((by decide +kernel : ∀ w ∈ g18, w ∈ tables_1_3) w h)))
theorem g19_tbl : ∀ w ∈ g19, w ∈ lw_tbl := fun w h => List.mem_append_right _ (List.mem_append_right _ (List.mem_append_right _ ((by decide +kernel : ∀ w ∈ g19, w ∈ tables_1_3) w h)))
theorem g20_tbl : ∀ w ∈ g20, w ∈ lw_tbl := fun w h => List.mem_append_right _ (List.mem_append_right _ (List.mem_append_right _ ((by decide +kernel : ∀ w ∈ g20, w ∈ tables_1_3) w h)))
theorem g21_tbl : ∀ w ∈ g21, w ∈ lw_tbl := fun w h => List.mem_append_right _ (List.mem_append_right _ (List.mem_append_right _ ((by decide +kernel : ∀ w ∈ g21, w ∈ tables_1_3) w h)))
theorem g22_tbl : ∀ w ∈ g22, w ∈ lw_tbl := fun w h => List.mem_append_right _ (List.mem_append_right _ (List.mem_append_right _ ((by decide +kernel : ∀ w ∈ g22, w ∈ tables_1_3) w h)))
theorem G_good : ∀ w ∈ G, goodWord w = true := fun w h => (List.mem_append.mp h).elim (g0_good w) (fun h => (List.mem_append.mp h).elim (g1_good w) (fun h => (List.mem_append.mp h).elim (g2_good w) (fun h => (List.mem_append.mp h).elim (g3_good w) (fun h => (List.mem_append.mp h).elim (g4_good w) (fun h => (List.mem_append.mp h).elim (g5_good w) (fun h => (List.mem_append.mp h).elim (g6_good w) (fun h => (List.mem_append.mp h).elim (g7_good w) (fun h => (List.mem_append.mp h).elim (g8_good w) (fun h => (List.mem_append.mp h).elim (g9_good w) (fun h => (List.mem_append.mp h).elim (g10_good w) (fun h => (List.mem_append.mp h).elim (g11_good w) (fun h => (List.mem_append.mp h).elim (g12_good w) (fun h => (List.mem_append.mp h).elim (g13_good w) (fun h => (List.mem_append.mp h).elim (g14_good w) (fun h => (List.mem_append.mp h).elim (g15_good w) (fun h => (List.mem_append.mp h).elim (g16_good w) (fun h => (List.mem_append.mp h).elim (g17_good w) (fun h => (List.mem_append.mp h).elim (g18_good w) (fun h => (List.mem_append.mp h).elim (g19_good w) (fun h => (List.mem_append.mp h).elim (g20_good w) (fun h => (List.mem_append.mp h).elim (g21_good w) (fun h => g22_good w h))))))))))))))))))))))
theorem G_tbl : ∀ w ∈ G, w ∈ lw_tbl := fun w h => (List.mem_append.mp h).elim (g0_tbl w) (fun h => (List.mem_append.mp h).elim (g1_tbl w) (fun h => (List.mem_append.mp h).elim (g2_tbl w) (fun h => (List.mem_append.mp h).elim (g3_tbl w) (fun h => (List.mem_append.mp h).elim (g4_tbl w) (fun h => (List.mem_append.mp h).elim (g5_tbl w) (fun h => (List.mem_append.mp h).elim (g6_tbl w) (fun h => (List.mem_append.mp h).elim (g7_tbl w) (fun h => (List.mem_append.mp h).elim (g8_tbl w) (fun h => (List.mem_append.mp h).elim (g9_tbl w) (fun h => (List.mem_append.mp h).elim (g10_tbl w) (fun h => (List.mem_append.mp h).elim (g11_tbl w) (fun h => (List.mem_append.mp h).elim (g12_tbl w) (fun h => (List.mem_append.mp h).elim (g13_tbl w) (fun h => (List.mem_append.mp h).elim (g14_tbl w) (fun h => (List.mem_append.mp h).elim (g15_tbl w) (fun h => (List.mem_append.mp h).elim (g16_tbl w) (fun h => (List.mem_append.mp h).elim (g17_tbl w) (fun h => (List.mem_append.mp h).elim (g18_tbl w) (fun h => (List.mem_append.mp h).elim (g19_tbl w) (fun h => (List.mem_append.mp h).elim (g20_tbl w) (fun h => (List.mem_append.mp h).elim (g21_tbl w) (fun h => g22_tbl w h))))))))))))))))))))))
def Zw : List Cond := [(Cond.fieldLinkNest RX1 38 RX0 "count" "I" RX2), (Cond.fieldLinkNest RX2 112 RX0 "count" "I" RX2), (Cond.fieldLinkNest RX2 66 RX1 "place" "I" RX2), (Cond.fieldLinkNest RX2 131 RX1 "stuffed" "I" RX2), (Cond.fieldLinkNest RX2 134 RX1 "ones" "I" RX2), (Cond.castable "java/lang/IllegalArgumentException" "java/lang/IllegalArgumentException"), (Cond.declares ⟨"java/lang/RuntimeException", "<init>", "()V"⟩), (Cond.declares ⟨"java/lang/RuntimeException", "<init>", "(Ljava/lang/String;)V"⟩), (Cond.declares ⟨"java/lang/Exception", "<init>", "()V"⟩), (Cond.declares ⟨"java/lang/Exception", "<init>", "(Ljava/lang/String;)V"⟩), (Cond.declares ⟨"java/lang/Throwable", "<init>", "()V"⟩), (Cond.declares ⟨"java/lang/Throwable", "<init>", "(Ljava/lang/String;)V"⟩), (Cond.castable "java/lang/UnsupportedOperationException" "java/lang/UnsupportedOperationException"), (Cond.castable "java/lang/IllegalStateException" "java/lang/IllegalStateException"), (Cond.castable "java/lang/IndexOutOfBoundsException" "java/lang/IndexOutOfBoundsException")]
theorem Zw_tbl : ∀ w ∈ Zw, w ∈ lw_tbl := by decide +kernel
theorem zw0 : (Cond.fieldLinkNest RX1 38 RX0 "count" "I" RX2) ∈ Zw := List.mem_of_getElem? (i := 0) rfl
theorem zw1 : (Cond.fieldLinkNest RX2 112 RX0 "count" "I" RX2) ∈ Zw := List.mem_of_getElem? (i := 1) rfl
theorem zw2 : (Cond.fieldLinkNest RX2 66 RX1 "place" "I" RX2) ∈ Zw := List.mem_of_getElem? (i := 2) rfl
theorem zw3 : (Cond.fieldLinkNest RX2 131 RX1 "stuffed" "I" RX2) ∈ Zw := List.mem_of_getElem? (i := 3) rfl
theorem zw4 : (Cond.fieldLinkNest RX2 134 RX1 "ones" "I" RX2) ∈ Zw := List.mem_of_getElem? (i := 4) rfl
theorem zw5 : (Cond.castable "java/lang/IllegalArgumentException" "java/lang/IllegalArgumentException") ∈ Zw := List.mem_of_getElem? (i := 5) rfl
theorem zw6 : (Cond.declares ⟨"java/lang/RuntimeException", "<init>", "()V"⟩) ∈ Zw := List.mem_of_getElem? (i := 6) rfl
theorem zw7 : (Cond.declares ⟨"java/lang/RuntimeException", "<init>", "(Ljava/lang/String;)V"⟩) ∈ Zw := List.mem_of_getElem? (i := 7) rfl
theorem zw8 : (Cond.declares ⟨"java/lang/Exception", "<init>", "()V"⟩) ∈ Zw := List.mem_of_getElem? (i := 8) rfl
theorem zw9 : (Cond.declares ⟨"java/lang/Exception", "<init>", "(Ljava/lang/String;)V"⟩) ∈ Zw := List.mem_of_getElem? (i := 9) rfl
theorem zw10 : (Cond.declares ⟨"java/lang/Throwable", "<init>", "()V"⟩) ∈ Zw := List.mem_of_getElem? (i := 10) rfl
theorem zw11 : (Cond.declares ⟨"java/lang/Throwable", "<init>", "(Ljava/lang/String;)V"⟩) ∈ Zw := List.mem_of_getElem? (i := 11) rfl
theorem zw12 : (Cond.castable "java/lang/UnsupportedOperationException" "java/lang/UnsupportedOperationException") ∈ Zw := List.mem_of_getElem? (i := 12) rfl
theorem zw13 : (Cond.castable "java/lang/IllegalStateException" "java/lang/IllegalStateException") ∈ Zw := List.mem_of_getElem? (i := 13) rfl
theorem zw14 : (Cond.castable "java/lang/IndexOutOfBoundsException" "java/lang/IndexOutOfBoundsException") ∈ Zw := List.mem_of_getElem? (i := 14) rfl
