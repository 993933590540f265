def RX0 : String := "TurnLine$Forecast"
def TX0 : u_T := fun k => match k with
  | 0 => ("TurnLine$Forecast", "trial", "LTurnLine$Line;", true)
  | 1 => ("TurnLine$Forecast", "walk", "LTurnLine$Line;", true)
  | _ => ("TurnLine$Forecast", "frame", "LTurnLine$Frame;", true)
def tyX0 : Nat → FieldType := fun k => match k with
  | 0 => .object "TurnLine$Line"
  | 1 => .object "TurnLine$Line"
  | _ => .object "TurnLine$Frame"
abbrev wsX00 : List Cond := u_ws RX0 TX0 3
theorem nmX0 : ∀ a, a < 3 → ∀ b, b < 3 → a ≠ b → (TX0 a).2.1 ≠ (TX0 b).2.1 := by decide +kernel
theorem tyX0_ok : ∀ k, k < 3 → parseFieldDescriptor (TX0 k).2.2.1 = some (tyX0 k) := by decide +kernel
abbrev cX0_init : ByteArray := prog_2_method_1_code
def yX0_init : MethodName := ⟨RX0, "<init>", "()V"⟩
def RX1 : String := "TurnLine$Frame"
def TX1 : u_T := fun k => match k with
  | 0 => ("TurnLine$Frame", "plain", "[I", true)
  | 1 => ("TurnLine$Frame", "count", "I", false)
  | 2 => ("TurnLine$Frame", "sum", "I", false)
  | 3 => ("TurnLine$Frame", "escapes", "I", false)
  | 4 => ("TurnLine$Frame", "isData", "Z", false)
  | _ => ("TurnLine$Frame", "number", "I", false)
def tyX1 : Nat → FieldType := fun k => match k with
  | 0 => .array .int
  | 1 => .int
  | 2 => .int
  | 3 => .int
  | 4 => .boolean
  | _ => .int
abbrev wsX10 : List Cond := u_ws RX1 TX1 6
theorem nmX1 : ∀ a, a < 6 → ∀ b, b < 6 → a ≠ b → (TX1 a).2.1 ≠ (TX1 b).2.1 := by decide +kernel
theorem tyX1_ok : ∀ k, k < 6 → parseFieldDescriptor (TX1 k).2.2.1 = some (tyX1 k) := by decide +kernel
abbrev cX1_init : ByteArray := prog_3_method_1_code
def yX1_init : MethodName := ⟨RX1, "<init>", "()V"⟩
abbrev cX1_fillFrom : ByteArray := prog_3_method_2_code
def yX1_fillFrom : MethodName := ⟨RX1, "fillFrom", "(LTurnLine$Line;)V"⟩
abbrev cX1_addPlain : ByteArray := prog_3_method_3_code
def yX1_addPlain : MethodName := ⟨RX1, "addPlain", "(I)V"⟩
abbrev cX1_isEscaped : ByteArray := prog_3_method_4_code
def yX1_isEscaped : MethodName := ⟨RX1, "isEscaped", "(I)Z"⟩
abbrev cX1_bytesOnLine : ByteArray := prog_3_method_5_code
def yX1_bytesOnLine : MethodName := ⟨RX1, "bytesOnLine", "()I"⟩
abbrev cX1_byteOnLine : ByteArray := prog_3_method_6_code
def yX1_byteOnLine : MethodName := ⟨RX1, "byteOnLine", "(I)I"⟩
def RX2 : String := "TurnLine$History"
def TX2 : u_T := fun k => match k with
  | 0 => ("TurnLine$History", "kept", "[LTurnLine$Line;", true)
  | _ => ("TurnLine$History", "count", "I", false)
def tyX2 : Nat → FieldType := fun k => match k with
  | 0 => .array (.object "TurnLine$Line")
  | _ => .int
abbrev wsX20 : List Cond := u_ws RX2 TX2 2
theorem nmX2 : ∀ a, a < 2 → ∀ b, b < 2 → a ≠ b → (TX2 a).2.1 ≠ (TX2 b).2.1 := by decide +kernel
theorem tyX2_ok : ∀ k, k < 2 → parseFieldDescriptor (TX2 k).2.2.1 = some (tyX2 k) := by decide +kernel
abbrev cX2_init : ByteArray := prog_4_method_1_code
def yX2_init : MethodName := ⟨RX2, "<init>", "()V"⟩
abbrev cX2_keep : ByteArray := prog_4_method_2_code
def yX2_keep : MethodName := ⟨RX2, "keep", "(LTurnLine$Line;)V"⟩
abbrev cX2_takeBack : ByteArray := prog_4_method_3_code
def yX2_takeBack : MethodName := ⟨RX2, "takeBack", "(LTurnLine$Line;)Z"⟩
abbrev cX2_lineAt : ByteArray := prog_4_method_4_code
def yX2_lineAt : MethodName := ⟨RX2, "lineAt", "(I)LTurnLine$Line;"⟩
abbrev cX2_forgetOldest : ByteArray := prog_4_method_5_code
def yX2_forgetOldest : MethodName := ⟨RX2, "forgetOldest", "()V"⟩
def RX3 : String := "TurnLine$Line"
def TX3 : u_T := fun k => match k with
  | 0 => ("TurnLine$Line", "first", "LTurnLine$Station;", true)
  | 1 => ("TurnLine$Line", "second", "LTurnLine$Station;", true)
  | 2 => ("TurnLine$Line", "accounts", "[I", true)
  | 3 => ("TurnLine$Line", "told", "[J", true)
  | 4 => ("TurnLine$Line", "toldCount", "I", false)
  | 5 => ("TurnLine$Line", "burst", "I", false)
  | 6 => ("TurnLine$Line", "silence", "I", false)
  | 7 => ("TurnLine$Line", "talker", "I", false)
  | 8 => ("TurnLine$Line", "sentInTurn", "I", false)
  | 9 => ("TurnLine$Line", "turnMissing", "Z", false)
  | _ => ("TurnLine$Line", "alsoLost", "I", false)
def tyX3 : Nat → FieldType := fun k => match k with
  | 0 => .object "TurnLine$Station"
  | 1 => .object "TurnLine$Station"
  | 2 => .array .int
  | 3 => .array .long
  | 4 => .int
  | 5 => .int
  | 6 => .int
  | 7 => .int
  | 8 => .int
  | 9 => .boolean
  | _ => .int
abbrev wsX30 : List Cond := u_ws RX3 TX3 11
theorem nmX3 : ∀ a, a < 11 → ∀ b, b < 11 → a ≠ b → (TX3 a).2.1 ≠ (TX3 b).2.1 := by decide +kernel
theorem tyX3_ok : ∀ k, k < 11 → parseFieldDescriptor (TX3 k).2.2.1 = some (tyX3 k) := by decide +kernel
abbrev cX3_init : ByteArray := prog_5_method_1_code
def yX3_init : MethodName := ⟨RX3, "<init>", "()V"⟩
abbrev cX3_copyFrom : ByteArray := prog_5_method_2_code
def yX3_copyFrom : MethodName := ⟨RX3, "copyFrom", "(LTurnLine$Line;)V"⟩
abbrev cX3_side : ByteArray := prog_5_method_3_code
def yX3_side : MethodName := ⟨RX3, "side", "(I)LTurnLine$Station;"⟩
abbrev cX3_framesSent : ByteArray := prog_5_method_4_code
def yX3_framesSent : MethodName := ⟨RX3, "framesSent", "()I"⟩
abbrev cX3_time : ByteArray := prog_5_method_5_code
def yX3_time : MethodName := ⟨RX3, "time", "()I"⟩
abbrev cX3_tells : ByteArray := prog_5_method_6_code
def yX3_tells : MethodName := ⟨RX3, "tells", "(I)Z"⟩
abbrev cX3_tellLost : ByteArray := prog_5_method_7_code
def yX3_tellLost : MethodName := ⟨RX3, "tellLost", "(I)V"⟩
abbrev cX3_nextMessage : ByteArray := prog_5_method_10_code
def yX3_nextMessage : MethodName := ⟨RX3, "nextMessage", "(LTurnLine$Station;)I"⟩
abbrev cX3_step : ByteArray := prog_5_method_11_code
def yX3_step : MethodName := ⟨RX3, "step", "(LTurnLine$Frame;)V"⟩
abbrev cX3_sendData : ByteArray := prog_5_method_12_code
def yX3_sendData : MethodName := ⟨RX3, "sendData", "(IZ)V"⟩
abbrev cX3_sendTurn : ByteArray := prog_5_method_13_code
def yX3_sendTurn : MethodName := ⟨RX3, "sendTurn", "(Z)V"⟩
def RX4 : String := "TurnLine$Slot"
def TX4 : u_T := fun k => match k with
  | 0 => ("TurnLine$Slot", "held", "LTurnLine$Line;", true)
  | _ => ("TurnLine$Slot", "isFull", "Z", false)
def tyX4 : Nat → FieldType := fun k => match k with
  | 0 => .object "TurnLine$Line"
  | _ => .boolean
abbrev wsX40 : List Cond := u_ws RX4 TX4 2
theorem nmX4 : ∀ a, a < 2 → ∀ b, b < 2 → a ≠ b → (TX4 a).2.1 ≠ (TX4 b).2.1 := by decide +kernel
theorem tyX4_ok : ∀ k, k < 2 → parseFieldDescriptor (TX4 k).2.2.1 = some (tyX4 k) := by decide +kernel
abbrev cX4_init : ByteArray := prog_6_method_1_code
def yX4_init : MethodName := ⟨RX4, "<init>", "()V"⟩
def RX5 : String := "TurnLine$Station"
def TX5 : u_T := fun k => match k with
  | 0 => ("TurnLine$Station", "lengths", "[I", true)
  | 1 => ("TurnLine$Station", "contents", "[J", true)
  | 2 => ("TurnLine$Station", "messages", "I", false)
  | 3 => ("TurnLine$Station", "accepted", "I", false)
  | 4 => ("TurnLine$Station", "hostRead", "I", false)
  | 5 => ("TurnLine$Station", "capacity", "I", false)
  | 6 => ("TurnLine$Station", "wanted", "I", false)
  | 7 => ("TurnLine$Station", "returned", "I", false)
  | 8 => ("TurnLine$Station", "noted", "I", false)
  | 9 => ("TurnLine$Station", "knownAccepted", "I", false)
  | 10 => ("TurnLine$Station", "knownLimit", "I", false)
  | 11 => ("TurnLine$Station", "everSent", "I", false)
  | _ => ("TurnLine$Station", "turnsPassed", "I", false)
def tyX5 : Nat → FieldType := fun k => match k with
  | 0 => .array .int
  | 1 => .array .long
  | 2 => .int
  | 3 => .int
  | 4 => .int
  | 5 => .int
  | 6 => .int
  | 7 => .int
  | 8 => .int
  | 9 => .int
  | 10 => .int
  | 11 => .int
  | _ => .int
abbrev wsX50 : List Cond := u_ws RX5 TX5 13
theorem nmX5 : ∀ a, a < 13 → ∀ b, b < 13 → a ≠ b → (TX5 a).2.1 ≠ (TX5 b).2.1 := by decide +kernel
theorem tyX5_ok : ∀ k, k < 13 → parseFieldDescriptor (TX5 k).2.2.1 = some (tyX5 k) := by decide +kernel
abbrev cX5_init : ByteArray := prog_7_method_1_code
def yX5_init : MethodName := ⟨RX5, "<init>", "()V"⟩
abbrev cX5_copyFrom : ByteArray := prog_7_method_2_code
def yX5_copyFrom : MethodName := ⟨RX5, "copyFrom", "(LTurnLine$Station;)V"⟩
abbrev cX5_numberOf : ByteArray := prog_7_method_3_code
def yX5_numberOf : MethodName := ⟨RX5, "numberOf", "(I)I"⟩
abbrev cX5_ownLimit : ByteArray := prog_7_method_4_code
def yX5_ownLimit : MethodName := ⟨RX5, "ownLimit", "()I"⟩
abbrev cX5_inBuffer : ByteArray := prog_7_method_5_code
def yX5_inBuffer : MethodName := ⟨RX5, "inBuffer", "()I"⟩
abbrev cX5_hasMessage : ByteArray := prog_7_method_6_code
def yX5_hasMessage : MethodName := ⟨RX5, "hasMessage", "(I)Z"⟩
abbrev cX5_lengthOf : ByteArray := prog_7_method_7_code
def yX5_lengthOf : MethodName := ⟨RX5, "lengthOf", "(I)I"⟩
abbrev cX5_byteOf : ByteArray := prog_7_method_8_code
def yX5_byteOf : MethodName := ⟨RX5, "byteOf", "(II)I"⟩
abbrev cX5_bytesOfFirst : ByteArray := prog_7_method_9_code
def yX5_bytesOfFirst : MethodName := ⟨RX5, "bytesOfFirst", "(I)I"⟩
abbrev cX5_addMessage : ByteArray := prog_7_method_10_code
def yX5_addMessage : MethodName := ⟨RX5, "addMessage", "(IJ)V"⟩
abbrev cX5_noteHeadOf : ByteArray := prog_7_method_11_code
def yX5_noteHeadOf : MethodName := ⟨RX5, "noteHeadOf", "(LTurnLine$Station;)V"⟩
abbrev cX5_returnCapacity : ByteArray := prog_7_method_12_code
def yX5_returnCapacity : MethodName := ⟨RX5, "returnCapacity", "(I)V"⟩
def RX6 : String := "TurnLine$TextReader"
def TX6 : u_T := fun k => match k with
  | 0 => ("TurnLine$TextReader", "buffer", "[B", true)
  | 1 => ("TurnLine$TextReader", "filled", "I", false)
  | 2 => ("TurnLine$TextReader", "end", "I", false)
  | 3 => ("TurnLine$TextReader", "at", "I", false)
  | 4 => ("TurnLine$TextReader", "kind", "I", false)
  | 5 => ("TurnLine$TextReader", "start", "I", false)
  | 6 => ("TurnLine$TextReader", "value", "I", false)
  | 7 => ("TurnLine$TextReader", "takenAt", "I", false)
  | 8 => ("TurnLine$TextReader", "fault", "I", false)
  | 9 => ("TurnLine$TextReader", "firstHasWindow", "Z", false)
  | _ => ("TurnLine$TextReader", "secondHasWindow", "Z", false)
def tyX6 : Nat → FieldType := fun k => match k with
  | 0 => .array .byte
  | 1 => .int
  | 2 => .int
  | 3 => .int
  | 4 => .int
  | 5 => .int
  | 6 => .int
  | 7 => .int
  | 8 => .int
  | 9 => .boolean
  | _ => .boolean
abbrev wsX60 : List Cond := u_ws RX6 TX6 11
theorem nmX6 : ∀ a, a < 11 → ∀ b, b < 11 → a ≠ b → (TX6 a).2.1 ≠ (TX6 b).2.1 := by decide +kernel
theorem tyX6_ok : ∀ k, k < 11 → parseFieldDescriptor (TX6 k).2.2.1 = some (tyX6 k) := by decide +kernel
abbrev cX6_init : ByteArray := prog_8_method_1_code
def yX6_init : MethodName := ⟨RX6, "<init>", "()V"⟩
abbrev cX6_hasRoom : ByteArray := prog_8_method_2_code
def yX6_hasRoom : MethodName := ⟨RX6, "hasRoom", "()Z"⟩
abbrev cX6_addFour : ByteArray := prog_8_method_3_code
def yX6_addFour : MethodName := ⟨RX6, "addFour", "(I)V"⟩
abbrev cX6_readText : ByteArray := prog_8_method_4_code
def yX6_readText : MethodName := ⟨RX6, "readText", "(ILTurnLine$Line;)I"⟩
abbrev cX6_readStatement : ByteArray := prog_8_method_5_code
def yX6_readStatement : MethodName := ⟨RX6, "readStatement", "(LTurnLine$Line;)V"⟩
abbrev cX6_readWindow : ByteArray := prog_8_method_6_code
def yX6_readWindow : MethodName := ⟨RX6, "readWindow", "(LTurnLine$Line;)V"⟩
abbrev cX6_readMessage : ByteArray := prog_8_method_7_code
def yX6_readMessage : MethodName := ⟨RX6, "readMessage", "(LTurnLine$Line;)V"⟩
abbrev cX6_readLose : ByteArray := prog_8_method_8_code
def yX6_readLose : MethodName := ⟨RX6, "readLose", "(LTurnLine$Line;)V"⟩
abbrev cX6_failAt : ByteArray := prog_8_method_9_code
def yX6_failAt : MethodName := ⟨RX6, "failAt", "(II)V"⟩
abbrev cX6_takeWord : ByteArray := prog_8_method_10_code
def yX6_takeWord : MethodName := ⟨RX6, "takeWord", "(Ljava/lang/String;)V"⟩
abbrev cX6_takeSemicolon : ByteArray := prog_8_method_11_code
def yX6_takeSemicolon : MethodName := ⟨RX6, "takeSemicolon", "()V"⟩
abbrev cX6_takeNumber : ByteArray := prog_8_method_12_code
def yX6_takeNumber : MethodName := ⟨RX6, "takeNumber", "(II)I"⟩
abbrev cX6_isWord : ByteArray := prog_8_method_13_code
def yX6_isWord : MethodName := ⟨RX6, "isWord", "(Ljava/lang/String;)Z"⟩
abbrev cX6_advance : ByteArray := prog_8_method_14_code
def yX6_advance : MethodName := ⟨RX6, "advance", "()V"⟩
abbrev cX6_passLetters : ByteArray := prog_8_method_15_code
def yX6_passLetters : MethodName := ⟨RX6, "passLetters", "()V"⟩
abbrev cX6_passDigits : ByteArray := prog_8_method_16_code
def yX6_passDigits : MethodName := ⟨RX6, "passDigits", "()V"⟩
abbrev cX6_byteAt : ByteArray := prog_8_method_17_code
def yX6_byteAt : MethodName := ⟨RX6, "byteAt", "(I)I"⟩
abbrev cX6_isSpace : ByteArray := prog_8_method_18_code
def yX6_isSpace : MethodName := ⟨RX6, "isSpace", "(I)Z"⟩
abbrev cX6_isLetter : ByteArray := prog_8_method_19_code
def yX6_isLetter : MethodName := ⟨RX6, "isLetter", "(I)Z"⟩
abbrev cX6_isDigit : ByteArray := prog_8_method_20_code
def yX6_isDigit : MethodName := ⟨RX6, "isDigit", "(I)Z"⟩
def RX7 : String := "TurnLine"
def TX7 : u_T := fun k => match k with
  | 0 => ("TurnLine", "reader", "LTurnLine$TextReader;", true)
  | 1 => ("TurnLine", "now", "LTurnLine$Line;", true)
  | 2 => ("TurnLine", "fresh", "LTurnLine$Line;", true)
  | 3 => ("TurnLine", "draft", "LTurnLine$Line;", true)
  | 4 => ("TurnLine", "coming", "LTurnLine$Frame;", true)
  | 5 => ("TurnLine", "forecast", "LTurnLine$Forecast;", true)
  | 6 => ("TurnLine", "history", "LTurnLine$History;", true)
  | 7 => ("TurnLine", "firstSlot", "LTurnLine$Slot;", true)
  | _ => ("TurnLine", "secondSlot", "LTurnLine$Slot;", true)
def tyX7 : Nat → FieldType := fun k => match k with
  | 0 => .object "TurnLine$TextReader"
  | 1 => .object "TurnLine$Line"
  | 2 => .object "TurnLine$Line"
  | 3 => .object "TurnLine$Line"
  | 4 => .object "TurnLine$Frame"
  | 5 => .object "TurnLine$Forecast"
  | 6 => .object "TurnLine$History"
  | 7 => .object "TurnLine$Slot"
  | _ => .object "TurnLine$Slot"
abbrev wsX70 : List Cond := u_ws RX7 TX7 9
theorem nmX7 : ∀ a, a < 9 → ∀ b, b < 9 → a ≠ b → (TX7 a).2.1 ≠ (TX7 b).2.1 := by decide +kernel
theorem tyX7_ok : ∀ k, k < 9 → parseFieldDescriptor (TX7 k).2.2.1 = some (tyX7 k) := by decide +kernel
abbrev cX7_init : ByteArray := prog_1_method_1_code
def yX7_init : MethodName := ⟨RX7, "<init>", "()V"⟩
abbrev cX7_append : ByteArray := prog_1_method_2_code
def yX7_append : MethodName := ⟨RX7, "append", "(IIIII)I"⟩
abbrev cX7_parse : ByteArray := prog_1_method_3_code
def yX7_parse : MethodName := ⟨RX7, "parse", "(I)I"⟩
abbrev cX7_size : ByteArray := prog_1_method_4_code
def yX7_size : MethodName := ⟨RX7, "size", "(I)I"⟩
abbrev cX7_station : ByteArray := prog_1_method_5_code
def yX7_station : MethodName := ⟨RX7, "station", "(II)I"⟩
abbrev cX7_messageByte : ByteArray := prog_1_method_6_code
def yX7_messageByte : MethodName := ⟨RX7, "messageByte", "(III)I"⟩
abbrev cX7_isTold : ByteArray := prog_1_method_7_code
def yX7_isTold : MethodName := ⟨RX7, "isTold", "(I)Z"⟩
abbrev cX7_next : ByteArray := prog_1_method_8_code
def yX7_next : MethodName := ⟨RX7, "next", "(I)I"⟩
abbrev cX7_nextByte : ByteArray := prog_1_method_9_code
def yX7_nextByte : MethodName := ⟨RX7, "nextByte", "(I)I"⟩
abbrev cX7_account : ByteArray := prog_1_method_14_code
def yX7_account : MethodName := ⟨RX7, "account", "(I)I"⟩
abbrev cX7_efficiency : ByteArray := prog_1_method_15_code
def yX7_efficiency : MethodName := ⟨RX7, "efficiency", "()D"⟩
abbrev cX7_read : ByteArray := prog_1_method_17_code
def yX7_read : MethodName := ⟨RX7, "read", "(II)I"⟩
abbrev cX7_run : ByteArray := prog_1_method_22_code
def yX7_run : MethodName := ⟨RX7, "run", "(I)I"⟩
abbrev cX7_undo : ByteArray := prog_1_method_23_code
def yX7_undo : MethodName := ⟨RX7, "undo", "()I"⟩
abbrev cX7_checkStation : ByteArray := prog_1_method_27_code
def yX7_checkStation : MethodName := ⟨RX7, "checkStation", "(I)V"⟩
abbrev cX7_checkMany : ByteArray := prog_1_method_28_code
def yX7_checkMany : MethodName := ⟨RX7, "checkMany", "(II)V"⟩
def RJ5 : String := "java/lang/AbstractStringBuilder"
def TJ5 : u_T := fun k => match k with
  | _ => ("", "", "", false)
def tyJ5 : Nat → FieldType := fun k => match k with
  | _ => .int
abbrev wsJ50 : List Cond := u_ws RJ5 TJ5 0
theorem nmJ5 : ∀ a, a < 0 → ∀ b, b < 0 → a ≠ b → (TJ5 a).2.1 ≠ (TJ5 b).2.1 := by decide +kernel
theorem tyJ5_ok : ∀ k, k < 0 → parseFieldDescriptor (TJ5 k).2.2.1 = some (tyJ5 k) := by decide +kernel
abbrev cJ5_init_a7421 : ByteArray := prog_11_method_3_code
def yJ5_init_a7421 : MethodName := ⟨RJ5, "<init>", "(Ljava/lang/String;)V"⟩
abbrev cJ5_length_8abf5 : ByteArray := prog_11_method_6_code
def yJ5_length_8abf5 : MethodName := ⟨RJ5, "length", "()I"⟩
abbrev cJ5_ensureCapacityInternal_d00df : ByteArray := prog_11_method_9_code
def yJ5_ensureCapacityInternal_d00df : MethodName := ⟨RJ5, "ensureCapacityInternal", "(I)V"⟩
abbrev cJ5_newCapacity_0f7a4 : ByteArray := prog_11_method_10_code
def yJ5_newCapacity_0f7a4 : MethodName := ⟨RJ5, "newCapacity", "(I)I"⟩
abbrev cJ5_inflate_da8c8 : ByteArray := prog_11_method_11_code
def yJ5_inflate_da8c8 : MethodName := ⟨RJ5, "inflate", "()V"⟩
abbrev cJ5_charAt_5068e : ByteArray := prog_11_method_14_code
def yJ5_charAt_5068e : MethodName := ⟨RJ5, "charAt", "(I)C"⟩
abbrev cJ5_append_cf1ce : ByteArray := prog_11_method_22_code
def yJ5_append_cf1ce : MethodName := ⟨RJ5, "append", "(Ljava/lang/String;)Ljava/lang/AbstractStringBuilder;"⟩
abbrev cJ5_appendNull_278bc : ByteArray := prog_11_method_26_code
def yJ5_appendNull_278bc : MethodName := ⟨RJ5, "appendNull", "()Ljava/lang/AbstractStringBuilder;"⟩
abbrev cJ5_append_c97b9 : ByteArray := prog_11_method_32_code
def yJ5_append_c97b9 : MethodName := ⟨RJ5, "append", "(I)Ljava/lang/AbstractStringBuilder;"⟩
abbrev cJ5_isLatin1_aae02 : ByteArray := prog_11_method_68_code
def yJ5_isLatin1_aae02 : MethodName := ⟨RJ5, "isLatin1", "()Z"⟩
abbrev cJ5_inflateIfNeededFor_a7421 : ByteArray := prog_11_method_71_code
def yJ5_inflateIfNeededFor_a7421 : MethodName := ⟨RJ5, "inflateIfNeededFor", "(Ljava/lang/String;)V"⟩
abbrev cJ5_putStringAt_47b60 : ByteArray := prog_11_method_73_code
def yJ5_putStringAt_47b60 : MethodName := ⟨RJ5, "putStringAt", "(ILjava/lang/String;)V"⟩
def RJx8e188 : String := "java/lang/Cloneable"
def TJx8e188 : u_T := fun k => match k with
  | _ => ("", "", "", false)
def tyJx8e188 : Nat → FieldType := fun k => match k with
  | _ => .int
abbrev wsJx8e1880 : List Cond := u_ws RJx8e188 TJx8e188 0
theorem nmJx8e188 : ∀ a, a < 0 → ∀ b, b < 0 → a ≠ b → (TJx8e188 a).2.1 ≠ (TJx8e188 b).2.1 := by decide +kernel
theorem tyJx8e188_ok : ∀ k, k < 0 → parseFieldDescriptor (TJx8e188 k).2.2.1 = some (tyJx8e188 k) := by decide +kernel
def RJ6 : String := "java/lang/Integer"
def TJ6 : u_T := fun k => match k with
  | _ => ("", "", "", false)
def tyJ6 : Nat → FieldType := fun k => match k with
  | _ => .int
abbrev wsJ60 : List Cond := u_ws RJ6 TJ6 0
theorem nmJ6 : ∀ a, a < 0 → ∀ b, b < 0 → a ≠ b → (TJ6 a).2.1 ≠ (TJ6 b).2.1 := by decide +kernel
theorem tyJ6_ok : ∀ k, k < 0 → parseFieldDescriptor (TJ6 k).2.2.1 = some (tyJ6 k) := by decide +kernel
abbrev cJ6_getChars_ba4f3 : ByteArray := prog_17_method_12_code
def yJ6_getChars_ba4f3 : MethodName := ⟨RJ6, "getChars", "(II[B)I"⟩
abbrev cJ6_stringSize_0f7a4 : ByteArray := prog_17_method_13_code
def yJ6_stringSize_0f7a4 : MethodName := ⟨RJ6, "stringSize", "(I)I"⟩
def RJ9 : String := "java/lang/Math"
def TJ9 : u_T := fun k => match k with
  | _ => ("", "", "", false)
def tyJ9 : Nat → FieldType := fun k => match k with
  | _ => .int
abbrev wsJ90 : List Cond := u_ws RJ9 TJ9 0
theorem nmJ9 : ∀ a, a < 0 → ∀ b, b < 0 → a ≠ b → (TJ9 a).2.1 ≠ (TJ9 b).2.1 := by decide +kernel
theorem tyJ9_ok : ∀ k, k < 0 → parseFieldDescriptor (TJ9 k).2.2.1 = some (tyJ9 k) := by decide +kernel
abbrev cJ9_max_7cf53 : ByteArray := prog_18_method_65_code
def yJ9_max_7cf53 : MethodName := ⟨RJ9, "max", "(II)I"⟩
abbrev cJ9_min_7cf53 : ByteArray := prog_18_method_69_code
def yJ9_min_7cf53 : MethodName := ⟨RJ9, "min", "(II)I"⟩
def RJ0 : String := "java/lang/String"
def TJ0 : u_T := fun k => match k with
  | _ => ("", "", "", false)
def tyJ0 : Nat → FieldType := fun k => match k with
  | _ => .int
abbrev wsJ00 : List Cond := u_ws RJ0 TJ0 0
theorem nmJ0 : ∀ a, a < 0 → ∀ b, b < 0 → a ≠ b → (TJ0 a).2.1 ≠ (TJ0 b).2.1 := by decide +kernel
theorem tyJ0_ok : ∀ k, k < 0 → parseFieldDescriptor (TJ0 k).2.2.1 = some (tyJ0 k) := by decide +kernel
abbrev cJ0_length_8abf5 : ByteArray := prog_20_method_54_code
def yJ0_length_8abf5 : MethodName := ⟨RJ0, "length", "()I"⟩
abbrev cJ0_charAt_5068e : ByteArray := prog_20_method_56_code
def yJ0_charAt_5068e : MethodName := ⟨RJ0, "charAt", "(I)C"⟩
abbrev cJ0_getBytes_840e7 : ByteArray := prog_20_method_147_code
def yJ0_getBytes_840e7 : MethodName := ⟨RJ0, "getBytes", "([BIB)V"⟩
abbrev cJ0_coder_7d493 : ByteArray := prog_20_method_152_code
def yJ0_coder_7d493 : MethodName := ⟨RJ0, "coder", "()B"⟩
abbrev cJ0_isLatin1_aae02 : ByteArray := prog_20_method_154_code
def yJ0_isLatin1_aae02 : MethodName := ⟨RJ0, "isLatin1", "()Z"⟩
abbrev cJ0_checkIndex_df160 : ByteArray := prog_20_method_155_code
def yJ0_checkIndex_df160 : MethodName := ⟨RJ0, "checkIndex", "(II)V"⟩
abbrev cJ0_checkBoundsOffCount_cabcc : ByteArray := prog_20_method_157_code
def yJ0_checkBoundsOffCount_cabcc : MethodName := ⟨RJ0, "checkBoundsOffCount", "(III)I"⟩
abbrev cJ0_checkBoundsBeginEnd_23922 : ByteArray := prog_20_method_158_code
def yJ0_checkBoundsBeginEnd_23922 : MethodName := ⟨RJ0, "checkBoundsBeginEnd", "(III)V"⟩
def RJ4 : String := "java/lang/StringBuilder"
def TJ4 : u_T := fun k => match k with
  | 0 => ("java/lang/AbstractStringBuilder", "value", "[B", false)
  | 1 => ("java/lang/AbstractStringBuilder", "coder", "B", false)
  | 2 => ("java/lang/AbstractStringBuilder", "maybeLatin1", "Z", false)
  | _ => ("java/lang/AbstractStringBuilder", "count", "I", false)
def tyJ4 : Nat → FieldType := fun k => match k with
  | 0 => .array .byte
  | 1 => .byte
  | 2 => .boolean
  | _ => .int
abbrev wsJ40 : List Cond := u_ws RJ4 TJ4 4
theorem nmJ4 : ∀ a, a < 4 → ∀ b, b < 4 → a ≠ b → (TJ4 a).2.1 ≠ (TJ4 b).2.1 := by decide +kernel
theorem tyJ4_ok : ∀ k, k < 4 → parseFieldDescriptor (TJ4 k).2.2.1 = some (tyJ4 k) := by decide +kernel
abbrev RX8 : String := RJ4
abbrev TX8 : u_T := TJ4
abbrev tyX8 : Nat → FieldType := tyJ4
abbrev wsX80 : List Cond := wsJ40
theorem nmX8 : ∀ a, a < 4 → ∀ b, b < 4 → a ≠ b → (TX8 a).2.1 ≠ (TX8 b).2.1 := nmJ4
theorem tyX8_ok : ∀ k, k < 4 → parseFieldDescriptor (TX8 k).2.2.1 = some (tyX8 k) := tyJ4_ok
abbrev cJ4_init_a7421 : ByteArray := prog_21_method_3_code
def yJ4_init_a7421 : MethodName := ⟨RJ4, "<init>", "(Ljava/lang/String;)V"⟩
abbrev cJ4_append_15ec4 : ByteArray := prog_21_method_7_code
def yJ4_append_15ec4 : MethodName := ⟨RJ4, "append", "(Ljava/lang/String;)Ljava/lang/StringBuilder;"⟩
abbrev cJ4_append_bf812 : ByteArray := prog_21_method_15_code
def yJ4_append_bf812 : MethodName := ⟨RJ4, "append", "(I)Ljava/lang/StringBuilder;"⟩
abbrev cJ4_append_cf1ce : ByteArray := prog_21_method_80_code
def yJ4_append_cf1ce : MethodName := ⟨RJ4, "append", "(Ljava/lang/String;)Ljava/lang/AbstractStringBuilder;"⟩
abbrev cJ4_charAt_5068e : ByteArray := prog_21_method_88_code
def yJ4_charAt_5068e : MethodName := ⟨RJ4, "charAt", "(I)C"⟩
abbrev cJ4_length_8abf5 : ByteArray := prog_21_method_93_code
def yJ4_length_8abf5 : MethodName := ⟨RJ4, "length", "()I"⟩
def RJ1 : String := "java/lang/StringLatin1"
def TJ1 : u_T := fun k => match k with
  | _ => ("", "", "", false)
def tyJ1 : Nat → FieldType := fun k => match k with
  | _ => .int
abbrev wsJ10 : List Cond := u_ws RJ1 TJ1 0
theorem nmJ1 : ∀ a, a < 0 → ∀ b, b < 0 → a ≠ b → (TJ1 a).2.1 ≠ (TJ1 b).2.1 := by decide +kernel
theorem tyJ1_ok : ∀ k, k < 0 → parseFieldDescriptor (TJ1 k).2.2.1 = some (tyJ1 k) := by decide +kernel
abbrev cJ1_charAt_3b067 : ByteArray := prog_22_method_2_code
def yJ1_charAt_3b067 : MethodName := ⟨RJ1, "charAt", "([BI)C"⟩
abbrev cJ1_inflate_0e8fd : ByteArray := prog_22_method_50_code
def yJ1_inflate_0e8fd : MethodName := ⟨RJ1, "inflate", "([BI[BII)V"⟩
def RJ2 : String := "java/lang/StringUTF16"
def TJ2 : u_T := fun k => match k with
  | _ => ("", "", "", false)
def tyJ2 : Nat → FieldType := fun k => match k with
  | _ => .int
abbrev wsJ20 : List Cond := u_ws RJ2 TJ2 0
theorem nmJ2 : ∀ a, a < 0 → ∀ b, b < 0 → a ≠ b → (TJ2 a).2.1 ≠ (TJ2 b).2.1 := by decide +kernel
theorem tyJ2_ok : ∀ k, k < 0 → parseFieldDescriptor (TJ2 k).2.2.1 = some (tyJ2 k) := by decide +kernel
abbrev cJ2_newBytesFor_77867 : ByteArray := prog_23_method_2_code
def yJ2_newBytesFor_77867 : MethodName := ⟨RJ2, "newBytesFor", "(I)[B"⟩
abbrev cJ2_newBytesLength_0f7a4 : ByteArray := prog_23_method_3_code
def yJ2_newBytesLength_0f7a4 : MethodName := ⟨RJ2, "newBytesLength", "(I)I"⟩
abbrev cJ2_putChar_b72d1 : ByteArray := prog_23_method_4_code
def yJ2_putChar_b72d1 : MethodName := ⟨RJ2, "putChar", "([BII)V"⟩
abbrev cJ2_getChar_3b067 : ByteArray := prog_23_method_5_code
def yJ2_getChar_3b067 : MethodName := ⟨RJ2, "getChar", "([BI)C"⟩
abbrev cJ2_length_9d52b : ByteArray := prog_23_method_6_code
def yJ2_length_9d52b : MethodName := ⟨RJ2, "length", "([B)I"⟩
abbrev cJ2_getChars_46870 : ByteArray := prog_23_method_77_code
def yJ2_getChars_46870 : MethodName := ⟨RJ2, "getChars", "(III[B)I"⟩
abbrev cJ2_putCharsAt_cd4e5 : ByteArray := prog_23_method_81_code
def yJ2_putCharsAt_cd4e5 : MethodName := ⟨RJ2, "putCharsAt", "([BICCCC)I"⟩
abbrev cJ2_charAt_3b067 : ByteArray := prog_23_method_83_code
def yJ2_charAt_3b067 : MethodName := ⟨RJ2, "charAt", "([BI)C"⟩
abbrev cJ2_inflate_0e8fd : ByteArray := prog_23_method_86_code
def yJ2_inflate_0e8fd : MethodName := ⟨RJ2, "inflate", "([BI[BII)V"⟩
abbrev cJ2_getChars_ba4f3 : ByteArray := prog_23_method_89_code
def yJ2_getChars_ba4f3 : MethodName := ⟨RJ2, "getChars", "(II[B)I"⟩
abbrev cJ2_checkIndex_2214a : ByteArray := prog_23_method_91_code
def yJ2_checkIndex_2214a : MethodName := ⟨RJ2, "checkIndex", "(I[B)V"⟩
abbrev cJ2_checkBoundsBeginEnd_d044e : ByteArray := prog_23_method_93_code
def yJ2_checkBoundsBeginEnd_d044e : MethodName := ⟨RJ2, "checkBoundsBeginEnd", "(II[B)V"⟩
abbrev cJ2_checkBoundsOffCount_d044e : ByteArray := prog_23_method_94_code
def yJ2_checkBoundsOffCount_d044e : MethodName := ⟨RJ2, "checkBoundsOffCount", "(II[B)V"⟩
def RJ10 : String := "java/lang/System"
def TJ10 : u_T := fun k => match k with
  | _ => ("", "", "", false)
def tyJ10 : Nat → FieldType := fun k => match k with
  | _ => .int
abbrev wsJ100 : List Cond := u_ws RJ10 TJ10 0
theorem nmJ10 : ∀ a, a < 0 → ∀ b, b < 0 → a ≠ b → (TJ10 a).2.1 ≠ (TJ10 b).2.1 := by decide +kernel
theorem tyJ10_ok : ∀ k, k < 0 → parseFieldDescriptor (TJ10 k).2.2.1 = some (tyJ10 k) := by decide +kernel
def RJ7 : String := "java/util/Arrays"
def TJ7 : u_T := fun k => match k with
  | _ => ("", "", "", false)
def tyJ7 : Nat → FieldType := fun k => match k with
  | _ => .int
abbrev wsJ70 : List Cond := u_ws RJ7 TJ7 0
theorem nmJ7 : ∀ a, a < 0 → ∀ b, b < 0 → a ≠ b → (TJ7 a).2.1 ≠ (TJ7 b).2.1 := by decide +kernel
theorem tyJ7_ok : ∀ k, k < 0 → parseFieldDescriptor (TJ7 k).2.2.1 = some (tyJ7 k) := by decide +kernel
abbrev cJ7_copyOf_9075b : ByteArray := prog_26_method_121_code
def yJ7_copyOf_9075b : MethodName := ⟨RJ7, "copyOf", "([BI)[B"⟩
def RJ8 : String := "jdk/internal/util/ArraysSupport"
def TJ8 : u_T := fun k => match k with
  | _ => ("", "", "", false)
def tyJ8 : Nat → FieldType := fun k => match k with
  | _ => .int
abbrev wsJ80 : List Cond := u_ws RJ8 TJ8 0
theorem nmJ8 : ∀ a, a < 0 → ∀ b, b < 0 → a ≠ b → (TJ8 a).2.1 ≠ (TJ8 b).2.1 := by decide +kernel
theorem tyJ8_ok : ∀ k, k < 0 → parseFieldDescriptor (TJ8 k).2.2.1 = some (tyJ8 k) := by decide +kernel
abbrev cJ8_newLength_cabcc : ByteArray := prog_27_method_27_code
def yJ8_newLength_cabcc : MethodName := ⟨RJ8, "newLength", "(III)I"⟩
abbrev cJ8_hugeLength_7cf53 : ByteArray := prog_27_method_28_code
def yJ8_hugeLength_7cf53 : MethodName := ⟨RJ8, "hugeLength", "(II)I"⟩
def RJ3 : String := "jdk/internal/util/Preconditions"
def TJ3 : u_T := fun k => match k with
  | _ => ("", "", "", false)
def tyJ3 : Nat → FieldType := fun k => match k with
  | _ => .int
abbrev wsJ30 : List Cond := u_ws RJ3 TJ3 0
theorem nmJ3 : ∀ a, a < 0 → ∀ b, b < 0 → a ≠ b → (TJ3 a).2.1 ≠ (TJ3 b).2.1 := by decide +kernel
theorem tyJ3_ok : ∀ k, k < 0 → parseFieldDescriptor (TJ3 k).2.2.1 = some (tyJ3 k) := by decide +kernel
abbrev cJ3_checkIndex_8e157 : ByteArray := prog_28_method_11_code
def yJ3_checkIndex_8e157 : MethodName := ⟨RJ3, "checkIndex", "(IILjava/util/function/BiFunction;)I"⟩
abbrev cJ3_checkFromToIndex_8c36e : ByteArray := prog_28_method_12_code
def yJ3_checkFromToIndex_8c36e : MethodName := ⟨RJ3, "checkFromToIndex", "(IIILjava/util/function/BiFunction;)I"⟩
abbrev cJ3_checkFromIndexSize_8c36e : ByteArray := prog_28_method_13_code
def yJ3_checkFromIndexSize_8c36e : MethodName := ⟨RJ3, "checkFromIndexSize", "(IIILjava/util/function/BiFunction;)I"⟩
def RL : String := "TurnLineLaw"
abbrev cL_cell : ByteArray := method_2_code
def yL_cell : MethodName := ⟨RL, "cell", "([II)I"⟩
abbrev cL_pick : ByteArray := method_3_code
def yL_pick : MethodName := ⟨RL, "pick", "([III)I"⟩
abbrev cL_begins : ByteArray := method_4_code
def yL_begins : MethodName := ⟨RL, "begins", "(LTurnLine;[I)Z"⟩
abbrev cL_readsAll : ByteArray := method_5_code
def yL_readsAll : MethodName := ⟨RL, "readsAll", "(LTurnLine;)Z"⟩
abbrev cL_law : ByteArray := code
def yL_law : MethodName := ⟨RL, "law", "([I)Z"⟩
abbrev cL_isStep : ByteArray := method_8_code
def yL_isStep : MethodName := ⟨RL, "isStep", "(LTurnLine;)Z"⟩
abbrev cL_areBuffers : ByteArray := method_9_code
def yL_areBuffers : MethodName := ⟨RL, "areBuffers", "(LTurnLine;)Z"⟩
abbrev cL_isFrame : ByteArray := method_10_code
def yL_isFrame : MethodName := ⟨RL, "isFrame", "(LTurnLine;)Z"⟩
abbrev cL_refuses : ByteArray := method_11_code
def yL_refuses : MethodName := ⟨RL, "refuses", "(LTurnLine;)Z"⟩
def wsL_law0_r1 : List Cond := [Cond.classLink RL 52 RX7, Cond.instantiable RX7 9, Cond.initialized RX7, Cond.methodLink RL 67 yX7_init, Cond.instanceMethod yX7_init, Cond.code yX7_init cX7_init 1 none, Cond.methodLink RX7 3 objectInit, Cond.instanceMethod objectInit, Cond.code objectInit ⟨#[0xb1]⟩ 1 none, Cond.classLink RX7 9 RX6, Cond.instantiable RX6 11, Cond.initialized RX6, Cond.fieldLink RX7 12 "TurnLine" "reader" "LTurnLine$TextReader;", Cond.classLink RX7 16 RX3, Cond.instantiable RX3 11, Cond.initialized RX3, Cond.fieldLink RX7 19 "TurnLine" "now" "LTurnLine$Line;", Cond.fieldLink RX7 23 "TurnLine" "fresh" "LTurnLine$Line;", Cond.fieldLink RX7 26 "TurnLine" "draft" "LTurnLine$Line;", Cond.classLink RX7 29 RX1, Cond.instantiable RX1 6, Cond.initialized RX1, Cond.fieldLink RX7 32 "TurnLine" "coming" "LTurnLine$Frame;", Cond.classLink RX7 36 RX0]
def wsL_law0_r2 : List Cond := [Cond.instantiable RX0 3, Cond.initialized RX0, Cond.fieldLink RX7 39 "TurnLine" "forecast" "LTurnLine$Forecast;", Cond.classLink RX7 43 RX2, Cond.instantiable RX2 2, Cond.initialized RX2, Cond.fieldLink RX7 46 "TurnLine" "history" "LTurnLine$History;", Cond.classLink RX7 50 RX4, Cond.instantiable RX4 2, Cond.initialized RX4, Cond.fieldLink RX7 53 "TurnLine" "firstSlot" "LTurnLine$Slot;", Cond.fieldLink RX7 57 "TurnLine" "secondSlot" "LTurnLine$Slot;", Cond.methodLink RX7 11 yX6_init, Cond.instanceMethod yX6_init, Cond.code yX6_init cX6_init 1 none, Cond.methodLink RX6 3 objectInit, Cond.arrayClass .byte, Cond.fieldLink RX6 11 "TurnLine$TextReader" "buffer" "[B", Cond.methodLink RX7 18 yX3_init, Cond.instanceMethod yX3_init, Cond.code yX3_init cX3_init 1 none, Cond.methodLink RX3 3 objectInit, Cond.classLink RX3 9 RX5, Cond.instantiable RX5 13]
def wsL_law0_r3 : List Cond := [Cond.initialized RX5, Cond.fieldLink RX3 12 "TurnLine$Line" "first" "LTurnLine$Station;", Cond.fieldLink RX3 18 "TurnLine$Line" "second" "LTurnLine$Station;", Cond.arrayClass .int, Cond.fieldLink RX3 21 "TurnLine$Line" "accounts" "[I", Cond.arrayClass .long, Cond.fieldLink RX3 25 "TurnLine$Line" "told" "[J", Cond.fieldLink RX3 29 "TurnLine$Line" "burst" "I", Cond.fieldLink RX3 33 "TurnLine$Line" "silence" "I", Cond.fieldLink RX3 36 "TurnLine$Line" "alsoLost" "I", Cond.methodLink RX3 11 yX5_init, Cond.instanceMethod yX5_init, Cond.code yX5_init cX5_init 1 none, Cond.methodLink RX5 3 objectInit, Cond.fieldLink RX5 9 "TurnLine$Station" "lengths" "[I", Cond.fieldLink RX5 15 "TurnLine$Station" "contents" "[J", Cond.fieldLink RX5 19 "TurnLine$Station" "capacity" "I", Cond.fieldLink RX5 23 "TurnLine$Station" "knownLimit" "I", Cond.methodLink RX7 31 yX1_init, Cond.instanceMethod yX1_init, Cond.code yX1_init cX1_init 1 none, Cond.methodLink RX1 3 objectInit, Cond.fieldLink RX1 11 "TurnLine$Frame" "plain" "[I", Cond.methodLink RX7 38 yX0_init]
def wsL_law0_r4 : List Cond := [Cond.instanceMethod yX0_init, Cond.code yX0_init cX0_init 1 none, Cond.methodLink RX0 3 objectInit, Cond.classLink RX0 9 RX3, Cond.fieldLink RX0 12 "TurnLine$Forecast" "trial" "LTurnLine$Line;", Cond.fieldLink RX0 18 "TurnLine$Forecast" "walk" "LTurnLine$Line;", Cond.classLink RX0 21 RX1, Cond.fieldLink RX0 24 "TurnLine$Forecast" "frame" "LTurnLine$Frame;", Cond.methodLink RX0 11 yX3_init, Cond.methodLink RX0 23 yX1_init, Cond.methodLink RX7 45 yX2_init, Cond.instanceMethod yX2_init, Cond.code yX2_init cX2_init 2 none, Cond.methodLink RX2 3 objectInit, Cond.classLink RX2 9 RX3, Cond.fieldLink RX2 11 "TurnLine$History" "kept" "[LTurnLine$Line;", Cond.methodLink RX2 17 yX3_init, Cond.methodLink RX7 52 yX4_init, Cond.instanceMethod yX4_init, Cond.code yX4_init cX4_init 1 none, Cond.methodLink RX4 1 objectInit, Cond.classLink RX4 7 RX3, Cond.fieldLink RX4 10 "TurnLine$Slot" "held" "LTurnLine$Line;", Cond.methodLink RX4 9 yX3_init]
def wsL_law0_r5 : List Cond := [Cond.methodLink RL 68 yX7_size, Cond.instanceMethod yX7_size, Cond.selects RX7 yX7_size yX7_size, Cond.code yX7_size cX7_size 2 (some .int), Cond.classLink RX7 72 "java/lang/IllegalArgumentException", Cond.initialized "java/lang/IllegalArgumentException", Cond.methodLink RX7 112 yX3_time, Cond.instanceMethod yX3_time, Cond.selects RX3 yX3_time yX3_time, Cond.code yX3_time cX3_time 1 (some .int), Cond.methodLink RL 71 yX7_next, Cond.instanceMethod yX7_next, Cond.selects RX7 yX7_next yX7_next, Cond.code yX7_next cX7_next 2 (some .int), Cond.methodLink RX7 156 yX1_fillFrom, Cond.instanceMethod yX1_fillFrom, Cond.selects RX1 yX1_fillFrom yX1_fillFrom, Cond.code yX1_fillFrom cX1_fillFrom 6 none, Cond.fieldLink RX1 29 "TurnLine$Frame" "isData" "Z", Cond.fieldLink RX1 38 "TurnLine$Frame" "number" "I", Cond.fieldLink RX1 41 "TurnLine$Frame" "count" "I", Cond.fieldLink RX1 44 "TurnLine$Frame" "sum" "I", Cond.fieldLink RX1 47 "TurnLine$Frame" "escapes" "I", Cond.methodLink RX1 21 yX3_side]
def wsL_law0_r6 : List Cond := [Cond.instanceMethod yX3_side, Cond.selects RX3 yX3_side yX3_side, Cond.code yX3_side cX3_side 2 (some (.object "TurnLine$Station")), Cond.methodLink RX1 25 yX3_nextMessage, Cond.instanceMethod yX3_nextMessage, Cond.selects RX3 yX3_nextMessage yX3_nextMessage, Cond.code yX3_nextMessage cX3_nextMessage 4 (some .int), Cond.fieldLink RX3 55 "TurnLine$Line" "sentInTurn" "I", Cond.fieldLink RX3 58 "TurnLine$Line" "turnMissing" "Z", Cond.methodLink RX3 81 yX5_hasMessage, Cond.instanceMethod yX5_hasMessage, Cond.selects RX5 yX5_hasMessage yX5_hasMessage, Cond.code yX5_hasMessage cX5_hasMessage 2 (some .boolean), Cond.fieldLink RX5 32 "TurnLine$Station" "messages" "I", Cond.methodLink RX1 50 yX1_addPlain, Cond.instanceMethod yX1_addPlain, Cond.selects RX1 yX1_addPlain yX1_addPlain, Cond.code yX1_addPlain cX1_addPlain 3 none, Cond.methodLink RX1 75 yX1_isEscaped, Cond.static yX1_isEscaped, Cond.code yX1_isEscaped cX1_isEscaped 1 (some .boolean), Cond.methodLink RX1 57 yX5_ownLimit, Cond.instanceMethod yX5_ownLimit, Cond.selects RX5 yX5_ownLimit yX5_ownLimit]
def wsL_law0_r7 : List Cond := [Cond.code yX5_ownLimit cX5_ownLimit 1 (some .int), Cond.fieldLink RX5 38 "TurnLine$Station" "hostRead" "I", Cond.methodLink RX1 67 yX5_lengthOf, Cond.instanceMethod yX5_lengthOf, Cond.selects RX5 yX5_lengthOf yX5_lengthOf, Cond.code yX5_lengthOf cX5_lengthOf 2 (some .int), Cond.methodLink RX5 59 yX5_hasMessage, Cond.methodLink RX1 71 yX5_byteOf, Cond.instanceMethod yX5_byteOf, Cond.selects RX5 yX5_byteOf yX5_byteOf, Cond.code yX5_byteOf cX5_byteOf 3 (some .int), Cond.methodLink RX7 165 yX1_bytesOnLine, Cond.instanceMethod yX1_bytesOnLine, Cond.selects RX1 yX1_bytesOnLine yX1_bytesOnLine, Cond.code yX1_bytesOnLine cX1_bytesOnLine 1 (some .int), Cond.methodLink RX7 168 yX3_framesSent, Cond.instanceMethod yX3_framesSent, Cond.selects RX3 yX3_framesSent yX3_framesSent, Cond.code yX3_framesSent cX3_framesSent 1 (some .int), Cond.methodLink RX7 153 yX3_tells, Cond.instanceMethod yX3_tells, Cond.selects RX3 yX3_tells yX3_tells, Cond.code yX3_tells cX3_tells 2 (some .boolean), Cond.methodLink RL 74 yX7_undo]
def wsL_law0_r8 : List Cond := [Cond.instanceMethod yX7_undo, Cond.selects RX7 yX7_undo yX7_undo, Cond.code yX7_undo cX7_undo 1 (some .int), Cond.methodLink RX7 260 yX2_takeBack, Cond.instanceMethod yX2_takeBack, Cond.selects RX2 yX2_takeBack yX2_takeBack, Cond.code yX2_takeBack cX2_takeBack 3 (some .boolean), Cond.fieldLink RX2 18 "TurnLine$History" "count" "I", Cond.methodLink RX2 25 yX2_lineAt, Cond.instanceMethod yX2_lineAt, Cond.selects RX2 yX2_lineAt yX2_lineAt, Cond.code yX2_lineAt cX2_lineAt 2 (some (.object "TurnLine$Line")), Cond.methodLink RX2 29 yX3_copyFrom, Cond.instanceMethod yX3_copyFrom, Cond.selects RX3 yX3_copyFrom yX3_copyFrom, Cond.code yX3_copyFrom cX3_copyFrom 2 none, Cond.methodLink RX3 43 arraycopyName, Cond.native arraycopyName, Cond.static arraycopyName, Cond.initialized "java/lang/System", Cond.fieldLink RX3 49 "TurnLine$Line" "toldCount" "I", Cond.fieldLink RX3 52 "TurnLine$Line" "talker" "I", Cond.methodLink RX3 39 yX5_copyFrom, Cond.instanceMethod yX5_copyFrom]
def wsL_law0_r9 : List Cond := [Cond.selects RX5 yX5_copyFrom yX5_copyFrom, Cond.code yX5_copyFrom cX5_copyFrom 2 none, Cond.methodLink RX5 26 arraycopyName, Cond.fieldLink RX5 35 "TurnLine$Station" "accepted" "I", Cond.fieldLink RX5 41 "TurnLine$Station" "wanted" "I", Cond.fieldLink RX5 44 "TurnLine$Station" "returned" "I", Cond.fieldLink RX5 47 "TurnLine$Station" "noted" "I", Cond.fieldLink RX5 50 "TurnLine$Station" "knownAccepted" "I", Cond.fieldLink RX5 53 "TurnLine$Station" "everSent" "I", Cond.fieldLink RX5 56 "TurnLine$Station" "turnsPassed" "I", Cond.methodLink RL 77 yX7_efficiency, Cond.instanceMethod yX7_efficiency, Cond.selects RX7 yX7_efficiency yX7_efficiency, Cond.code yX7_efficiency cX7_efficiency 3 (some .double), Cond.methodLink RX7 208 yX5_bytesOfFirst, Cond.instanceMethod yX5_bytesOfFirst, Cond.selects RX5 yX5_bytesOfFirst yX5_bytesOfFirst, Cond.code yX5_bytesOfFirst cX5_bytesOfFirst 4 (some .int), Cond.methodLink RX5 63 yX5_lengthOf, Cond.methodLink RL 81 yL_begins, Cond.static yL_begins, Cond.initialized RL, Cond.code yL_begins cL_begins 9 (some .boolean), Cond.classLink RL 15 RJ4]
def wsL_law0_r10 : List Cond := [Cond.instantiable RJ4 4, Cond.initialized RJ4, Cond.methodLink RL 19 yJ4_init_a7421, Cond.instanceMethod yJ4_init_a7421, Cond.code yJ4_init_a7421 cJ4_init_a7421 2 none, Cond.methodLink RJ4 7 yJ5_init_a7421, Cond.instanceMethod yJ5_init_a7421, Cond.initialized RJ5, Cond.code yJ5_init_a7421 cJ5_init_a7421 5 none, Cond.methodLink RJ5 3 objectInit, Cond.constant RJ5 38 (2147483631), Cond.constant RJ5 39 (2147483647), Cond.fieldLink RJ5 22 "java/lang/AbstractStringBuilder" "coder" "B", Cond.fieldLink RJ5 15 "java/lang/AbstractStringBuilder" "value" "[B", Cond.methodLink RJ5 32 yJ0_length_8abf5, Cond.instanceMethod yJ0_length_8abf5, Cond.selects RJ0 yJ0_length_8abf5 yJ0_length_8abf5, Cond.initialized RJ0, Cond.code yJ0_length_8abf5 cJ0_length_8abf5 1 (some .int), Cond.fieldLink RJ0 9 "java/lang/String" "value" "[B", Cond.methodLink RJ0 335 yJ0_coder_7d493, Cond.instanceMethod yJ0_coder_7d493, Cond.selects RJ0 yJ0_coder_7d493 yJ0_coder_7d493, Cond.code yJ0_coder_7d493 cJ0_coder_7d493 1 (some .byte)]
def wsL_law0_r11 : List Cond := [Cond.fieldLink RJ0 38 "java/lang/String" "COMPACT_STRINGS" "Z", Cond.fieldLink RJ0 15 "java/lang/String" "coder" "B", Cond.methodLink RJ5 40 yJ0_coder_7d493, Cond.methodLink RJ5 26 yJ2_newBytesFor_77867, Cond.static yJ2_newBytesFor_77867, Cond.initialized RJ2, Cond.code yJ2_newBytesFor_77867 cJ2_newBytesFor_77867 1 (some (.array .byte)), Cond.methodLink RJ2 11 yJ2_newBytesLength_0f7a4, Cond.static yJ2_newBytesLength_0f7a4, Cond.code yJ2_newBytesLength_0f7a4 cJ2_newBytesLength_0f7a4 1 (some .int), Cond.constant RJ2 20 (1073741823), Cond.methodLink RJ5 43 ⟨"java/lang/AbstractStringBuilder", "append", "(Ljava/lang/String;)Ljava/lang/AbstractStringBuilder;"⟩, Cond.sameMethod "java/lang/AbstractStringBuilder" "java/lang/AbstractStringBuilder" "append" "(Ljava/lang/String;)Ljava/lang/AbstractStringBuilder;", Cond.instanceMethod ⟨"java/lang/AbstractStringBuilder", "append", "(Ljava/lang/String;)Ljava/lang/AbstractStringBuilder;"⟩, Cond.selects RJ4 ⟨"java/lang/AbstractStringBuilder", "append", "(Ljava/lang/String;)Ljava/lang/AbstractStringBuilder;"⟩ yJ4_append_cf1ce, Cond.instanceMethod yJ4_append_cf1ce, Cond.code yJ4_append_cf1ce cJ4_append_cf1ce 2 (some (.object "java/lang/AbstractStringBuilder")), Cond.methodLink RJ4 23 yJ4_append_15ec4, Cond.instanceMethod yJ4_append_15ec4, Cond.selects RJ4 yJ4_append_15ec4 yJ4_append_15ec4, Cond.code yJ4_append_15ec4 cJ4_append_15ec4 2 (some (.object "java/lang/StringBuilder")), Cond.methodLink RJ4 29 yJ5_append_cf1ce, Cond.superclass RJ4 RJ5, Cond.instanceMethod yJ5_append_cf1ce]
def wsL_law0_r12 : List Cond := [Cond.code yJ5_append_cf1ce cJ5_append_cf1ce 3 (some (.object "java/lang/AbstractStringBuilder")), Cond.fieldLink RJ5 79 "java/lang/AbstractStringBuilder" "count" "I", Cond.methodLink RJ5 204 ⟨"java/lang/AbstractStringBuilder", "appendNull", "()Ljava/lang/AbstractStringBuilder;"⟩, Cond.sameMethod "java/lang/AbstractStringBuilder" "java/lang/AbstractStringBuilder" "appendNull" "()Ljava/lang/AbstractStringBuilder;", Cond.selects RJ4 ⟨"java/lang/AbstractStringBuilder", "appendNull", "()Ljava/lang/AbstractStringBuilder;"⟩ yJ5_appendNull_278bc, Cond.instanceMethod yJ5_appendNull_278bc, Cond.code yJ5_appendNull_278bc cJ5_appendNull_278bc 3 (some (.object "java/lang/AbstractStringBuilder")), Cond.methodLink RJ5 100 ⟨"java/lang/AbstractStringBuilder", "ensureCapacityInternal", "(I)V"⟩, Cond.sameMethod "java/lang/AbstractStringBuilder" "java/lang/AbstractStringBuilder" "ensureCapacityInternal" "(I)V", Cond.selects RJ4 ⟨"java/lang/AbstractStringBuilder", "ensureCapacityInternal", "(I)V"⟩ yJ5_ensureCapacityInternal_d00df, Cond.instanceMethod yJ5_ensureCapacityInternal_d00df, Cond.code yJ5_ensureCapacityInternal_d00df cJ5_ensureCapacityInternal_d00df 3 none, Cond.methodLink RJ5 104 ⟨"java/lang/AbstractStringBuilder", "newCapacity", "(I)I"⟩, Cond.sameMethod "java/lang/AbstractStringBuilder" "java/lang/AbstractStringBuilder" "newCapacity" "(I)I", Cond.selects RJ4 ⟨"java/lang/AbstractStringBuilder", "newCapacity", "(I)I"⟩ yJ5_newCapacity_0f7a4, Cond.instanceMethod yJ5_newCapacity_0f7a4, Cond.code yJ5_newCapacity_0f7a4 cJ5_newCapacity_0f7a4 6 (some .int), Cond.methodLink RJ5 114 yJ8_newLength_cabcc, Cond.static yJ8_newLength_cabcc, Cond.initialized RJ8, Cond.code yJ8_newLength_cabcc cJ8_newLength_cabcc 4 (some .int), Cond.methodLink RJ8 194 Lib.Math.max.name, Cond.static Lib.Math.max.name, Cond.initialized "java/lang/Math"]
def wsL_law0_r13 : List Cond := [Cond.code Lib.Math.max.name Lib.Math.max.code 2 (some .int), Cond.constant RJ8 200 (2147483639), Cond.methodLink RJ8 201 yJ8_hugeLength_7cf53, Cond.static yJ8_hugeLength_7cf53, Cond.code yJ8_hugeLength_7cf53 cJ8_hugeLength_7cf53 3 (some .int), Cond.methodLink RJ5 108 yJ7_copyOf_9075b, Cond.static yJ7_copyOf_9075b, Cond.initialized RJ7, Cond.code yJ7_copyOf_9075b cJ7_copyOf_9075b 3 (some (.array .byte)), Cond.methodLink RJ7 310 ⟨"[B", "clone", "()Ljava/lang/Object;"⟩, Cond.sameMethod "[B" "java/lang/Object" "clone" "()Ljava/lang/Object;", Cond.native ⟨"java/lang/Object", "clone", "()Ljava/lang/Object;"⟩, Cond.instanceMethod ⟨"java/lang/Object", "clone", "()Ljava/lang/Object;"⟩, Cond.selects "[B" ⟨"[B", "clone", "()Ljava/lang/Object;"⟩ ⟨"java/lang/Object", "clone", "()Ljava/lang/Object;"⟩, Cond.classLink RJ7 311 "[B", Cond.methodLink RJ7 304 Lib.Math.min.name, Cond.static Lib.Math.min.name, Cond.code Lib.Math.min.name Lib.Math.min.code 2 (some .int), Cond.methodLink RJ7 150 arraycopyName, Cond.methodLink RJ5 83 ⟨"java/lang/AbstractStringBuilder", "isLatin1", "()Z"⟩, Cond.sameMethod "java/lang/AbstractStringBuilder" "java/lang/AbstractStringBuilder" "isLatin1" "()Z", Cond.selects RJ4 ⟨"java/lang/AbstractStringBuilder", "isLatin1", "()Z"⟩ yJ5_isLatin1_aae02, Cond.instanceMethod yJ5_isLatin1_aae02, Cond.code yJ5_isLatin1_aae02 cJ5_isLatin1_aae02 1 (some .boolean)]
def wsL_law0_r14 : List Cond := [Cond.fieldLink RJ5 18 "java/lang/String" "COMPACT_STRINGS" "Z", Cond.methodLink RJ5 226 yJ2_putCharsAt_cd4e5, Cond.static yJ2_putCharsAt_cd4e5, Cond.code yJ2_putCharsAt_cd4e5 cJ2_putCharsAt_cd4e5 7 (some .int), Cond.fieldLink RJ2 44 "java/lang/StringUTF16" "$assertionsDisabled" "Z", Cond.methodLink RJ2 96 yJ2_checkBoundsBeginEnd_d044e, Cond.static yJ2_checkBoundsBeginEnd_d044e, Cond.code yJ2_checkBoundsBeginEnd_d044e cJ2_checkBoundsBeginEnd_d044e 3 none, Cond.methodLink RJ2 48 yJ2_length_9d52b, Cond.static yJ2_length_9d52b, Cond.code yJ2_length_9d52b cJ2_length_9d52b 1 (some .int), Cond.methodLink RJ2 241 yJ0_checkBoundsBeginEnd_23922, Cond.static yJ0_checkBoundsBeginEnd_23922, Cond.code yJ0_checkBoundsBeginEnd_23922 cJ0_checkBoundsBeginEnd_23922 3 none, Cond.fieldLink RJ0 1053 "jdk/internal/util/Preconditions" "SIOOBE_FORMATTER" "Ljava/util/function/BiFunction;", Cond.methodLink RJ0 1062 yJ3_checkFromToIndex_8c36e, Cond.static yJ3_checkFromToIndex_8c36e, Cond.initialized RJ3, Cond.code yJ3_checkFromToIndex_8c36e cJ3_checkFromToIndex_8c36e 4 (some .int), Cond.methodLink RJ2 111 yJ2_putChar_b72d1, Cond.static yJ2_putChar_b72d1, Cond.code yJ2_putChar_b72d1 cJ2_putChar_b72d1 3 none, Cond.fieldLink RJ2 59 "java/lang/StringUTF16" "HI_BYTE_SHIFT" "I", Cond.fieldLink RJ2 63 "java/lang/StringUTF16" "LO_BYTE_SHIFT" "I"]
def wsL_law0_r15 : List Cond := [Cond.methodLink RJ5 208 ⟨"java/lang/AbstractStringBuilder", "putStringAt", "(ILjava/lang/String;)V"⟩, Cond.sameMethod "java/lang/AbstractStringBuilder" "java/lang/AbstractStringBuilder" "putStringAt" "(ILjava/lang/String;)V", Cond.selects RJ4 ⟨"java/lang/AbstractStringBuilder", "putStringAt", "(ILjava/lang/String;)V"⟩ yJ5_putStringAt_47b60, Cond.instanceMethod yJ5_putStringAt_47b60, Cond.code yJ5_putStringAt_47b60 cJ5_putStringAt_47b60 3 none, Cond.methodLink RJ5 397 ⟨"java/lang/AbstractStringBuilder", "inflateIfNeededFor", "(Ljava/lang/String;)V"⟩, Cond.sameMethod "java/lang/AbstractStringBuilder" "java/lang/AbstractStringBuilder" "inflateIfNeededFor" "(Ljava/lang/String;)V", Cond.selects RJ4 ⟨"java/lang/AbstractStringBuilder", "inflateIfNeededFor", "(Ljava/lang/String;)V"⟩ yJ5_inflateIfNeededFor_a7421, Cond.instanceMethod yJ5_inflateIfNeededFor_a7421, Cond.code yJ5_inflateIfNeededFor_a7421 cJ5_inflateIfNeededFor_a7421 2 none, Cond.methodLink RJ5 195 ⟨"java/lang/AbstractStringBuilder", "inflate", "()V"⟩, Cond.sameMethod "java/lang/AbstractStringBuilder" "java/lang/AbstractStringBuilder" "inflate" "()V", Cond.selects RJ4 ⟨"java/lang/AbstractStringBuilder", "inflate", "()V"⟩ yJ5_inflate_da8c8, Cond.instanceMethod yJ5_inflate_da8c8, Cond.code yJ5_inflate_da8c8 cJ5_inflate_da8c8 2 none, Cond.methodLink RJ5 125 yJ1_inflate_0e8fd, Cond.static yJ1_inflate_0e8fd, Cond.initialized RJ1, Cond.code yJ1_inflate_0e8fd cJ1_inflate_0e8fd 5 none, Cond.methodLink RJ1 240 yJ2_inflate_0e8fd, Cond.static yJ2_inflate_0e8fd, Cond.code yJ2_inflate_0e8fd cJ2_inflate_0e8fd 6 none, Cond.methodLink RJ2 173 yJ2_checkBoundsOffCount_d044e, Cond.static yJ2_checkBoundsOffCount_d044e]
def wsL_law0_r16 : List Cond := [Cond.code yJ2_checkBoundsOffCount_d044e cJ2_checkBoundsOffCount_d044e 3 none, Cond.methodLink RJ2 419 yJ0_checkBoundsOffCount_cabcc, Cond.static yJ0_checkBoundsOffCount_cabcc, Cond.code yJ0_checkBoundsOffCount_cabcc cJ0_checkBoundsOffCount_cabcc 3 (some .int), Cond.methodLink RJ0 1065 yJ3_checkFromIndexSize_8c36e, Cond.static yJ3_checkFromIndexSize_8c36e, Cond.code yJ3_checkFromIndexSize_8c36e cJ3_checkFromIndexSize_8c36e 4 (some .int), Cond.methodLink RJ5 399 yJ0_getBytes_840e7, Cond.instanceMethod yJ0_getBytes_840e7, Cond.selects RJ0 yJ0_getBytes_840e7 yJ0_getBytes_840e7, Cond.code yJ0_getBytes_840e7 cJ0_getBytes_840e7 4 none, Cond.methodLink RJ0 212 arraycopyName, Cond.methodLink RJ0 106 yJ1_inflate_0e8fd, Cond.methodLink RL 22 yL_pick, Cond.static yL_pick, Cond.code yL_pick cL_pick 3 (some .int), Cond.constant RL 14 (65535), Cond.methodLink RL 8 yL_cell, Cond.static yL_cell, Cond.code yL_cell cL_cell 2 (some .int), Cond.constant RL 7 (40503), Cond.methodLink RL 26 yJ4_append_bf812, Cond.instanceMethod yJ4_append_bf812, Cond.selects RJ4 yJ4_append_bf812 yJ4_append_bf812]
def wsL_law0_r17 : List Cond := [Cond.code yJ4_append_bf812 cJ4_append_bf812 2 (some (.object "java/lang/StringBuilder")), Cond.methodLink RJ4 53 yJ5_append_c97b9, Cond.sameMethod "java/lang/AbstractStringBuilder" "java/lang/AbstractStringBuilder" "append" "(I)Ljava/lang/AbstractStringBuilder;", Cond.instanceMethod yJ5_append_c97b9, Cond.code yJ5_append_c97b9 cJ5_append_c97b9 4 (some (.object "java/lang/AbstractStringBuilder")), Cond.methodLink RJ5 245 yJ6_stringSize_0f7a4, Cond.static yJ6_stringSize_0f7a4, Cond.initialized RJ6, Cond.code yJ6_stringSize_0f7a4 cJ6_stringSize_0f7a4 4 (some .int), Cond.methodLink RJ5 248 yJ6_getChars_ba4f3, Cond.static yJ6_getChars_ba4f3, Cond.code yJ6_getChars_ba4f3 cJ6_getChars_ba4f3 7 (some .int), Cond.fieldLink RJ6 83 "java/lang/Integer" "DigitOnes" "[B", Cond.fieldLink RJ6 87 "java/lang/Integer" "DigitTens" "[B", Cond.methodLink RJ5 251 yJ2_getChars_46870, Cond.static yJ2_getChars_46870, Cond.code yJ2_getChars_46870 cJ2_getChars_46870 5 (some .int), Cond.methodLink RJ2 393 yJ2_getChars_ba4f3, Cond.static yJ2_getChars_ba4f3, Cond.code yJ2_getChars_ba4f3 cJ2_getChars_ba4f3 7 (some .int), Cond.fieldLink RJ2 403 "java/lang/Integer" "DigitOnes" "[B", Cond.fieldLink RJ2 407 "java/lang/Integer" "DigitTens" "[B", Cond.methodLink RL 32 yJ4_append_15ec4, Cond.methodLink RL 43 yJ4_length_8abf5]
def wsL_law0_r18 : List Cond := [Cond.instanceMethod yJ4_length_8abf5, Cond.selects RJ4 yJ4_length_8abf5 yJ4_length_8abf5, Cond.code yJ4_length_8abf5 cJ4_length_8abf5 1 (some .int), Cond.methodLink RJ4 343 yJ5_length_8abf5, Cond.sameMethod "java/lang/AbstractStringBuilder" "java/lang/AbstractStringBuilder" "length" "()I", Cond.instanceMethod yJ5_length_8abf5, Cond.code yJ5_length_8abf5 cJ5_length_8abf5 1 (some .int), Cond.methodLink RL 47 yJ4_charAt_5068e, Cond.instanceMethod yJ4_charAt_5068e, Cond.selects RJ4 yJ4_charAt_5068e yJ4_charAt_5068e, Cond.code yJ4_charAt_5068e cJ4_charAt_5068e 2 (some .char), Cond.methodLink RJ4 329 yJ5_charAt_5068e, Cond.sameMethod "java/lang/AbstractStringBuilder" "java/lang/AbstractStringBuilder" "charAt" "(I)C", Cond.instanceMethod yJ5_charAt_5068e, Cond.code yJ5_charAt_5068e cJ5_charAt_5068e 5 (some .char), Cond.methodLink RJ5 138 Lib.Math.min.name, Cond.methodLink RJ5 144 yJ0_checkIndex_df160, Cond.static yJ0_checkIndex_df160, Cond.code yJ0_checkIndex_df160 cJ0_checkIndex_df160 2 none, Cond.methodLink RJ0 1059 yJ3_checkIndex_8e157, Cond.static yJ3_checkIndex_8e157, Cond.code yJ3_checkIndex_8e157 cJ3_checkIndex_8e157 3 (some .int), Cond.methodLink RJ5 148 yJ2_getChar_3b067, Cond.static yJ2_getChar_3b067]
def wsL_law0_r19 : List Cond := [Cond.code yJ2_getChar_3b067 cJ2_getChar_3b067 2 (some .char), Cond.methodLink RL 51 yX7_append, Cond.instanceMethod yX7_append, Cond.selects RX7 yX7_append yX7_append, Cond.code yX7_append cX7_append 6 (some .int), Cond.methodLink RX7 60 yX6_hasRoom, Cond.instanceMethod yX6_hasRoom, Cond.selects RX6 yX6_hasRoom yX6_hasRoom, Cond.code yX6_hasRoom cX6_hasRoom 1 (some .boolean), Cond.fieldLink RX6 15 "TurnLine$TextReader" "filled" "I", Cond.methodLink RX7 64 yX6_addFour, Cond.instanceMethod yX6_addFour, Cond.selects RX6 yX6_addFour yX6_addFour, Cond.code yX6_addFour cX6_addFour 3 none, Cond.methodLink RL 56 yX7_parse, Cond.instanceMethod yX7_parse, Cond.selects RX7 yX7_parse yX7_parse, Cond.code yX7_parse cX7_parse 3 (some .int), Cond.methodLink RX7 79 yX3_copyFrom, Cond.methodLink RX7 83 yX6_readText, Cond.instanceMethod yX6_readText, Cond.selects RX6 yX6_readText yX6_readText, Cond.code yX6_readText cX6_readText 4 (some .int), Cond.fieldLink RX6 19 "TurnLine$TextReader" "end" "I"]
def wsL_law0_r20 : List Cond := [Cond.fieldLink RX6 22 "TurnLine$TextReader" "at" "I", Cond.fieldLink RX6 25 "TurnLine$TextReader" "fault" "I", Cond.fieldLink RX6 28 "TurnLine$TextReader" "firstHasWindow" "Z", Cond.fieldLink RX6 32 "TurnLine$TextReader" "secondHasWindow" "Z", Cond.fieldLink RX6 59 "TurnLine$TextReader" "kind" "I", Cond.methodLink RX6 35 yX6_advance, Cond.instanceMethod yX6_advance, Cond.selects RX6 yX6_advance yX6_advance, Cond.code yX6_advance cX6_advance 2 none, Cond.fieldLink RX6 100 "TurnLine$TextReader" "start" "I", Cond.methodLink RX6 141 yX6_byteAt, Cond.instanceMethod yX6_byteAt, Cond.selects RX6 yX6_byteAt yX6_byteAt, Cond.code yX6_byteAt cX6_byteAt 2 (some .int), Cond.methodLink RX6 149 yX6_isSpace, Cond.static yX6_isSpace, Cond.code yX6_isSpace cX6_isSpace 1 (some .boolean), Cond.methodLink RX6 152 yX6_isLetter, Cond.static yX6_isLetter, Cond.code yX6_isLetter cX6_isLetter 1 (some .boolean), Cond.methodLink RX6 155 yX6_passLetters, Cond.instanceMethod yX6_passLetters, Cond.selects RX6 yX6_passLetters yX6_passLetters, Cond.code yX6_passLetters cX6_passLetters 1 none]
def wsL_law0_r21 : List Cond := [Cond.methodLink RX6 158 yX6_isDigit, Cond.static yX6_isDigit, Cond.code yX6_isDigit cX6_isDigit 1 (some .boolean), Cond.methodLink RX6 161 yX6_passDigits, Cond.instanceMethod yX6_passDigits, Cond.selects RX6 yX6_passDigits yX6_passDigits, Cond.code yX6_passDigits cX6_passDigits 1 none, Cond.fieldLink RX6 132 "TurnLine$TextReader" "value" "I", Cond.methodLink RX6 40 yX6_takeWord, Cond.instanceMethod yX6_takeWord, Cond.selects RX6 yX6_takeWord yX6_takeWord, Cond.code yX6_takeWord cX6_takeWord 2 none, Cond.methodLink RX6 83 yX6_isWord, Cond.instanceMethod yX6_isWord, Cond.selects RX6 yX6_isWord yX6_isWord, Cond.code yX6_isWord cX6_isWord 3 (some .boolean), Cond.methodLink RX6 135 yJ0_length_8abf5, Cond.methodLink RX6 145 yJ0_charAt_5068e, Cond.instanceMethod yJ0_charAt_5068e, Cond.selects RJ0 yJ0_charAt_5068e yJ0_charAt_5068e, Cond.code yJ0_charAt_5068e cJ0_charAt_5068e 2 (some .char), Cond.methodLink RJ0 492 yJ0_isLatin1_aae02, Cond.instanceMethod yJ0_isLatin1_aae02, Cond.selects RJ0 yJ0_isLatin1_aae02 yJ0_isLatin1_aae02]
def wsL_law0_r22 : List Cond := [Cond.code yJ0_isLatin1_aae02 cJ0_isLatin1_aae02 1 (some .boolean), Cond.methodLink RJ0 495 yJ1_charAt_3b067, Cond.static yJ1_charAt_3b067, Cond.code yJ1_charAt_3b067 cJ1_charAt_3b067 2 (some .char), Cond.methodLink RJ1 9 yJ0_checkIndex_df160, Cond.methodLink RJ0 498 yJ2_charAt_3b067, Cond.static yJ2_charAt_3b067, Cond.code yJ2_charAt_3b067 cJ2_charAt_3b067 2 (some .char), Cond.methodLink RJ2 67 yJ2_checkIndex_2214a, Cond.static yJ2_checkIndex_2214a, Cond.code yJ2_checkIndex_2214a cJ2_checkIndex_2214a 2 none, Cond.methodLink RJ2 414 yJ0_checkIndex_df160, Cond.methodLink RJ2 71 yJ2_getChar_3b067, Cond.methodLink RX6 103 yX6_failAt, Cond.instanceMethod yX6_failAt, Cond.selects RX6 yX6_failAt yX6_failAt, Cond.code yX6_failAt cX6_failAt 3 none, Cond.methodLink RX6 44 yX6_takeNumber, Cond.instanceMethod yX6_takeNumber, Cond.selects RX6 yX6_takeNumber yX6_takeNumber, Cond.code yX6_takeNumber cX6_takeNumber 4 (some .int), Cond.fieldLink RX6 110 "TurnLine$TextReader" "takenAt" "I", Cond.methodLink RX6 56 yX6_takeSemicolon, Cond.instanceMethod yX6_takeSemicolon]
def wsL_law0_r23 : List Cond := [Cond.selects RX6 yX6_takeSemicolon yX6_takeSemicolon, Cond.code yX6_takeSemicolon cX6_takeSemicolon 1 none, Cond.methodLink RX6 62 yX6_readStatement, Cond.instanceMethod yX6_readStatement, Cond.selects RX6 yX6_readStatement yX6_readStatement, Cond.code yX6_readStatement cX6_readStatement 2 none, Cond.methodLink RX6 87 yX6_readWindow, Cond.instanceMethod yX6_readWindow, Cond.selects RX6 yX6_readWindow yX6_readWindow, Cond.code yX6_readWindow cX6_readWindow 3 none, Cond.methodLink RX6 113 yX3_side, Cond.methodLink RX6 92 yX6_readMessage, Cond.instanceMethod yX6_readMessage, Cond.selects RX6 yX6_readMessage yX6_readMessage, Cond.code yX6_readMessage cX6_readMessage 6 none, Cond.methodLink RX6 120 yX5_addMessage, Cond.instanceMethod yX5_addMessage, Cond.selects RX5 yX5_addMessage yX5_addMessage, Cond.code yX5_addMessage cX5_addMessage 4 none, Cond.methodLink RX6 107 yX6_readLose, Cond.instanceMethod yX6_readLose, Cond.selects RX6 yX6_readLose yX6_readLose, Cond.code yX6_readLose cX6_readLose 3 none, Cond.methodLink RX6 124 yX3_tells]
def wsL_law0_r24 : List Cond := [Cond.methodLink RX6 128 yX3_tellLost, Cond.instanceMethod yX3_tellLost, Cond.selects RX3 yX3_tellLost yX3_tellLost, Cond.code yX3_tellLost cX3_tellLost 2 none, Cond.methodLink RX3 62 yX3_tells, Cond.methodLink RL 85 yL_isFrame, Cond.static yL_isFrame, Cond.code yL_isFrame cL_isFrame 8 (some .boolean), Cond.methodLink RL 111 yX7_nextByte, Cond.instanceMethod yX7_nextByte, Cond.selects RX7 yX7_nextByte yX7_nextByte, Cond.code yX7_nextByte cX7_nextByte 2 (some .int), Cond.methodLink RX7 173 yX1_byteOnLine, Cond.instanceMethod yX1_byteOnLine, Cond.selects RX1 yX1_byteOnLine yX1_byteOnLine, Cond.code yX1_byteOnLine cX1_byteOnLine 5 (some .int), Cond.methodLink RL 60 yX7_station, Cond.instanceMethod yX7_station, Cond.selects RX7 yX7_station yX7_station, Cond.code yX7_station cX7_station 3 (some .int), Cond.methodLink RX7 127 yX7_checkStation, Cond.static yX7_checkStation, Cond.code yX7_checkStation cX7_checkStation 1 none, Cond.classLink RX7 144 "java/lang/IndexOutOfBoundsException"]
def wsL_law0_r25 : List Cond := [Cond.initialized "java/lang/IndexOutOfBoundsException", Cond.methodLink RX7 132 yX3_side, Cond.methodLink RX7 136 yX5_numberOf, Cond.instanceMethod yX5_numberOf, Cond.selects RX5 yX5_numberOf yX5_numberOf, Cond.code yX5_numberOf cX5_numberOf 2 (some .int), Cond.methodLink RL 114 yX7_messageByte, Cond.instanceMethod yX7_messageByte, Cond.selects RX7 yX7_messageByte yX7_messageByte, Cond.code yX7_messageByte cX7_messageByte 5 (some .int), Cond.methodLink RX7 140 yX5_hasMessage, Cond.methodLink RX7 149 yX5_byteOf, Cond.methodLink RL 89 yL_isStep, Cond.static yL_isStep, Cond.code yL_isStep cL_isStep 11 (some .boolean), Cond.methodLink RL 101 yX7_isTold, Cond.instanceMethod yX7_isTold, Cond.selects RX7 yX7_isTold yX7_isTold, Cond.code yX7_isTold cX7_isTold 2 (some .boolean), Cond.methodLink RL 105 yX7_run, Cond.instanceMethod yX7_run, Cond.selects RX7 yX7_run yX7_run, Cond.code yX7_run cX7_run 3 (some .int), Cond.classLink RX7 213 "java/lang/IllegalStateException"]
def wsL_law0_r26 : List Cond := [Cond.initialized "java/lang/IllegalStateException", Cond.methodLink RX7 225 yX7_checkMany, Cond.static yX7_checkMany, Cond.code yX7_checkMany cX7_checkMany 2 none, Cond.methodLink RX7 218 yX2_keep, Cond.instanceMethod yX2_keep, Cond.selects RX2 yX2_keep yX2_keep, Cond.code yX2_keep cX2_keep 3 none, Cond.methodLink RX2 22 yX2_forgetOldest, Cond.instanceMethod yX2_forgetOldest, Cond.selects RX2 yX2_forgetOldest yX2_forgetOldest, Cond.code yX2_forgetOldest cX2_forgetOldest 3 none, Cond.methodLink RX7 256 yX3_step, Cond.instanceMethod yX3_step, Cond.selects RX3 yX3_step yX3_step, Cond.code yX3_step cX3_step 3 none, Cond.methodLink RX3 84 yX1_fillFrom, Cond.methodLink RX3 90 yX3_framesSent, Cond.methodLink RX3 94 yX1_bytesOnLine, Cond.methodLink RX3 106 yX3_sendData, Cond.instanceMethod yX3_sendData, Cond.selects RX3 yX3_sendData yX3_sendData, Cond.code yX3_sendData cX3_sendData 5 none, Cond.methodLink RX3 114 yX3_side]
def wsL_law0_r27 : List Cond := [Cond.methodLink RX3 121 yX5_noteHeadOf, Cond.instanceMethod yX5_noteHeadOf, Cond.selects RX5 yX5_noteHeadOf yX5_noteHeadOf, Cond.code yX5_noteHeadOf cX5_noteHeadOf 3 none, Cond.methodLink RX5 67 yX5_ownLimit, Cond.methodLink RX3 110 yX3_sendTurn, Cond.instanceMethod yX3_sendTurn, Cond.selects RX3 yX3_sendTurn yX3_sendTurn, Cond.code yX3_sendTurn cX3_sendTurn 4 none, Cond.methodLink RX3 130 yX5_returnCapacity, Cond.instanceMethod yX5_returnCapacity, Cond.selects RX5 yX5_returnCapacity yX5_returnCapacity, Cond.code yX5_returnCapacity cX5_returnCapacity 4 none, Cond.methodLink RX5 71 Lib.Math.max.name, Cond.methodLink RX5 77 Lib.Math.min.name, Cond.methodLink RL 108 yX7_account, Cond.instanceMethod yX7_account, Cond.selects RX7 yX7_account yX7_account, Cond.code yX7_account cX7_account 2 (some .int), Cond.methodLink RL 92 yL_areBuffers, Cond.static yL_areBuffers, Cond.code yL_areBuffers cL_areBuffers 5 (some .boolean), Cond.methodLink RL 95 yL_readsAll, Cond.static yL_readsAll]
def wsL_law0_r28 : List Cond := [Cond.code yL_readsAll cL_readsAll 3 (some .boolean), Cond.methodLink RL 64 yX7_read, Cond.instanceMethod yX7_read, Cond.selects RX7 yX7_read yX7_read, Cond.code yX7_read cX7_read 4 (some .int), Cond.methodLink RX7 229 yX5_inBuffer, Cond.instanceMethod yX5_inBuffer, Cond.selects RX5 yX5_inBuffer yX5_inBuffer, Cond.code yX5_inBuffer cX5_inBuffer 1 (some .int), Cond.methodLink RL 98 yL_refuses, Cond.static yL_refuses, Cond.codeWith yL_refuses cL_refuses 2 (some .boolean) [(0, 7, 8, 118)], Cond.classLink RL 118 "java/lang/IllegalArgumentException"]
def wsL_law0 : List Cond := (wsL_law0_r1 ++ (wsL_law0_r2 ++ (wsL_law0_r3 ++ (wsL_law0_r4 ++ (wsL_law0_r5 ++ (wsL_law0_r6 ++ (wsL_law0_r7 ++ (wsL_law0_r8 ++ (wsL_law0_r9 ++ (wsL_law0_r10 ++ (wsL_law0_r11 ++ (wsL_law0_r12 ++ (wsL_law0_r13 ++ (wsL_law0_r14 ++ (wsL_law0_r15 ++ (wsL_law0_r16 ++ (wsL_law0_r17 ++ (wsL_law0_r18 ++ (wsL_law0_r19 ++ (wsL_law0_r20 ++ (wsL_law0_r21 ++ (wsL_law0_r22 ++ (wsL_law0_r23 ++ (wsL_law0_r24 ++ (wsL_law0_r25 ++ (wsL_law0_r26 ++ (wsL_law0_r27 ++ wsL_law0_r28))))))))))))))))))))))))))) ++ wsX70 ++ wsX60 ++ wsX30 ++ wsX10 ++ wsX00 ++ wsX20 ++ wsX40 ++ wsX50 ++ wsJ40 ++ ([] : List Cond)
def wsL_law : List Cond := wsL_law0 ++ (vx_atS RX7 76 "java/lang/IllegalArgumentException" ["java/lang/RuntimeException", "java/lang/Exception"]).filter goodWord ++ (vx_atS RX7 148 "java/lang/IndexOutOfBoundsException" ["java/lang/RuntimeException", "java/lang/Exception"]).filter goodWord ++ (vx_atS RX7 217 "java/lang/IllegalStateException" ["java/lang/RuntimeException", "java/lang/Exception"]).filter goodWord
theorem inlX0 : ∀ w ∈ wsX00, w ∈ wsL_law := fun _ h => List.mem_append_left _ (List.mem_append_left _ (List.mem_append_left _ (List.mem_append_left _ (List.mem_append_left _ (List.mem_append_left _ (List.mem_append_left _ (List.mem_append_left _ (List.mem_append_right _ h))))))))
theorem inlX1 : ∀ w ∈ wsX10, w ∈ wsL_law := fun _ h => List.mem_append_left _ (List.mem_append_left _ (List.mem_append_left _ (List.mem_append_left _ (List.mem_append_left _ (List.mem_append_left _ (List.mem_append_left _ (List.mem_append_left _ (List.mem_append_left _ (List.mem_append_right _ h)))))))))
theorem inlX2 : ∀ w ∈ wsX20, w ∈ wsL_law := fun _ h => List.mem_append_left _ (List.mem_append_left _ (List.mem_append_left _ (List.mem_append_left _ (List.mem_append_left _ (List.mem_append_left _ (List.mem_append_left _ (List.mem_append_right _ h)))))))
theorem inlX3 : ∀ w ∈ wsX30, w ∈ wsL_law := fun _ h => List.mem_append_left _ (List.mem_append_left _ (List.mem_append_left _ (List.mem_append_left _ (List.mem_append_left _ (List.mem_append_left _ (List.mem_append_left _ (List.mem_append_left _ (List.mem_append_left _ (List.mem_append_left _ (List.mem_append_right _ h))))))))))
theorem inlX4 : ∀ w ∈ wsX40, w ∈ wsL_law := fun _ h => List.mem_append_left _ (List.mem_append_left _ (List.mem_append_left _ (List.mem_append_left _ (List.mem_append_left _ (List.mem_append_left _ (List.mem_append_right _ h))))))
theorem inlX5 : ∀ w ∈ wsX50, w ∈ wsL_law := fun _ h => List.mem_append_left _ (List.mem_append_left _ (List.mem_append_left _ (List.mem_append_left _ (List.mem_append_left _ (List.mem_append_right _ h)))))
theorem inlX6 : ∀ w ∈ wsX60, w ∈ wsL_law := fun _ h => List.mem_append_left _ (List.mem_append_left _ (List.mem_append_left _ (List.mem_append_left _ (List.mem_append_left _ (List.mem_append_left _ (List.mem_append_left _ (List.mem_append_left _ (List.mem_append_left _ (List.mem_append_left _ (List.mem_append_left _ (List.mem_append_right _ h)))))))))))
theorem inlX7 : ∀ w ∈ wsX70, w ∈ wsL_law := fun _ h => List.mem_append_left _ (List.mem_append_left _ (List.mem_append_left _ (List.mem_append_left _ (List.mem_append_left _ (List.mem_append_left _ (List.mem_append_left _ (List.mem_append_left _ (List.mem_append_left _ (List.mem_append_left _ (List.mem_append_left _ (List.mem_append_left _ (List.mem_append_right _ h))))))))))))
theorem inlX8 : ∀ w ∈ wsX80, w ∈ wsL_law := fun _ h => List.mem_append_left _ (List.mem_append_left _ (List.mem_append_left _ (List.mem_append_left _ (List.mem_append_right _ h))))
abbrev vwCl : List vw_C := [(RX0, TX0, 3), (RX1, TX1, 6), (RX2, TX2, 2), (RX3, TX3, 11), (RX4, TX4, 2), (RX5, TX5, 13), (RX6, TX6, 11), (RX7, TX7, 9), (RJ4, TJ4, 4)]
