def RX0 : String := "LastCalled$Careful"
def TX0 : u_T := fun k => match k with
  | _ => ("", "", "", false)
def tyX0 : Nat → FieldType := fun k => match k with
  | _ => .int
theorem nmX0 : ∀ a, a < 0 → ∀ b, b < 0 → a ≠ b → (TX0 a).2.1 ≠ (TX0 b).2.1 := by decide +kernel
theorem tyX0_ok : ∀ k, k < 0 → parseFieldDescriptor (TX0 k).2.2.1 = some (tyX0 k) := by decide +kernel
abbrev cX0_init : ByteArray := prog_2_method_1_code
def yX0_init : MethodName := ⟨RX0, "<init>", "()V"⟩
abbrev cX0_turns : ByteArray := prog_2_method_2_code
def yX0_turns : MethodName := ⟨RX0, "turns", "(IZZI)Z"⟩
def RX1 : String := "LastCalled$Child"
def TX1 : u_T := fun k => match k with
  | _ => ("", "", "", false)
def tyX1 : Nat → FieldType := fun k => match k with
  | _ => .int
theorem nmX1 : ∀ a, a < 0 → ∀ b, b < 0 → a ≠ b → (TX1 a).2.1 ≠ (TX1 b).2.1 := by decide +kernel
theorem tyX1_ok : ∀ k, k < 0 → parseFieldDescriptor (TX1 k).2.2.1 = some (tyX1 k) := by decide +kernel
abbrev cX1_init : ByteArray := prog_3_method_1_code
def yX1_init : MethodName := ⟨RX1, "<init>", "()V"⟩
abbrev cX1_turns : ByteArray := prog_3_method_2_code
def yX1_turns : MethodName := ⟨RX1, "turns", "(IZZI)Z"⟩
def RX2 : String := "LastCalled$Cliff"
def TX2 : u_T := fun k => match k with
  | _ => ("", "", "", false)
def tyX2 : Nat → FieldType := fun k => match k with
  | _ => .int
theorem nmX2 : ∀ a, a < 0 → ∀ b, b < 0 → a ≠ b → (TX2 a).2.1 ≠ (TX2 b).2.1 := by decide +kernel
theorem tyX2_ok : ∀ k, k < 0 → parseFieldDescriptor (TX2 k).2.2.1 = some (tyX2 k) := by decide +kernel
abbrev cX2_init : ByteArray := prog_4_method_1_code
def yX2_init : MethodName := ⟨RX2, "<init>", "()V"⟩
abbrev cX2_turns : ByteArray := prog_4_method_2_code
def yX2_turns : MethodName := ⟨RX2, "turns", "(IZZI)Z"⟩
def RX3 : String := "LastCalled$Deaf"
def TX3 : u_T := fun k => match k with
  | _ => ("", "", "", false)
def tyX3 : Nat → FieldType := fun k => match k with
  | _ => .int
theorem nmX3 : ∀ a, a < 0 → ∀ b, b < 0 → a ≠ b → (TX3 a).2.1 ≠ (TX3 b).2.1 := by decide +kernel
theorem tyX3_ok : ∀ k, k < 0 → parseFieldDescriptor (TX3 k).2.2.1 = some (tyX3 k) := by decide +kernel
abbrev cX3_init : ByteArray := prog_5_method_1_code
def yX3_init : MethodName := ⟨RX3, "<init>", "()V"⟩
abbrev cX3_turns : ByteArray := prog_5_method_2_code
def yX3_turns : MethodName := ⟨RX3, "turns", "(IZZI)Z"⟩
def RX4 : String := "LastCalled$Fraction"
def TX4 : u_T := fun k => match k with
  | 0 => ("LastCalled$Fraction", "above", "J", false)
  | _ => ("LastCalled$Fraction", "below", "J", false)
def tyX4 : Nat → FieldType := fun k => match k with
  | 0 => .long
  | _ => .long
theorem nmX4 : ∀ a, a < 2 → ∀ b, b < 2 → a ≠ b → (TX4 a).2.1 ≠ (TX4 b).2.1 := by decide +kernel
theorem tyX4_ok : ∀ k, k < 2 → parseFieldDescriptor (TX4 k).2.2.1 = some (tyX4 k) := by decide +kernel
abbrev cX4_init : ByteArray := prog_6_method_1_code
def yX4_init : MethodName := ⟨RX4, "<init>", "()V"⟩
abbrev cX4_become : ByteArray := prog_6_method_2_code
def yX4_become : MethodName := ⟨RX4, "become", "(JJ)V"⟩
abbrev cX4_commonDivisor : ByteArray := prog_6_method_3_code
def yX4_commonDivisor : MethodName := ⟨RX4, "commonDivisor", "(JJ)J"⟩
def RX5 : String := "LastCalled$Hamlet"
def TX5 : u_T := fun k => match k with
  | 0 => ("LastCalled$Hamlet", "date", "I", false)
  | 1 => ("LastCalled$Hamlet", "people", "I", false)
  | 2 => ("LastCalled$Hamlet", "kinds", "[I", true)
  | 3 => ("LastCalled$Hamlet", "places", "[I", true)
  | 4 => ("LastCalled$Hamlet", "bearing", "[I", true)
  | 5 => ("LastCalled$Hamlet", "deeds", "I", false)
  | 6 => ("LastCalled$Hamlet", "deedNames", "[I", true)
  | 7 => ("LastCalled$Hamlet", "deedPence", "[I", true)
  | 8 => ("LastCalled$Hamlet", "notes", "I", false)
  | 9 => ("LastCalled$Hamlet", "noted", "[I", true)
  | 10 => ("LastCalled$Hamlet", "pasts", "I", false)
  | _ => ("LastCalled$Hamlet", "past", "[I", true)
def tyX5 : Nat → FieldType := fun k => match k with
  | 0 => .int
  | 1 => .int
  | 2 => .array .int
  | 3 => .array .int
  | 4 => .array .int
  | 5 => .int
  | 6 => .array .int
  | 7 => .array .int
  | 8 => .int
  | 9 => .array .int
  | 10 => .int
  | _ => .array .int
theorem nmX5 : ∀ a, a < 12 → ∀ b, b < 12 → a ≠ b → (TX5 a).2.1 ≠ (TX5 b).2.1 := by decide +kernel
theorem tyX5_ok : ∀ k, k < 12 → parseFieldDescriptor (TX5 k).2.2.1 = some (tyX5 k) := by decide +kernel
abbrev cX5_init : ByteArray := prog_7_method_1_code
def yX5_init : MethodName := ⟨RX5, "<init>", "()V"⟩
abbrev cX5_begin : ByteArray := prog_7_method_2_code
def yX5_begin : MethodName := ⟨RX5, "begin", "(I)V"⟩
abbrev cX5_copyFrom : ByteArray := prog_7_method_3_code
def yX5_copyFrom : MethodName := ⟨RX5, "copyFrom", "(LLastCalled$Hamlet;)V"⟩
abbrev cX5_join : ByteArray := prog_7_method_4_code
def yX5_join : MethodName := ⟨RX5, "join", "(II)V"⟩
abbrev cX5_nameOf : ByteArray := prog_7_method_5_code
def yX5_nameOf : MethodName := ⟨RX5, "nameOf", "(I)I"⟩
abbrev cX5_give : ByteArray := prog_7_method_6_code
def yX5_give : MethodName := ⟨RX5, "give", "(II)V"⟩
abbrev cX5_penceOn : ByteArray := prog_7_method_7_code
def yX5_penceOn : MethodName := ⟨RX5, "penceOn", "(I)I"⟩
abbrev cX5_write : ByteArray := prog_7_method_8_code
def yX5_write : MethodName := ⟨RX5, "write", "(IIIII)V"⟩
abbrev cX5_remember : ByteArray := prog_7_method_9_code
def yX5_remember : MethodName := ⟨RX5, "remember", "()V"⟩
abbrev cX5_goBack : ByteArray := prog_7_method_10_code
def yX5_goBack : MethodName := ⟨RX5, "goBack", "()V"⟩
abbrev cX5_mixInto : ByteArray := prog_7_method_11_code
def yX5_mixInto : MethodName := ⟨RX5, "mixInto", "(J)J"⟩
def RX6 : String := "LastCalled$Hearing"
def TX6 : u_T := fun k => match k with
  | 0 => ("LastCalled$Hearing", "kinds", "[LLastCalled$Plain;", true)
  | 1 => ("LastCalled$Hearing", "atOwn", "[I", true)
  | 2 => ("LastCalled$Hearing", "atOthers", "[I", true)
  | _ => ("LastCalled$Hearing", "atNobodys", "[I", true)
def tyX6 : Nat → FieldType := fun k => match k with
  | 0 => .array (.object "LastCalled$Plain")
  | 1 => .array .int
  | 2 => .array .int
  | _ => .array .int
theorem nmX6 : ∀ a, a < 4 → ∀ b, b < 4 → a ≠ b → (TX6 a).2.1 ≠ (TX6 b).2.1 := by decide +kernel
theorem tyX6_ok : ∀ k, k < 4 → parseFieldDescriptor (TX6 k).2.2.1 = some (tyX6 k) := by decide +kernel
abbrev cX6_init : ByteArray := prog_8_method_1_code
def yX6_init : MethodName := ⟨RX6, "<init>", "()V"⟩
abbrev cX6_turnsAs : ByteArray := prog_8_method_2_code
def yX6_turnsAs : MethodName := ⟨RX6, "turnsAs", "(IIZZI)Z"⟩
abbrev cX6_listen : ByteArray := prog_8_method_3_code
def yX6_listen : MethodName := ⟨RX6, "listen", "(LLastCalled$Hamlet;)V"⟩
abbrev cX6_listenAt : ByteArray := prog_8_method_4_code
def yX6_listenAt : MethodName := ⟨RX6, "listenAt", "(LLastCalled$Hamlet;I)V"⟩
abbrev cX6_turners : ByteArray := prog_8_method_5_code
def yX6_turners : MethodName := ⟨RX6, "turners", "([III)I"⟩
def RX7 : String := "LastCalled$Plain"
def TX7 : u_T := fun k => match k with
  | _ => ("", "", "", false)
def tyX7 : Nat → FieldType := fun k => match k with
  | _ => .int
theorem nmX7 : ∀ a, a < 0 → ∀ b, b < 0 → a ≠ b → (TX7 a).2.1 ≠ (TX7 b).2.1 := by decide +kernel
theorem tyX7_ok : ∀ k, k < 0 → parseFieldDescriptor (TX7 k).2.2.1 = some (tyX7 k) := by decide +kernel
abbrev cX7_init : ByteArray := prog_9_method_1_code
def yX7_init : MethodName := ⟨RX7, "<init>", "()V"⟩
abbrev cX7_turns : ByteArray := prog_9_method_2_code
def yX7_turns : MethodName := ⟨RX7, "turns", "(IZZI)Z"⟩
def RX8 : String := "LastCalled$Search"
def TX8 : u_T := fun k => match k with
  | 0 => ("LastCalled$Search", "behind", "[I", true)
  | 1 => ("LastCalled$Search", "fewest", "I", false)
  | 2 => ("LastCalled$Search", "first", "I", false)
  | _ => ("LastCalled$Search", "most", "I", false)
def tyX8 : Nat → FieldType := fun k => match k with
  | 0 => .array .int
  | 1 => .int
  | 2 => .int
  | _ => .int
theorem nmX8 : ∀ a, a < 4 → ∀ b, b < 4 → a ≠ b → (TX8 a).2.1 ≠ (TX8 b).2.1 := by decide +kernel
theorem tyX8_ok : ∀ k, k < 4 → parseFieldDescriptor (TX8 k).2.2.1 = some (tyX8 k) := by decide +kernel
abbrev cX8_init : ByteArray := prog_10_method_1_code
def yX8_init : MethodName := ⟨RX8, "<init>", "()V"⟩
abbrev cX8_toBear : ByteArray := prog_10_method_2_code
def yX8_toBear : MethodName := ⟨RX8, "toBear", "(LLastCalled$Hamlet;LLastCalled$Hearing;II)V"⟩
abbrev cX8_lastCall : ByteArray := prog_10_method_3_code
def yX8_lastCall : MethodName := ⟨RX8, "lastCall", "([ILLastCalled$Hearing;II)I"⟩
abbrev cX8_ownAgain : ByteArray := prog_10_method_4_code
def yX8_ownAgain : MethodName := ⟨RX8, "ownAgain", "(LLastCalled$Hamlet;LLastCalled$Hearing;)V"⟩
abbrev cX8_tryLastCalls : ByteArray := prog_10_method_5_code
def yX8_tryLastCalls : MethodName := ⟨RX8, "tryLastCalls", "([ILLastCalled$Hearing;II)V"⟩
abbrev cX8_ownersBehind : ByteArray := prog_10_method_6_code
def yX8_ownersBehind : MethodName := ⟨RX8, "ownersBehind", "(III)I"⟩
abbrev cX8_callOnce : ByteArray := prog_10_method_7_code
def yX8_callOnce : MethodName := ⟨RX8, "callOnce", "(LLastCalled$Hamlet;LLastCalled$Hearing;I)V"⟩
abbrev cX8_ownersBehindWeeks : ByteArray := prog_10_method_8_code
def yX8_ownersBehindWeeks : MethodName := ⟨RX8, "ownersBehindWeeks", "(LLastCalled$Hamlet;LLastCalled$Hearing;II)I"⟩
def RX9 : String := "LastCalled$Sheep"
def TX9 : u_T := fun k => match k with
  | _ => ("", "", "", false)
def tyX9 : Nat → FieldType := fun k => match k with
  | _ => .int
theorem nmX9 : ∀ a, a < 0 → ∀ b, b < 0 → a ≠ b → (TX9 a).2.1 ≠ (TX9 b).2.1 := by decide +kernel
theorem tyX9_ok : ∀ k, k < 0 → parseFieldDescriptor (TX9 k).2.2.1 = some (tyX9 k) := by decide +kernel
abbrev cX9_init : ByteArray := prog_11_method_1_code
def yX9_init : MethodName := ⟨RX9, "<init>", "()V"⟩
abbrev cX9_turns : ByteArray := prog_11_method_2_code
def yX9_turns : MethodName := ⟨RX9, "turns", "(IZZI)Z"⟩
def RX10 : String := "LastCalled$Text"
def TX10 : u_T := fun k => match k with
  | 0 => ("LastCalled$Text", "bytes", "[B", true)
  | 1 => ("LastCalled$Text", "length", "I", false)
  | 2 => ("LastCalled$Text", "sort", "I", false)
  | 3 => ("LastCalled$Text", "start", "I", false)
  | 4 => ("LastCalled$Text", "end", "I", false)
  | _ => ("LastCalled$Text", "value", "I", false)
def tyX10 : Nat → FieldType := fun k => match k with
  | 0 => .array .byte
  | 1 => .int
  | 2 => .int
  | 3 => .int
  | 4 => .int
  | _ => .int
theorem nmX10 : ∀ a, a < 6 → ∀ b, b < 6 → a ≠ b → (TX10 a).2.1 ≠ (TX10 b).2.1 := by decide +kernel
theorem tyX10_ok : ∀ k, k < 6 → parseFieldDescriptor (TX10 k).2.2.1 = some (tyX10 k) := by decide +kernel
abbrev cX10_init : ByteArray := prog_12_method_1_code
def yX10_init : MethodName := ⟨RX10, "<init>", "()V"⟩
abbrev cX10_append : ByteArray := prog_12_method_2_code
def yX10_append : MethodName := ⟨RX10, "append", "(I)V"⟩
abbrev cX10_tell : ByteArray := prog_12_method_3_code
def yX10_tell : MethodName := ⟨RX10, "tell", "(LLastCalled$Hamlet;)I"⟩
abbrev cX10_isItem : ByteArray := prog_12_method_4_code
def yX10_isItem : MethodName := ⟨RX10, "isItem", "(LLastCalled$Hamlet;)Z"⟩
abbrev cX10_isOne : ByteArray := prog_12_method_5_code
def yX10_isOne : MethodName := ⟨RX10, "isOne", "(LLastCalled$Hamlet;)Z"⟩
abbrev cX10_isBears : ByteArray := prog_12_method_6_code
def yX10_isBears : MethodName := ⟨RX10, "isBears", "(LLastCalled$Hamlet;)Z"⟩
abbrev cX10_isNone : ByteArray := prog_12_method_7_code
def yX10_isNone : MethodName := ⟨RX10, "isNone", "(LLastCalled$Hamlet;)Z"⟩
abbrev cX10_isNumberNext : ByteArray := prog_12_method_8_code
def yX10_isNumberNext : MethodName := ⟨RX10, "isNumberNext", "(I)Z"⟩
abbrev cX10_isWord : ByteArray := prog_12_method_9_code
def yX10_isWord : MethodName := ⟨RX10, "isWord", "(Ljava/lang/String;)Z"⟩
abbrev cX10_advance : ByteArray := prog_12_method_10_code
def yX10_advance : MethodName := ⟨RX10, "advance", "()V"⟩
abbrev cX10_sortOf : ByteArray := prog_12_method_11_code
def yX10_sortOf : MethodName := ⟨RX10, "sortOf", "(I)I"⟩
def RX11 : String := "LastCalled"
def TX11 : u_T := fun k => match k with
  | 0 => ("LastCalled", "now", "LLastCalled$Hamlet;", true)
  | 1 => ("LastCalled", "draft", "LLastCalled$Hamlet;", true)
  | 2 => ("LastCalled", "images", "[LLastCalled$Hamlet;", true)
  | 3 => ("LastCalled", "kept", "[Z", true)
  | 4 => ("LastCalled", "text", "LLastCalled$Text;", true)
  | 5 => ("LastCalled", "fraction", "LLastCalled$Fraction;", true)
  | 6 => ("LastCalled", "hearing", "LLastCalled$Hearing;", true)
  | 7 => ("LastCalled", "search", "LLastCalled$Search;", true)
  | _ => ("LastCalled", "refused", "[I", true)
def tyX11 : Nat → FieldType := fun k => match k with
  | 0 => .object "LastCalled$Hamlet"
  | 1 => .object "LastCalled$Hamlet"
  | 2 => .array (.object "LastCalled$Hamlet")
  | 3 => .array .boolean
  | 4 => .object "LastCalled$Text"
  | 5 => .object "LastCalled$Fraction"
  | 6 => .object "LastCalled$Hearing"
  | 7 => .object "LastCalled$Search"
  | _ => .array .int
theorem nmX11 : ∀ a, a < 9 → ∀ b, b < 9 → a ≠ b → (TX11 a).2.1 ≠ (TX11 b).2.1 := by decide +kernel
theorem tyX11_ok : ∀ k, k < 9 → parseFieldDescriptor (TX11 k).2.2.1 = some (tyX11 k) := by decide +kernel
abbrev cX11_init : ByteArray := prog_1_method_1_code
def yX11_init : MethodName := ⟨RX11, "<init>", "()V"⟩
abbrev cX11_hamlet : ByteArray := prog_1_method_2_code
def yX11_hamlet : MethodName := ⟨RX11, "hamlet", "(I)I"⟩
abbrev cX11_one : ByteArray := prog_1_method_3_code
def yX11_one : MethodName := ⟨RX11, "one", "(II)I"⟩
abbrev cX11_type : ByteArray := prog_1_method_4_code
def yX11_type : MethodName := ⟨RX11, "type", "(I)I"⟩
abbrev cX11_clear : ByteArray := prog_1_method_5_code
def yX11_clear : MethodName := ⟨RX11, "clear", "()I"⟩
abbrev cX11_read : ByteArray := prog_1_method_6_code
def yX11_read : MethodName := ⟨RX11, "read", "()I"⟩
abbrev cX11_call : ByteArray := prog_1_method_7_code
def yX11_call : MethodName := ⟨RX11, "call", "(II)I"⟩
abbrev cX11_goes : ByteArray := prog_1_method_8_code
def yX11_goes : MethodName := ⟨RX11, "goes", "(II)I"⟩
abbrev cX11_day : ByteArray := prog_1_method_9_code
def yX11_day : MethodName := ⟨RX11, "day", "()I"⟩
abbrev cX11_undo : ByteArray := prog_1_method_10_code
def yX11_undo : MethodName := ⟨RX11, "undo", "()I"⟩
abbrev cX11_of : ByteArray := prog_1_method_11_code
def yX11_of : MethodName := ⟨RX11, "of", "(II)I"⟩
abbrev cX11_turn : ByteArray := prog_1_method_12_code
def yX11_turn : MethodName := ⟨RX11, "turn", "(II)I"⟩
abbrev cX11_bearers : ByteArray := prog_1_method_13_code
def yX11_bearers : MethodName := ⟨RX11, "bearers", "(I)I"⟩
abbrev cX11_names : ByteArray := prog_1_method_14_code
def yX11_names : MethodName := ⟨RX11, "names", "(I)I"⟩
abbrev cX11_calls : ByteArray := prog_1_method_15_code
def yX11_calls : MethodName := ⟨RX11, "calls", "(III)I"⟩
abbrev cX11_own : ByteArray := prog_1_method_16_code
def yX11_own : MethodName := ⟨RX11, "own", "(I)I"⟩
abbrev cX11_ring : ByteArray := prog_1_method_17_code
def yX11_ring : MethodName := ⟨RX11, "ring", "(I)I"⟩
abbrev cX11_deed : ByteArray := prog_1_method_18_code
def yX11_deed : MethodName := ⟨RX11, "deed", "(II)I"⟩
abbrev cX11_owes : ByteArray := prog_1_method_19_code
def yX11_owes : MethodName := ⟨RX11, "owes", "(I)I"⟩
abbrev cX11_unpaid : ByteArray := prog_1_method_20_code
def yX11_unpaid : MethodName := ⟨RX11, "unpaid", "()I"⟩
abbrev cX11_ears : ByteArray := prog_1_method_21_code
def yX11_ears : MethodName := ⟨RX11, "ears", "(IIII)I"⟩
abbrev cX11_note : ByteArray := prog_1_method_22_code
def yX11_note : MethodName := ⟨RX11, "note", "(IIIII)I"⟩
abbrev cX11_forget : ByteArray := prog_1_method_23_code
def yX11_forget : MethodName := ⟨RX11, "forget", "(I)I"⟩
abbrev cX11_is : ByteArray := prog_1_method_24_code
def yX11_is : MethodName := ⟨RX11, "is", "(I)I"⟩
abbrev cX11_stood : ByteArray := prog_1_method_25_code
def yX11_stood : MethodName := ⟨RX11, "stood", "(I)I"⟩
abbrev cX11_next : ByteArray := prog_1_method_26_code
def yX11_next : MethodName := ⟨RX11, "next", "(I)I"⟩
abbrev cX11_trippers : ByteArray := prog_1_method_27_code
def yX11_trippers : MethodName := ⟨RX11, "trippers", "(IIII)I"⟩
abbrev cX11_weeks : ByteArray := prog_1_method_28_code
def yX11_weeks : MethodName := ⟨RX11, "weeks", "(II)I"⟩
abbrev cX11_part : ByteArray := prog_1_method_29_code
def yX11_part : MethodName := ⟨RX11, "part", "(I)J"⟩
abbrev cX11_image : ByteArray := prog_1_method_30_code
def yX11_image : MethodName := ⟨RX11, "image", "(I)I"⟩
abbrev cX11_from : ByteArray := prog_1_method_31_code
def yX11_from : MethodName := ⟨RX11, "from", "(I)I"⟩
abbrev cX11_status : ByteArray := prog_1_method_32_code
def yX11_status : MethodName := ⟨RX11, "status", "(I)I"⟩
abbrev cX11_count : ByteArray := prog_1_method_33_code
def yX11_count : MethodName := ⟨RX11, "count", "(I)I"⟩
abbrev cX11_digest : ByteArray := prog_1_method_34_code
def yX11_digest : MethodName := ⟨RX11, "digest", "()J"⟩
abbrev cX11_within : ByteArray := prog_1_method_35_code
def yX11_within : MethodName := ⟨RX11, "within", "(II)Z"⟩
abbrev cX11_bit : ByteArray := prog_1_method_36_code
def yX11_bit : MethodName := ⟨RX11, "bit", "(II)I"⟩
abbrev cX11_isThere : ByteArray := prog_1_method_37_code
def yX11_isThere : MethodName := ⟨RX11, "isThere", "(I)Z"⟩
abbrev cX11_refuse : ByteArray := prog_1_method_38_code
def yX11_refuse : MethodName := ⟨RX11, "refuse", "(I)I"⟩
abbrev cX11_amount : ByteArray := prog_1_method_39_code
def yX11_amount : MethodName := ⟨RX11, "amount", "(I)I"⟩
abbrev cX11_turnersAt : ByteArray := prog_1_method_40_code
def yX11_turnersAt : MethodName := ⟨RX11, "turnersAt", "(II)I"⟩
abbrev cX11_settle : ByteArray := prog_1_method_41_code
def yX11_settle : MethodName := ⟨RX11, "settle", "([III)V"⟩
abbrev cX11_bearersBehind : ByteArray := prog_1_method_42_code
def yX11_bearersBehind : MethodName := ⟨RX11, "bearersBehind", "(II)I"⟩
abbrev cX11_owners : ByteArray := prog_1_method_43_code
def yX11_owners : MethodName := ⟨RX11, "owners", "([I)I"⟩
abbrev cX11_stopped : ByteArray := prog_1_method_44_code
def yX11_stopped : MethodName := ⟨RX11, "stopped", "(III)I"⟩
abbrev cX11_fits : ByteArray := prog_1_method_45_code
def yX11_fits : MethodName := ⟨RX11, "fits", "(III)Z"⟩
abbrev cX11_placesThatFit : ByteArray := prog_1_method_46_code
def yX11_placesThatFit : MethodName := ⟨RX11, "placesThatFit", "(I)I"⟩
abbrev cX11_placesTurningAt : ByteArray := prog_1_method_47_code
def yX11_placesTurningAt : MethodName := ⟨RX11, "placesTurningAt", "(II)I"⟩
def RX12 : String := "LastCalledModel"
def TX12 : u_T := fun k => match k with
  | 0 => ("LastCalledModel", "now", "[I", true)
  | 1 => ("LastCalledModel", "kept", "[I", true)
  | 2 => ("LastCalledModel", "isKept", "[Z", true)
  | 3 => ("LastCalledModel", "refused", "[I", true)
  | 4 => ("LastCalledModel", "above", "J", false)
  | 5 => ("LastCalledModel", "below", "J", false)
  | 6 => ("LastCalledModel", "named", "[I", true)
  | 7 => ("LastCalledModel", "fewest", "I", false)
  | 8 => ("LastCalledModel", "firstCall", "I", false)
  | 9 => ("LastCalledModel", "mostOwn", "I", false)
  | 10 => ("LastCalledModel", "bearing", "[I", true)
  | 11 => ("LastCalledModel", "bytes", "[I", true)
  | 12 => ("LastCalledModel", "bytesLong", "I", false)
  | 13 => ("LastCalledModel", "tokenAt", "I", false)
  | 14 => ("LastCalledModel", "tokenLong", "I", false)
  | 15 => ("LastCalledModel", "token", "I", false)
  | 16 => ("LastCalledModel", "value", "I", false)
  | 17 => ("LastCalledModel", "anew", "[I", true)
  | _ => ("LastCalledModel", "values", "[I", true)
def tyX12 : Nat → FieldType := fun k => match k with
  | 0 => .array .int
  | 1 => .array .int
  | 2 => .array .boolean
  | 3 => .array .int
  | 4 => .long
  | 5 => .long
  | 6 => .array .int
  | 7 => .int
  | 8 => .int
  | 9 => .int
  | 10 => .array .int
  | 11 => .array .int
  | 12 => .int
  | 13 => .int
  | 14 => .int
  | 15 => .int
  | 16 => .int
  | 17 => .array .int
  | _ => .array .int
theorem nmX12 : ∀ a, a < 19 → ∀ b, b < 19 → a ≠ b → (TX12 a).2.1 ≠ (TX12 b).2.1 := by decide +kernel
theorem tyX12_ok : ∀ k, k < 19 → parseFieldDescriptor (TX12 k).2.2.1 = some (tyX12 k) := by decide +kernel
abbrev cX12_init : ByteArray := prog_14_method_1_code
def yX12_init : MethodName := ⟨RX12, "<init>", "()V"⟩
abbrev cX12_in : ByteArray := prog_14_method_3_code
def yX12_in : MethodName := ⟨RX12, "in", "(JJJ)Z"⟩
abbrev cX12_bad : ByteArray := prog_14_method_4_code
def yX12_bad : MethodName := ⟨RX12, "bad", "(I)I"⟩
abbrev cX12_no : ByteArray := prog_14_method_5_code
def yX12_no : MethodName := ⟨RX12, "no", "()I"⟩
abbrev cX12_full : ByteArray := prog_14_method_6_code
def yX12_full : MethodName := ⟨RX12, "full", "()I"⟩
abbrev cX12_bits : ByteArray := prog_14_method_7_code
def yX12_bits : MethodName := ⟨RX12, "bits", "(I)I"⟩
abbrev cX12_has : ByteArray := prog_14_method_8_code
def yX12_has : MethodName := ⟨RX12, "has", "(II)Z"⟩
abbrev cX12_begin : ByteArray := prog_14_method_9_code
def yX12_begin : MethodName := ⟨RX12, "begin", "([II)V"⟩
abbrev cX12_many : ByteArray := prog_14_method_10_code
def yX12_many : MethodName := ⟨RX12, "many", "()I"⟩
abbrev cX12_isOne : ByteArray := prog_14_method_11_code
def yX12_isOne : MethodName := ⟨RX12, "isOne", "(I)Z"⟩
abbrev cX12_isPlace : ByteArray := prog_14_method_12_code
def yX12_isPlace : MethodName := ⟨RX12, "isPlace", "(I)Z"⟩
abbrev cX12_hamlet : ByteArray := prog_14_method_13_code
def yX12_hamlet : MethodName := ⟨RX12, "hamlet", "(I)I"⟩
abbrev cX12_layOne : ByteArray := prog_14_method_14_code
def yX12_layOne : MethodName := ⟨RX12, "layOne", "([III)V"⟩
abbrev cX12_one : ByteArray := prog_14_method_15_code
def yX12_one : MethodName := ⟨RX12, "one", "(II)I"⟩
abbrev cX12_turnsAs : ByteArray := prog_14_method_16_code
def yX12_turnsAs : MethodName := ⟨RX12, "turnsAs", "(IIZZI)Z"⟩
abbrev cX12_farOf : ByteArray := prog_14_method_17_code
def yX12_farOf : MethodName := ⟨RX12, "farOf", "(II)I"⟩
abbrev cX12_layHand : ByteArray := prog_14_method_18_code
def yX12_layHand : MethodName := ⟨RX12, "layHand", "()V"⟩
abbrev cX12_bearersOf : ByteArray := prog_14_method_19_code
def yX12_bearersOf : MethodName := ⟨RX12, "bearersOf", "(I)I"⟩
abbrev cX12_turning : ByteArray := prog_14_method_20_code
def yX12_turning : MethodName := ⟨RX12, "turning", "(II)I"⟩
abbrev cX12_goTurn : ByteArray := prog_14_method_21_code
def yX12_goTurn : MethodName := ⟨RX12, "goTurn", "(II)V"⟩
abbrev cX12_goCall : ByteArray := prog_14_method_22_code
def yX12_goCall : MethodName := ⟨RX12, "goCall", "(II)I"⟩
abbrev cX12_ownNow : ByteArray := prog_14_method_23_code
def yX12_ownNow : MethodName := ⟨RX12, "ownNow", "()I"⟩
abbrev cX12_keep : ByteArray := prog_14_method_24_code
def yX12_keep : MethodName := ⟨RX12, "keep", "()V"⟩
abbrev cX12_call : ByteArray := prog_14_method_25_code
def yX12_call : MethodName := ⟨RX12, "call", "(II)I"⟩
abbrev cX12_goes : ByteArray := prog_14_method_26_code
def yX12_goes : MethodName := ⟨RX12, "goes", "(II)I"⟩
abbrev cX12_day : ByteArray := prog_14_method_27_code
def yX12_day : MethodName := ⟨RX12, "day", "()I"⟩
abbrev cX12_undo : ByteArray := prog_14_method_28_code
def yX12_undo : MethodName := ⟨RX12, "undo", "()I"⟩
abbrev cX12_of : ByteArray := prog_14_method_29_code
def yX12_of : MethodName := ⟨RX12, "of", "(II)I"⟩
abbrev cX12_turn : ByteArray := prog_14_method_30_code
def yX12_turn : MethodName := ⟨RX12, "turn", "(II)I"⟩
abbrev cX12_bearers : ByteArray := prog_14_method_31_code
def yX12_bearers : MethodName := ⟨RX12, "bearers", "(I)I"⟩
abbrev cX12_names : ByteArray := prog_14_method_32_code
def yX12_names : MethodName := ⟨RX12, "names", "(I)I"⟩
abbrev cX12_goCodes : ByteArray := prog_14_method_33_code
def yX12_goCodes : MethodName := ⟨RX12, "goCodes", "(II)V"⟩
abbrev cX12_layCalls : ByteArray := prog_14_method_34_code
def yX12_layCalls : MethodName := ⟨RX12, "layCalls", "(II)V"⟩
abbrev cX12_calls : ByteArray := prog_14_method_35_code
def yX12_calls : MethodName := ⟨RX12, "calls", "(III)I"⟩
abbrev cX12_judgeOwn : ByteArray := prog_14_method_36_code
def yX12_judgeOwn : MethodName := ⟨RX12, "judgeOwn", "(II)V"⟩
abbrev cX12_layOwn : ByteArray := prog_14_method_37_code
def yX12_layOwn : MethodName := ⟨RX12, "layOwn", "()V"⟩
abbrev cX12_own : ByteArray := prog_14_method_38_code
def yX12_own : MethodName := ⟨RX12, "own", "(I)I"⟩
abbrev cX12_ring : ByteArray := prog_14_method_39_code
def yX12_ring : MethodName := ⟨RX12, "ring", "(I)I"⟩
abbrev cX12_deed : ByteArray := prog_14_method_40_code
def yX12_deed : MethodName := ⟨RX12, "deed", "(II)I"⟩
abbrev cX12_penceOn : ByteArray := prog_14_method_41_code
def yX12_penceOn : MethodName := ⟨RX12, "penceOn", "(I)I"⟩
abbrev cX12_fraction : ByteArray := prog_14_method_42_code
def yX12_fraction : MethodName := ⟨RX12, "fraction", "(JJ)V"⟩
abbrev cX12_owes : ByteArray := prog_14_method_43_code
def yX12_owes : MethodName := ⟨RX12, "owes", "(I)I"⟩
abbrev cX12_unpaid : ByteArray := prog_14_method_44_code
def yX12_unpaid : MethodName := ⟨RX12, "unpaid", "()I"⟩
abbrev cX12_ears : ByteArray := prog_14_method_45_code
def yX12_ears : MethodName := ⟨RX12, "ears", "(IIII)I"⟩
abbrev cX12_note : ByteArray := prog_14_method_46_code
def yX12_note : MethodName := ⟨RX12, "note", "(IIIII)I"⟩
abbrev cX12_forget : ByteArray := prog_14_method_47_code
def yX12_forget : MethodName := ⟨RX12, "forget", "(I)I"⟩
abbrev cX12_areSo : ByteArray := prog_14_method_48_code
def yX12_areSo : MethodName := ⟨RX12, "areSo", "(III)Z"⟩
abbrev cX12_is : ByteArray := prog_14_method_49_code
def yX12_is : MethodName := ⟨RX12, "is", "(I)I"⟩
abbrev cX12_placesOf : ByteArray := prog_14_method_50_code
def yX12_placesOf : MethodName := ⟨RX12, "placesOf", "(I)I"⟩
abbrev cX12_stood : ByteArray := prog_14_method_51_code
def yX12_stood : MethodName := ⟨RX12, "stood", "(I)I"⟩
abbrev cX12_next : ByteArray := prog_14_method_52_code
def yX12_next : MethodName := ⟨RX12, "next", "(I)I"⟩
abbrev cX12_trippers : ByteArray := prog_14_method_53_code
def yX12_trippers : MethodName := ⟨RX12, "trippers", "(IIII)I"⟩
abbrev cX12_weeks : ByteArray := prog_14_method_54_code
def yX12_weeks : MethodName := ⟨RX12, "weeks", "(II)I"⟩
abbrev cX12_type : ByteArray := prog_14_method_55_code
def yX12_type : MethodName := ⟨RX12, "type", "(I)I"⟩
abbrev cX12_clear : ByteArray := prog_14_method_56_code
def yX12_clear : MethodName := ⟨RX12, "clear", "()I"⟩
abbrev cX12_isSmall : ByteArray := prog_14_method_57_code
def yX12_isSmall : MethodName := ⟨RX12, "isSmall", "(I)Z"⟩
abbrev cX12_isFigure : ByteArray := prog_14_method_58_code
def yX12_isFigure : MethodName := ⟨RX12, "isFigure", "(I)Z"⟩
abbrev cX12_lookAt : ByteArray := prog_14_method_59_code
def yX12_lookAt : MethodName := ⟨RX12, "lookAt", "(I)V"⟩
abbrev cX12_goBehind : ByteArray := prog_14_method_60_code
def yX12_goBehind : MethodName := ⟨RX12, "goBehind", "()V"⟩
abbrev cX12_spells : ByteArray := prog_14_method_61_code
def yX12_spells : MethodName := ⟨RX12, "spells", "(IIIIIII)Z"⟩
abbrev cX12_takes : ByteArray := prog_14_method_62_code
def yX12_takes : MethodName := ⟨RX12, "takes", "(III)Z"⟩
abbrev cX12_takesHamlet : ByteArray := prog_14_method_63_code
def yX12_takesHamlet : MethodName := ⟨RX12, "takesHamlet", "()Z"⟩
abbrev cX12_takesOne : ByteArray := prog_14_method_64_code
def yX12_takesOne : MethodName := ⟨RX12, "takesOne", "()Z"⟩
abbrev cX12_takesBears : ByteArray := prog_14_method_65_code
def yX12_takesBears : MethodName := ⟨RX12, "takesBears", "(Z)Z"⟩
abbrev cX12_takesItem : ByteArray := prog_14_method_66_code
def yX12_takesItem : MethodName := ⟨RX12, "takesItem", "()Z"⟩
abbrev cX12_read : ByteArray := prog_14_method_67_code
def yX12_read : MethodName := ⟨RX12, "read", "()I"⟩
abbrev cX12_part : ByteArray := prog_14_method_68_code
def yX12_part : MethodName := ⟨RX12, "part", "(I)J"⟩
abbrev cX12_image : ByteArray := prog_14_method_69_code
def yX12_image : MethodName := ⟨RX12, "image", "(I)I"⟩
abbrev cX12_from : ByteArray := prog_14_method_70_code
def yX12_from : MethodName := ⟨RX12, "from", "(I)I"⟩
abbrev cX12_status : ByteArray := prog_14_method_71_code
def yX12_status : MethodName := ⟨RX12, "status", "(I)I"⟩
abbrev cX12_counted : ByteArray := prog_14_method_72_code
def yX12_counted : MethodName := ⟨RX12, "counted", "(I)I"⟩
abbrev cX12_count : ByteArray := prog_14_method_73_code
def yX12_count : MethodName := ⟨RX12, "count", "(I)I"⟩
abbrev cX12_sums : ByteArray := prog_14_method_74_code
def yX12_sums : MethodName := ⟨RX12, "sums", "(JII)J"⟩
abbrev cX12_digest : ByteArray := prog_14_method_75_code
def yX12_digest : MethodName := ⟨RX12, "digest", "()J"⟩
def RJ6 : String := "java/lang/Integer"
def TJ6 : u_T := fun k => match k with
  | _ => ("", "", "", false)
def tyJ6 : Nat → FieldType := fun k => match k with
  | _ => .int
theorem nmJ6 : ∀ a, a < 0 → ∀ b, b < 0 → a ≠ b → (TJ6 a).2.1 ≠ (TJ6 b).2.1 := by decide +kernel
theorem tyJ6_ok : ∀ k, k < 0 → parseFieldDescriptor (TJ6 k).2.2.1 = some (tyJ6 k) := by decide +kernel
abbrev cJ6_bitCount_0f7a4 : ByteArray := prog_15_method_49_code
def yJ6_bitCount_0f7a4 : MethodName := ⟨RJ6, "bitCount", "(I)I"⟩
def RJ9 : String := "java/lang/Math"
def TJ9 : u_T := fun k => match k with
  | _ => ("", "", "", false)
def tyJ9 : Nat → FieldType := fun k => match k with
  | _ => .int
theorem nmJ9 : ∀ a, a < 0 → ∀ b, b < 0 → a ≠ b → (TJ9 a).2.1 ≠ (TJ9 b).2.1 := by decide +kernel
theorem tyJ9_ok : ∀ k, k < 0 → parseFieldDescriptor (TJ9 k).2.2.1 = some (tyJ9 k) := by decide +kernel
abbrev cJ9_abs_0f7a4 : ByteArray := prog_16_method_59_code
def yJ9_abs_0f7a4 : MethodName := ⟨RJ9, "abs", "(I)I"⟩
abbrev cJ9_max_7cf53 : ByteArray := prog_16_method_65_code
def yJ9_max_7cf53 : MethodName := ⟨RJ9, "max", "(II)I"⟩
def RJ0 : String := "java/lang/String"
def TJ0 : u_T := fun k => match k with
  | _ => ("", "", "", false)
def tyJ0 : Nat → FieldType := fun k => match k with
  | _ => .int
theorem nmJ0 : ∀ a, a < 0 → ∀ b, b < 0 → a ≠ b → (TJ0 a).2.1 ≠ (TJ0 b).2.1 := by decide +kernel
theorem tyJ0_ok : ∀ k, k < 0 → parseFieldDescriptor (TJ0 k).2.2.1 = some (tyJ0 k) := by decide +kernel
abbrev cJ0_length_8abf5 : ByteArray := prog_17_method_54_code
def yJ0_length_8abf5 : MethodName := ⟨RJ0, "length", "()I"⟩
abbrev cJ0_charAt_5068e : ByteArray := prog_17_method_56_code
def yJ0_charAt_5068e : MethodName := ⟨RJ0, "charAt", "(I)C"⟩
abbrev cJ0_coder_7d493 : ByteArray := prog_17_method_152_code
def yJ0_coder_7d493 : MethodName := ⟨RJ0, "coder", "()B"⟩
abbrev cJ0_isLatin1_aae02 : ByteArray := prog_17_method_154_code
def yJ0_isLatin1_aae02 : MethodName := ⟨RJ0, "isLatin1", "()Z"⟩
abbrev cJ0_checkIndex_df160 : ByteArray := prog_17_method_155_code
def yJ0_checkIndex_df160 : MethodName := ⟨RJ0, "checkIndex", "(II)V"⟩
def RJ1 : String := "java/lang/StringLatin1"
def TJ1 : u_T := fun k => match k with
  | _ => ("", "", "", false)
def tyJ1 : Nat → FieldType := fun k => match k with
  | _ => .int
theorem nmJ1 : ∀ a, a < 0 → ∀ b, b < 0 → a ≠ b → (TJ1 a).2.1 ≠ (TJ1 b).2.1 := by decide +kernel
theorem tyJ1_ok : ∀ k, k < 0 → parseFieldDescriptor (TJ1 k).2.2.1 = some (tyJ1 k) := by decide +kernel
abbrev cJ1_charAt_3b067 : ByteArray := prog_18_method_2_code
def yJ1_charAt_3b067 : MethodName := ⟨RJ1, "charAt", "([BI)C"⟩
def RJ2 : String := "java/lang/StringUTF16"
def TJ2 : u_T := fun k => match k with
  | _ => ("", "", "", false)
def tyJ2 : Nat → FieldType := fun k => match k with
  | _ => .int
theorem nmJ2 : ∀ a, a < 0 → ∀ b, b < 0 → a ≠ b → (TJ2 a).2.1 ≠ (TJ2 b).2.1 := by decide +kernel
theorem tyJ2_ok : ∀ k, k < 0 → parseFieldDescriptor (TJ2 k).2.2.1 = some (tyJ2 k) := by decide +kernel
abbrev cJ2_getChar_3b067 : ByteArray := prog_19_method_5_code
def yJ2_getChar_3b067 : MethodName := ⟨RJ2, "getChar", "([BI)C"⟩
abbrev cJ2_length_9d52b : ByteArray := prog_19_method_6_code
def yJ2_length_9d52b : MethodName := ⟨RJ2, "length", "([B)I"⟩
abbrev cJ2_charAt_3b067 : ByteArray := prog_19_method_83_code
def yJ2_charAt_3b067 : MethodName := ⟨RJ2, "charAt", "([BI)C"⟩
abbrev cJ2_checkIndex_2214a : ByteArray := prog_19_method_91_code
def yJ2_checkIndex_2214a : MethodName := ⟨RJ2, "checkIndex", "(I[B)V"⟩
def RJ10 : String := "java/lang/System"
def TJ10 : u_T := fun k => match k with
  | _ => ("", "", "", false)
def tyJ10 : Nat → FieldType := fun k => match k with
  | _ => .int
theorem nmJ10 : ∀ a, a < 0 → ∀ b, b < 0 → a ≠ b → (TJ10 a).2.1 ≠ (TJ10 b).2.1 := by decide +kernel
theorem tyJ10_ok : ∀ k, k < 0 → parseFieldDescriptor (TJ10 k).2.2.1 = some (tyJ10 k) := by decide +kernel
def RJ7 : String := "java/util/Arrays"
def TJ7 : u_T := fun k => match k with
  | _ => ("", "", "", false)
def tyJ7 : Nat → FieldType := fun k => match k with
  | _ => .int
theorem nmJ7 : ∀ a, a < 0 → ∀ b, b < 0 → a ≠ b → (TJ7 a).2.1 ≠ (TJ7 b).2.1 := by decide +kernel
theorem tyJ7_ok : ∀ k, k < 0 → parseFieldDescriptor (TJ7 k).2.2.1 = some (tyJ7 k) := by decide +kernel
abbrev cJ7_fill_53178 : ByteArray := prog_21_method_103_code
def yJ7_fill_53178 : MethodName := ⟨RJ7, "fill", "([II)V"⟩
def RJ3 : String := "jdk/internal/util/Preconditions"
def TJ3 : u_T := fun k => match k with
  | _ => ("", "", "", false)
def tyJ3 : Nat → FieldType := fun k => match k with
  | _ => .int
theorem nmJ3 : ∀ a, a < 0 → ∀ b, b < 0 → a ≠ b → (TJ3 a).2.1 ≠ (TJ3 b).2.1 := by decide +kernel
theorem tyJ3_ok : ∀ k, k < 0 → parseFieldDescriptor (TJ3 k).2.2.1 = some (tyJ3 k) := by decide +kernel
abbrev cJ3_checkIndex_8e157 : ByteArray := prog_22_method_11_code
def yJ3_checkIndex_8e157 : MethodName := ⟨RJ3, "checkIndex", "(IILjava/util/function/BiFunction;)I"⟩
def RL : String := "LastCalledLaw"
abbrev cL_law : ByteArray := code
def yL_law : MethodName := ⟨RL, "law", "([I)Z"⟩
abbrev vwCl : List vw_C := [(RX0, TX0, 0), (RX1, TX1, 0), (RX2, TX2, 0), (RX3, TX3, 0), (RX4, TX4, 2), (RX5, TX5, 12), (RX6, TX6, 4), (RX7, TX7, 0), (RX8, TX8, 4), (RX9, TX9, 0), (RX10, TX10, 6), (RX11, TX11, 9), (RX12, TX12, 19)]
