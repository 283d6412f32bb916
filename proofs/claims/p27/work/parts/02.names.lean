/-! names: class names, fields, types, code and method names (begun from the task's printed names) -/
def RX0 : String := "SnapStacks$History"
def TX0 : u_T := fun k => match k with
  | 0 => ("SnapStacks$History", "states", "[LSnapStacks$State;", true)
  | 1 => ("SnapStacks$History", "oldest", "I", false)
  | _ => ("SnapStacks$History", "size", "I", false)
def tyX0 : Nat → FieldType := fun k => match k with
  | 0 => .array (.object "SnapStacks$State")
  | 1 => .int
  | _ => .int
abbrev wsX00 : List Cond := u_ws RX0 TX0 3
theorem nmX0 : ∀ a, a < 3 → ∀ b, b < 3 → a ≠ b → (TX0 a).2.1 ≠ (TX0 b).2.1 := by decide +kernel
theorem tyX0_ok : ∀ k, k < 3 → parseFieldDescriptor (TX0 k).2.2.1 = some (tyX0 k) := by decide +kernel
abbrev cX0_init : ByteArray := prog_2_method_1_code
def yX0_init : MethodName := ⟨RX0, "<init>", "()V"⟩
abbrev cX0_take : ByteArray := prog_2_method_2_code
def yX0_take : MethodName := ⟨RX0, "take", "(LSnapStacks$State;)V"⟩
abbrev cX0_giveBack : ByteArray := prog_2_method_3_code
def yX0_giveBack : MethodName := ⟨RX0, "giveBack", "(LSnapStacks$State;)V"⟩
def RX1 : String := "SnapStacks$LoopFinder"
def TX1 : u_T := fun k => match k with
  | 0 => ("SnapStacks$LoopFinder", "trial", "LSnapStacks$State;", true)
  | 1 => ("SnapStacks$LoopFinder", "keys", "[J", true)
  | 2 => ("SnapStacks$LoopFinder", "snapsUntil", "[I", true)
  | 3 => ("SnapStacks$LoopFinder", "stepInSlot", "[I", true)
  | 4 => ("SnapStacks$LoopFinder", "isFound", "Z", false)
  | 5 => ("SnapStacks$LoopFinder", "lead", "I", false)
  | 6 => ("SnapStacks$LoopFinder", "period", "I", false)
  | _ => ("SnapStacks$LoopFinder", "snaps", "I", false)
def tyX1 : Nat → FieldType := fun k => match k with
  | 0 => .object "SnapStacks$State"
  | 1 => .array .long
  | 2 => .array .int
  | 3 => .array .int
  | 4 => .boolean
  | 5 => .int
  | 6 => .int
  | _ => .int
abbrev wsX10 : List Cond := u_ws RX1 TX1 8
theorem nmX1 : ∀ a, a < 8 → ∀ b, b < 8 → a ≠ b → (TX1 a).2.1 ≠ (TX1 b).2.1 := by decide +kernel
theorem tyX1_ok : ∀ k, k < 8 → parseFieldDescriptor (TX1 k).2.2.1 = some (tyX1 k) := by decide +kernel
abbrev cX1_init : ByteArray := prog_3_method_1_code
def yX1_init : MethodName := ⟨RX1, "<init>", "()V"⟩
abbrev cX1_seek : ByteArray := prog_3_method_2_code
def yX1_seek : MethodName := ⟨RX1, "seek", "(LSnapStacks$State;)V"⟩
abbrev cX1_sameStepOrEnter : ByteArray := prog_3_method_3_code
def yX1_sameStepOrEnter : MethodName := ⟨RX1, "sameStepOrEnter", "(I)I"⟩
def RX2 : String := "SnapStacks$Room"
def TX2 : u_T := fun k => match k with
  | 0 => ("SnapStacks$Room", "warmth", "I", false)
  | 1 => ("SnapStacks$Room", "power", "I", false)
  | 2 => ("SnapStacks$Room", "divisor", "I", false)
  | 3 => ("SnapStacks$Room", "isOpen", "Z", false)
  | 4 => ("SnapStacks$Room", "closedTicks", "I", false)
  | 5 => ("SnapStacks$Room", "greatest", "I", false)
  | _ => ("SnapStacks$Room", "least", "I", false)
def tyX2 : Nat → FieldType := fun k => match k with
  | 0 => .int
  | 1 => .int
  | 2 => .int
  | 3 => .boolean
  | 4 => .int
  | 5 => .int
  | _ => .int
abbrev wsX20 : List Cond := u_ws RX2 TX2 7
theorem nmX2 : ∀ a, a < 7 → ∀ b, b < 7 → a ≠ b → (TX2 a).2.1 ≠ (TX2 b).2.1 := by decide +kernel
theorem tyX2_ok : ∀ k, k < 7 → parseFieldDescriptor (TX2 k).2.2.1 = some (tyX2 k) := by decide +kernel
abbrev cX2_init : ByteArray := prog_4_method_1_code
def yX2_init : MethodName := ⟨RX2, "<init>", "()V"⟩
abbrev cX2_copyFrom : ByteArray := prog_4_method_2_code
def yX2_copyFrom : MethodName := ⟨RX2, "copyFrom", "(LSnapStacks$Room;)V"⟩
abbrev cX2_lossTo : ByteArray := prog_4_method_3_code
def yX2_lossTo : MethodName := ⟨RX2, "lossTo", "(I)I"⟩
abbrev cX2_lossTo_ : ByteArray := prog_4_method_4_code
def yX2_lossTo_ : MethodName := ⟨RX2, "lossTo", "(LSnapStacks$Room;)I"⟩
abbrev cX2_come : ByteArray := prog_4_method_5_code
def yX2_come : MethodName := ⟨RX2, "come", "(I)V"⟩
def RX3 : String := "SnapStacks$StackFinder"
def TX3 : u_T := fun k => match k with
  | 0 => ("SnapStacks$StackFinder", "numbers", "[I", true)
  | 1 => ("SnapStacks$StackFinder", "areTablesMade", "Z", false)
  | 2 => ("SnapStacks$StackFinder", "pairs", "[I", true)
  | 3 => ("SnapStacks$StackFinder", "pairCount", "I", false)
  | 4 => ("SnapStacks$StackFinder", "byOne", "[I", true)
  | _ => ("SnapStacks$StackFinder", "byTwo", "[I", true)
def tyX3 : Nat → FieldType := fun k => match k with
  | 0 => .array .int
  | 1 => .boolean
  | 2 => .array .int
  | 3 => .int
  | 4 => .array .int
  | _ => .array .int
abbrev wsX30 : List Cond := u_ws RX3 TX3 6
theorem nmX3 : ∀ a, a < 6 → ∀ b, b < 6 → a ≠ b → (TX3 a).2.1 ≠ (TX3 b).2.1 := by decide +kernel
theorem tyX3_ok : ∀ k, k < 6 → parseFieldDescriptor (TX3 k).2.2.1 = some (tyX3 k) := by decide +kernel
abbrev cX3_init : ByteArray := prog_5_method_1_code
def yX3_init : MethodName := ⟨RX3, "<init>", "()V"⟩
def RX4 : String := "SnapStacks$State"
def TX4 : u_T := fun k => match k with
  | 0 => ("SnapStacks$State", "numbers", "[I", true)
  | 1 => ("SnapStacks$State", "settings", "[I", true)
  | 2 => ("SnapStacks$State", "strips", "[LSnapStacks$Strip;", true)
  | 3 => ("SnapStacks$State", "rooms", "[LSnapStacks$Room;", true)
  | 4 => ("SnapStacks$State", "outside", "I", false)
  | 5 => ("SnapStacks$State", "ticks", "I", false)
  | 6 => ("SnapStacks$State", "rates", "[I", true)
  | _ => ("SnapStacks$State", "newWarmths", "[I", true)
def tyX4 : Nat → FieldType := fun k => match k with
  | 0 => .array .int
  | 1 => .array .int
  | 2 => .array (.object "SnapStacks$Strip")
  | 3 => .array (.object "SnapStacks$Room")
  | 4 => .int
  | 5 => .int
  | 6 => .array .int
  | _ => .array .int
abbrev wsX40 : List Cond := u_ws RX4 TX4 8
theorem nmX4 : ∀ a, a < 8 → ∀ b, b < 8 → a ≠ b → (TX4 a).2.1 ≠ (TX4 b).2.1 := by decide +kernel
theorem tyX4_ok : ∀ k, k < 8 → parseFieldDescriptor (TX4 k).2.2.1 = some (tyX4 k) := by decide +kernel
abbrev cX4_init : ByteArray := prog_6_method_1_code
def yX4_init : MethodName := ⟨RX4, "<init>", "()V"⟩
abbrev cX4_copyFrom : ByteArray := prog_6_method_2_code
def yX4_copyFrom : MethodName := ⟨RX4, "copyFrom", "(LSnapStacks$State;)V"⟩
abbrev cX4_bendInRoom : ByteArray := prog_6_method_3_code
def yX4_bendInRoom : MethodName := ⟨RX4, "bendInRoom", "(I)I"⟩
abbrev cX4_openings : ByteArray := prog_6_method_4_code
def yX4_openings : MethodName := ⟨RX4, "openings", "()I"⟩
abbrev cX4_snaps : ByteArray := prog_6_method_5_code
def yX4_snaps : MethodName := ⟨RX4, "snaps", "()I"⟩
abbrev cX4_sumRates : ByteArray := prog_6_method_6_code
def yX4_sumRates : MethodName := ⟨RX4, "sumRates", "()V"⟩
abbrev cX4_passTick : ByteArray := prog_6_method_7_code
def yX4_passTick : MethodName := ⟨RX4, "passTick", "()I"⟩
abbrev cX4_warmthToCome : ByteArray := prog_6_method_8_code
def yX4_warmthToCome : MethodName := ⟨RX4, "warmthToCome", "(I)I"⟩
abbrev cX4_moveStrip : ByteArray := prog_6_method_9_code
def yX4_moveStrip : MethodName := ⟨RX4, "moveStrip", "(I)Z"⟩
abbrev cX4_loopKey : ByteArray := prog_6_method_10_code
def yX4_loopKey : MethodName := ⟨RX4, "loopKey", "()J"⟩
def RX5 : String := "SnapStacks$Strip"
def TX5 : u_T := fun k => match k with
  | 0 => ("SnapStacks$Strip", "lengths", "[I", true)
  | 1 => ("SnapStacks$Strip", "uppers", "[I", true)
  | 2 => ("SnapStacks$Strip", "lowers", "[I", true)
  | 3 => ("SnapStacks$Strip", "parts", "I", false)
  | 4 => ("SnapStacks$Strip", "low", "I", false)
  | 5 => ("SnapStacks$Strip", "high", "I", false)
  | 6 => ("SnapStacks$Strip", "late", "I", false)
  | 7 => ("SnapStacks$Strip", "pulls", "I", false)
  | 8 => ("SnapStacks$Strip", "snaps", "I", false)
  | 9 => ("SnapStacks$Strip", "kind", "I", false)
  | _ => ("SnapStacks$Strip", "isSnapped", "Z", false)
def tyX5 : Nat → FieldType := fun k => match k with
  | 0 => .array .int
  | 1 => .array .int
  | 2 => .array .int
  | 3 => .int
  | 4 => .int
  | 5 => .int
  | 6 => .int
  | 7 => .int
  | 8 => .int
  | 9 => .int
  | _ => .boolean
abbrev wsX50 : List Cond := u_ws RX5 TX5 11
theorem nmX5 : ∀ a, a < 11 → ∀ b, b < 11 → a ≠ b → (TX5 a).2.1 ≠ (TX5 b).2.1 := by decide +kernel
theorem tyX5_ok : ∀ k, k < 11 → parseFieldDescriptor (TX5 k).2.2.1 = some (tyX5 k) := by decide +kernel
abbrev cX5_init : ByteArray := prog_7_method_1_code
def yX5_init : MethodName := ⟨RX5, "<init>", "()V"⟩
abbrev cX5_copyFrom : ByteArray := prog_7_method_2_code
def yX5_copyFrom : MethodName := ⟨RX5, "copyFrom", "(LSnapStacks$Strip;)V"⟩
abbrev cX5_addPart : ByteArray := prog_7_method_3_code
def yX5_addPart : MethodName := ⟨RX5, "addPart", "(III)V"⟩
abbrev cX5_wholeLength : ByteArray := prog_7_method_4_code
def yX5_wholeLength : MethodName := ⟨RX5, "wholeLength", "()I"⟩
abbrev cX5_partRate : ByteArray := prog_7_method_5_code
def yX5_partRate : MethodName := ⟨RX5, "partRate", "(I[I)I"⟩
abbrev cX5_rate : ByteArray := prog_7_method_6_code
def yX5_rate : MethodName := ⟨RX5, "rate", "([I)I"⟩
abbrev cX5_isClosed : ByteArray := prog_7_method_7_code
def yX5_isClosed : MethodName := ⟨RX5, "isClosed", "()Z"⟩
abbrev cX5_isPulledBy : ByteArray := prog_7_method_8_code
def yX5_isPulledBy : MethodName := ⟨RX5, "isPulledBy", "(I)Z"⟩
abbrev cX5_changesBy : ByteArray := prog_7_method_9_code
def yX5_changesBy : MethodName := ⟨RX5, "changesBy", "(I)Z"⟩
abbrev cX5_getTired : ByteArray := prog_7_method_10_code
def yX5_getTired : MethodName := ⟨RX5, "getTired", "(II)V"⟩
def RX6 : String := "SnapStacks$Text"
def TX6 : u_T := fun k => match k with
  | 0 => ("SnapStacks$Text", "characters", "[C", true)
  | _ => ("SnapStacks$Text", "length", "I", false)
def tyX6 : Nat → FieldType := fun k => match k with
  | 0 => .array .char
  | _ => .int
abbrev wsX60 : List Cond := u_ws RX6 TX6 2
theorem nmX6 : ∀ a, a < 2 → ∀ b, b < 2 → a ≠ b → (TX6 a).2.1 ≠ (TX6 b).2.1 := by decide +kernel
theorem tyX6_ok : ∀ k, k < 2 → parseFieldDescriptor (TX6 k).2.2.1 = some (tyX6 k) := by decide +kernel
abbrev cX6_init : ByteArray := prog_8_method_1_code
def yX6_init : MethodName := ⟨RX6, "<init>", "()V"⟩
abbrev cX6_append : ByteArray := prog_8_method_2_code
def yX6_append : MethodName := ⟨RX6, "append", "(C)V"⟩
abbrev cX6_faultyPlace : ByteArray := prog_8_method_3_code
def yX6_faultyPlace : MethodName := ⟨RX6, "faultyPlace", "()I"⟩
abbrev cX6_reasonAt : ByteArray := prog_8_method_4_code
def yX6_reasonAt : MethodName := ⟨RX6, "reasonAt", "(I)I"⟩
abbrev cX6_canStandAt : ByteArray := prog_8_method_5_code
def yX6_canStandAt : MethodName := ⟨RX6, "canStandAt", "(I)Z"⟩
abbrev cX6_parts : ByteArray := prog_8_method_6_code
def yX6_parts : MethodName := ⟨RX6, "parts", "()I"⟩
abbrev cX6_lengthOfPart : ByteArray := prog_8_method_7_code
def yX6_lengthOfPart : MethodName := ⟨RX6, "lengthOfPart", "(I)I"⟩
abbrev cX6_upperOfPart : ByteArray := prog_8_method_8_code
def yX6_upperOfPart : MethodName := ⟨RX6, "upperOfPart", "(I)I"⟩
abbrev cX6_lowerOfPart : ByteArray := prog_8_method_9_code
def yX6_lowerOfPart : MethodName := ⟨RX6, "lowerOfPart", "(I)I"⟩
def RX7 : String := "SnapStacks"
def TX7 : u_T := fun k => match k with
  | 0 => ("SnapStacks", "now", "LSnapStacks$State;", true)
  | 1 => ("SnapStacks", "history", "LSnapStacks$History;", true)
  | 2 => ("SnapStacks", "text", "LSnapStacks$Text;", true)
  | 3 => ("SnapStacks", "loops", "LSnapStacks$LoopFinder;", true)
  | 4 => ("SnapStacks", "stacks", "LSnapStacks$StackFinder;", true)
  | _ => ("SnapStacks", "loopIsSought", "Z", false)
def tyX7 : Nat → FieldType := fun k => match k with
  | 0 => .object "SnapStacks$State"
  | 1 => .object "SnapStacks$History"
  | 2 => .object "SnapStacks$Text"
  | 3 => .object "SnapStacks$LoopFinder"
  | 4 => .object "SnapStacks$StackFinder"
  | _ => .boolean
abbrev wsX70 : List Cond := u_ws RX7 TX7 6
theorem nmX7 : ∀ a, a < 6 → ∀ b, b < 6 → a ≠ b → (TX7 a).2.1 ≠ (TX7 b).2.1 := by decide +kernel
theorem tyX7_ok : ∀ k, k < 6 → parseFieldDescriptor (TX7 k).2.2.1 = some (tyX7 k) := by decide +kernel
abbrev cX7_init : ByteArray := prog_1_method_1_code
def yX7_init : MethodName := ⟨RX7, "<init>", "()V"⟩
abbrev cX7_metal : ByteArray := prog_1_method_2_code
def yX7_metal : MethodName := ⟨RX7, "metal", "(II)I"⟩
abbrev cX7_part : ByteArray := prog_1_method_3_code
def yX7_part : MethodName := ⟨RX7, "part", "(IIII)I"⟩
abbrev cX7_cut : ByteArray := prog_1_method_4_code
def yX7_cut : MethodName := ⟨RX7, "cut", "(II)I"⟩
abbrev cX7_bounds : ByteArray := prog_1_method_5_code
def yX7_bounds : MethodName := ⟨RX7, "bounds", "(IIII)I"⟩
abbrev cX7_contact : ByteArray := prog_1_method_6_code
def yX7_contact : MethodName := ⟨RX7, "contact", "(II)I"⟩
abbrev cX7_heat : ByteArray := prog_1_method_7_code
def yX7_heat : MethodName := ⟨RX7, "heat", "(III)I"⟩
abbrev cX7_outside : ByteArray := prog_1_method_8_code
def yX7_outside : MethodName := ⟨RX7, "outside", "(I)I"⟩
abbrev cX7_warm : ByteArray := prog_1_method_9_code
def yX7_warm : MethodName := ⟨RX7, "warm", "(II)I"⟩
abbrev cX7_opening : ByteArray := prog_1_method_10_code
def yX7_opening : MethodName := ⟨RX7, "opening", "(II)I"⟩
abbrev cX7_set : ByteArray := prog_1_method_11_code
def yX7_set : MethodName := ⟨RX7, "set", "(II)I"⟩
abbrev cX7_tick : ByteArray := prog_1_method_12_code
def yX7_tick : MethodName := ⟨RX7, "tick", "(I)I"⟩
abbrev cX7_stripOf : ByteArray := prog_1_method_13_code
def yX7_stripOf : MethodName := ⟨RX7, "stripOf", "(II)I"⟩
abbrev cX7_partOf : ByteArray := prog_1_method_14_code
def yX7_partOf : MethodName := ⟨RX7, "partOf", "(III)I"⟩
abbrev cX7_roomOf : ByteArray := prog_1_method_15_code
def yX7_roomOf : MethodName := ⟨RX7, "roomOf", "(II)I"⟩
abbrev cX7_count : ByteArray := prog_1_method_16_code
def yX7_count : MethodName := ⟨RX7, "count", "(I)I"⟩
abbrev cX7_bend : ByteArray := prog_1_method_17_code
def yX7_bend : MethodName := ⟨RX7, "bend", "(II)I"⟩
abbrev cX7_tripsAt : ByteArray := prog_1_method_18_code
def yX7_tripsAt : MethodName := ⟨RX7, "tripsAt", "(II)I"⟩
abbrev cX7_loop : ByteArray := prog_1_method_19_code
def yX7_loop : MethodName := ⟨RX7, "loop", "(I)I"⟩
abbrev cX7_undo : ByteArray := prog_1_method_21_code
def yX7_undo : MethodName := ⟨RX7, "undo", "()I"⟩
abbrev cX7_type : ByteArray := prog_1_method_22_code
def yX7_type : MethodName := ⟨RX7, "type", "(I)I"⟩
abbrev cX7_clearText : ByteArray := prog_1_method_23_code
def yX7_clearText : MethodName := ⟨RX7, "clearText", "()I"⟩
abbrev cX7_fault : ByteArray := prog_1_method_24_code
def yX7_fault : MethodName := ⟨RX7, "fault", "(I)I"⟩
abbrev cX7_read : ByteArray := prog_1_method_25_code
def yX7_read : MethodName := ⟨RX7, "read", "(I)I"⟩
abbrev cX7_recordChange : ByteArray := prog_1_method_26_code
def yX7_recordChange : MethodName := ⟨RX7, "recordChange", "()V"⟩
abbrev cX7_numberOfMetal : ByteArray := prog_1_method_27_code
def yX7_numberOfMetal : MethodName := ⟨RX7, "numberOfMetal", "(I)I"⟩
abbrev cX7_isWithin : ByteArray := prog_1_method_28_code
def yX7_isWithin : MethodName := ⟨RX7, "isWithin", "(III)Z"⟩
abbrev cX7_isRoom : ByteArray := prog_1_method_29_code
def yX7_isRoom : MethodName := ⟨RX7, "isRoom", "(I)Z"⟩
abbrev cX7_isWarmth : ByteArray := prog_1_method_30_code
def yX7_isWarmth : MethodName := ⟨RX7, "isWarmth", "(I)Z"⟩
abbrev cX7_isSetting : ByteArray := prog_1_method_31_code
def yX7_isSetting : MethodName := ⟨RX7, "isSetting", "(II)Z"⟩
abbrev cX7_oneIf : ByteArray := prog_1_method_32_code
def yX7_oneIf : MethodName := ⟨RX7, "oneIf", "(Z)I"⟩
abbrev cX7_bendAt : ByteArray := prog_1_method_33_code
def yX7_bendAt : MethodName := ⟨RX7, "bendAt", "(II)I"⟩
abbrev cX7_leastPulledUp : ByteArray := prog_1_method_34_code
def yX7_leastPulledUp : MethodName := ⟨RX7, "leastPulledUp", "(II)I"⟩
abbrev cX7_greatestPulledBack : ByteArray := prog_1_method_35_code
def yX7_greatestPulledBack : MethodName := ⟨RX7, "greatestPulledBack", "(II)I"⟩
def RX8 : String := "SnapStacksModel"
def TX8 : u_T := fun k => match k with
  | _ => ("", "", "", false)
def tyX8 : Nat → FieldType := fun k => match k with
  | _ => .int
abbrev wsX80 : List Cond := u_ws RX8 TX8 0
theorem nmX8 : ∀ a, a < 0 → ∀ b, b < 0 → a ≠ b → (TX8 a).2.1 ≠ (TX8 b).2.1 := by decide +kernel
theorem tyX8_ok : ∀ k, k < 0 → parseFieldDescriptor (TX8 k).2.2.1 = some (tyX8 k) := by decide +kernel
def RJ9 : String := "java/lang/Math"
def TJ9 : u_T := fun k => match k with
  | _ => ("", "", "", false)
def tyJ9 : Nat → FieldType := fun k => match k with
  | _ => .int
abbrev wsJ90 : List Cond := u_ws RJ9 TJ9 0
theorem nmJ9 : ∀ a, a < 0 → ∀ b, b < 0 → a ≠ b → (TJ9 a).2.1 ≠ (TJ9 b).2.1 := by decide +kernel
theorem tyJ9_ok : ∀ k, k < 0 → parseFieldDescriptor (TJ9 k).2.2.1 = some (tyJ9 k) := by decide +kernel
abbrev cJ9_floorDiv_7cf53 : ByteArray := prog_11_method_47_code
def yJ9_floorDiv_7cf53 : MethodName := ⟨RJ9, "floorDiv", "(II)I"⟩
abbrev cJ9_max_7cf53 : ByteArray := prog_11_method_65_code
def yJ9_max_7cf53 : MethodName := ⟨RJ9, "max", "(II)I"⟩
abbrev cJ9_min_7cf53 : ByteArray := prog_11_method_69_code
def yJ9_min_7cf53 : MethodName := ⟨RJ9, "min", "(II)I"⟩
def RJ10 : String := "java/lang/System"
def TJ10 : u_T := fun k => match k with
  | _ => ("", "", "", false)
def tyJ10 : Nat → FieldType := fun k => match k with
  | _ => .int
abbrev wsJ100 : List Cond := u_ws RJ10 TJ10 0
theorem nmJ10 : ∀ a, a < 0 → ∀ b, b < 0 → a ≠ b → (TJ10 a).2.1 ≠ (TJ10 b).2.1 := by decide +kernel
theorem tyJ10_ok : ∀ k, k < 0 → parseFieldDescriptor (TJ10 k).2.2.1 = some (tyJ10 k) := by decide +kernel
def RJ7 : String := "java/util/Arrays"
def TJ7 : u_T := fun k => match k with
  | _ => ("", "", "", false)
def tyJ7 : Nat → FieldType := fun k => match k with
  | _ => .int
abbrev wsJ70 : List Cond := u_ws RJ7 TJ7 0
theorem nmJ7 : ∀ a, a < 0 → ∀ b, b < 0 → a ≠ b → (TJ7 a).2.1 ≠ (TJ7 b).2.1 := by decide +kernel
theorem tyJ7_ok : ∀ k, k < 0 → parseFieldDescriptor (TJ7 k).2.2.1 = some (tyJ7 k) := by decide +kernel
abbrev cJ7_fill_53178 : ByteArray := prog_13_method_103_code
def yJ7_fill_53178 : MethodName := ⟨RJ7, "fill", "([II)V"⟩
def RL : String := "SnapStacksLaw"
abbrev cL_lot : ByteArray := method_2_code
def yL_lot : MethodName := ⟨RL, "lot", "([II)I"⟩
abbrev cL_low : ByteArray := method_3_code
def yL_low : MethodName := ⟨RL, "low", "(II)I"⟩
abbrev cL_digest : ByteArray := method_4_code
def yL_digest : MethodName := ⟨RL, "digest", "(LSnapStacks;)J"⟩
abbrev cL_holds : ByteArray := method_5_code
def yL_holds : MethodName := ⟨RL, "holds", "(LSnapStacks;I)Z"⟩
abbrev cL_types : ByteArray := method_6_code
def yL_types : MethodName := ⟨RL, "types", "(LSnapStacks;I)Z"⟩
abbrev cL_reads : ByteArray := method_7_code
def yL_reads : MethodName := ⟨RL, "reads", "(LSnapStacks;I)Z"⟩
abbrev cL_acts : ByteArray := method_8_code
def yL_acts : MethodName := ⟨RL, "acts", "(LSnapStacks;II)Z"⟩
abbrev cL_law : ByteArray := code
def yL_law : MethodName := ⟨RL, "law", "([I)Z"⟩
abbrev vwCl : List vw_C := [(RX0, TX0, 3), (RX1, TX1, 8), (RX2, TX2, 7), (RX3, TX3, 6), (RX4, TX4, 8), (RX5, TX5, 11), (RX6, TX6, 2), (RX7, TX7, 6)]
