/-! ===== BEGIN printed: names, fields, word lists, decode rows ===== -/
def RX0 : String := "PendulumGym$1"
def TX0 : u_T := fun k => match k with
  | _ => ("", "", "", false)
def tyX0 : Nat → FieldType := fun k => match k with
  | _ => .int
abbrev wsX00 : List Cond := u_ws RX0 TX0 0
theorem nmX0 : ∀ a, a < 0 → ∀ b, b < 0 → a ≠ b → (TX0 a).2.1 ≠ (TX0 b).2.1 := by decide +kernel
theorem tyX0_ok : ∀ k, k < 0 → parseFieldDescriptor (TX0 k).2.2.1 = some (tyX0 k) := by decide +kernel
def RX1 : String := "PendulumGym$Forecast"
def TX1 : u_T := fun k => match k with
  | _ => ("PendulumGym$Forecast", "swingsFrom", "[I", true)
def tyX1 : Nat → FieldType := fun k => match k with
  | _ => .array .int
abbrev wsX10 : List Cond := u_ws RX1 TX1 1
theorem nmX1 : ∀ a, a < 1 → ∀ b, b < 1 → a ≠ b → (TX1 a).2.1 ≠ (TX1 b).2.1 := by decide +kernel
theorem tyX1_ok : ∀ k, k < 1 → parseFieldDescriptor (TX1 k).2.2.1 = some (tyX1 k) := by decide +kernel
abbrev cX1_init : ByteArray := prog_3_method_1_code
def yX1_init : MethodName := ⟨RX1, "<init>", "()V"⟩
abbrev cX1_swingsOneByOne : ByteArray := prog_3_method_2_code
def yX1_swingsOneByOne : MethodName := ⟨RX1, "swingsOneByOne", "(LPendulumGym$State;I)I"⟩
abbrev cX1_swingsFromTable : ByteArray := prog_3_method_3_code
def yX1_swingsFromTable : MethodName := ⟨RX1, "swingsFromTable", "(LPendulumGym$State;I)I"⟩
abbrev cX1_fillTable : ByteArray := prog_3_method_4_code
def yX1_fillTable : MethodName := ⟨RX1, "fillTable", "(LPendulumGym$State;)V"⟩
abbrev cX1_tableAt : ByteArray := prog_3_method_5_code
def yX1_tableAt : MethodName := ⟨RX1, "tableAt", "(I)I"⟩
abbrev cX1_lastTick : ByteArray := prog_3_method_6_code
def yX1_lastTick : MethodName := ⟨RX1, "lastTick", "(LPendulumGym$State;I)I"⟩
abbrev cX1_laterAmplitude : ByteArray := prog_3_method_7_code
def yX1_laterAmplitude : MethodName := ⟨RX1, "laterAmplitude", "(LPendulumGym$State;II)I"⟩
def RX2 : String := "PendulumGym$History"
def TX2 : u_T := fun k => match k with
  | 0 => ("PendulumGym$History", "ring", "[LPendulumGym$State;", true)
  | 1 => ("PendulumGym$History", "next", "I", false)
  | _ => ("PendulumGym$History", "kept", "I", false)
def tyX2 : Nat → FieldType := fun k => match k with
  | 0 => .array (.object "PendulumGym$State")
  | 1 => .int
  | _ => .int
abbrev wsX20 : List Cond := u_ws RX2 TX2 3
theorem nmX2 : ∀ a, a < 3 → ∀ b, b < 3 → a ≠ b → (TX2 a).2.1 ≠ (TX2 b).2.1 := by decide +kernel
theorem tyX2_ok : ∀ k, k < 3 → parseFieldDescriptor (TX2 k).2.2.1 = some (tyX2 k) := by decide +kernel
abbrev cX2_init : ByteArray := prog_4_method_1_code
def yX2_init : MethodName := ⟨RX2, "<init>", "()V"⟩
abbrev cX2_size : ByteArray := prog_4_method_2_code
def yX2_size : MethodName := ⟨RX2, "size", "()I"⟩
abbrev cX2_forget : ByteArray := prog_4_method_3_code
def yX2_forget : MethodName := ⟨RX2, "forget", "()V"⟩
abbrev cX2_keep : ByteArray := prog_4_method_4_code
def yX2_keep : MethodName := ⟨RX2, "keep", "(LPendulumGym$State;)V"⟩
abbrev cX2_takeBackInto : ByteArray := prog_4_method_5_code
def yX2_takeBackInto : MethodName := ⟨RX2, "takeBackInto", "(LPendulumGym$State;)V"⟩
abbrev cX2_slotAt : ByteArray := prog_4_method_6_code
def yX2_slotAt : MethodName := ⟨RX2, "slotAt", "(I)LPendulumGym$State;"⟩
def RX3 : String := "PendulumGym$Meetings"
def TX3 : u_T := fun k => match k with
  | _ => ("", "", "", false)
def tyX3 : Nat → FieldType := fun k => match k with
  | _ => .int
abbrev wsX30 : List Cond := u_ws RX3 TX3 0
theorem nmX3 : ∀ a, a < 0 → ∀ b, b < 0 → a ≠ b → (TX3 a).2.1 ≠ (TX3 b).2.1 := by decide +kernel
theorem tyX3_ok : ∀ k, k < 0 → parseFieldDescriptor (TX3 k).2.2.1 = some (tyX3 k) := by decide +kernel
abbrev cX3_tickByTick : ByteArray := prog_5_method_2_code
def yX3_tickByTick : MethodName := ⟨RX3, "tickByTick", "(LPendulumGym$State;II)I"⟩
abbrev cX3_swingsIn : ByteArray := prog_5_method_3_code
def yX3_swingsIn : MethodName := ⟨RX3, "swingsIn", "(LPendulumGym$State;II)Z"⟩
abbrev cX3_byDivisors : ByteArray := prog_5_method_4_code
def yX3_byDivisors : MethodName := ⟨RX3, "byDivisors", "(LPendulumGym$State;II)I"⟩
abbrev cX3_everMeet : ByteArray := prog_5_method_5_code
def yX3_everMeet : MethodName := ⟨RX3, "everMeet", "(LPendulumGym$State;II)Z"⟩
abbrev cX3_pairs : ByteArray := prog_5_method_6_code
def yX3_pairs : MethodName := ⟨RX3, "pairs", "(LPendulumGym$State;)I"⟩
def RX4 : String := "PendulumGym$Numbers"
def TX4 : u_T := fun k => match k with
  | _ => ("", "", "", false)
def tyX4 : Nat → FieldType := fun k => match k with
  | _ => .int
abbrev wsX40 : List Cond := u_ws RX4 TX4 0
theorem nmX4 : ∀ a, a < 0 → ∀ b, b < 0 → a ≠ b → (TX4 a).2.1 ≠ (TX4 b).2.1 := by decide +kernel
theorem tyX4_ok : ∀ k, k < 0 → parseFieldDescriptor (TX4 k).2.2.1 = some (tyX4 k) := by decide +kernel
abbrev cX4_quotient : ByteArray := prog_6_method_2_code
def yX4_quotient : MethodName := ⟨RX4, "quotient", "(II)I"⟩
abbrev cX4_remainder : ByteArray := prog_6_method_3_code
def yX4_remainder : MethodName := ⟨RX4, "remainder", "(II)I"⟩
abbrev cX4_divides : ByteArray := prog_6_method_4_code
def yX4_divides : MethodName := ⟨RX4, "divides", "(II)Z"⟩
abbrev cX4_rootByBits : ByteArray := prog_6_method_5_code
def yX4_rootByBits : MethodName := ⟨RX4, "rootByBits", "(I)I"⟩
abbrev cX4_rootByEstimates : ByteArray := prog_6_method_6_code
def yX4_rootByEstimates : MethodName := ⟨RX4, "rootByEstimates", "(I)I"⟩
abbrev cX4_greatestDivisor : ByteArray := prog_6_method_7_code
def yX4_greatestDivisor : MethodName := ⟨RX4, "greatestDivisor", "(II)I"⟩
abbrev cX4_leastMultiple : ByteArray := prog_6_method_8_code
def yX4_leastMultiple : MethodName := ⟨RX4, "leastMultiple", "(II)I"⟩
abbrev cX4_inverse : ByteArray := prog_6_method_9_code
def yX4_inverse : MethodName := ⟨RX4, "inverse", "(II)I"⟩
def RX5 : String := "PendulumGym$Program"
def TX5 : u_T := fun k => match k with
  | 0 => ("PendulumGym$Program", "text", "[C", true)
  | 1 => ("PendulumGym$Program", "words", "[LPendulumGym$Word;", true)
  | 2 => ("PendulumGym$Program", "digits", "[I", true)
  | 3 => ("PendulumGym$Program", "numbers", "[I", true)
  | 4 => ("PendulumGym$Program", "length", "I", false)
  | 5 => ("PendulumGym$Program", "commands", "I", false)
  | _ => ("PendulumGym$Program", "position", "I", false)
def tyX5 : Nat → FieldType := fun k => match k with
  | 0 => .array .char
  | 1 => .array (.object "PendulumGym$Word")
  | 2 => .array .int
  | 3 => .array .int
  | 4 => .int
  | 5 => .int
  | _ => .int
abbrev wsX50 : List Cond := u_ws RX5 TX5 7
theorem nmX5 : ∀ a, a < 7 → ∀ b, b < 7 → a ≠ b → (TX5 a).2.1 ≠ (TX5 b).2.1 := by decide +kernel
theorem tyX5_ok : ∀ k, k < 7 → parseFieldDescriptor (TX5 k).2.2.1 = some (tyX5 k) := by decide +kernel
abbrev cX5_init : ByteArray := prog_7_method_1_code
def yX5_init : MethodName := ⟨RX5, "<init>", "()V"⟩
abbrev cX5_isFull : ByteArray := prog_7_method_2_code
def yX5_isFull : MethodName := ⟨RX5, "isFull", "()Z"⟩
abbrev cX5_append : ByteArray := prog_7_method_3_code
def yX5_append : MethodName := ⟨RX5, "append", "(C)I"⟩
abbrev cX5_empty : ByteArray := prog_7_method_4_code
def yX5_empty : MethodName := ⟨RX5, "empty", "()V"⟩
abbrev cX5_commands : ByteArray := prog_7_method_5_code
def yX5_commands : MethodName := ⟨RX5, "commands", "()I"⟩
abbrev cX5_wordAt : ByteArray := prog_7_method_6_code
def yX5_wordAt : MethodName := ⟨RX5, "wordAt", "(I)LPendulumGym$Word;"⟩
abbrev cX5_digitAt : ByteArray := prog_7_method_7_code
def yX5_digitAt : MethodName := ⟨RX5, "digitAt", "(I)I"⟩
abbrev cX5_numberAt : ByteArray := prog_7_method_8_code
def yX5_numberAt : MethodName := ⟨RX5, "numberAt", "(I)I"⟩
abbrev cX5_position : ByteArray := prog_7_method_9_code
def yX5_position : MethodName := ⟨RX5, "position", "()I"⟩
abbrev cX5_read : ByteArray := prog_7_method_10_code
def yX5_read : MethodName := ⟨RX5, "read", "()Z"⟩
abbrev cX5_readCommand : ByteArray := prog_7_method_11_code
def yX5_readCommand : MethodName := ⟨RX5, "readCommand", "()Z"⟩
abbrev cX5_keepCommand : ByteArray := prog_7_method_12_code
def yX5_keepCommand : MethodName := ⟨RX5, "keepCommand", "(LPendulumGym$Word;II)V"⟩
abbrev cX5_readWord : ByteArray := prog_7_method_13_code
def yX5_readWord : MethodName := ⟨RX5, "readWord", "()LPendulumGym$Word;"⟩
abbrev cX5_fittingSigns : ByteArray := prog_7_method_14_code
def yX5_fittingSigns : MethodName := ⟨RX5, "fittingSigns", "(Ljava/lang/String;)I"⟩
abbrev cX5_readSign : ByteArray := prog_7_method_15_code
def yX5_readSign : MethodName := ⟨RX5, "readSign", "(C)Z"⟩
abbrev cX5_readDigits : ByteArray := prog_7_method_16_code
def yX5_readDigits : MethodName := ⟨RX5, "readDigits", "(I)I"⟩
abbrev cX5_isDigit : ByteArray := prog_7_method_17_code
def yX5_isDigit : MethodName := ⟨RX5, "isDigit", "(C)Z"⟩
abbrev cX5_signAt : ByteArray := prog_7_method_18_code
def yX5_signAt : MethodName := ⟨RX5, "signAt", "(I)C"⟩
def RX6 : String := "PendulumGym$Quota"
def TX6 : u_T := fun k => match k with
  | _ => ("", "", "", false)
def tyX6 : Nat → FieldType := fun k => match k with
  | _ => .int
abbrev wsX60 : List Cond := u_ws RX6 TX6 0
theorem nmX6 : ∀ a, a < 0 → ∀ b, b < 0 → a ≠ b → (TX6 a).2.1 ≠ (TX6 b).2.1 := by decide +kernel
theorem tyX6_ok : ∀ k, k < 0 → parseFieldDescriptor (TX6 k).2.2.1 = some (tyX6 k) := by decide +kernel
abbrev cX6_fewestGreatestFirst : ByteArray := prog_8_method_2_code
def yX6_fewestGreatestFirst : MethodName := ⟨RX6, "fewestGreatestFirst", "(LPendulumGym$State;I)I"⟩
abbrev cX6_greatestFree : ByteArray := prog_8_method_3_code
def yX6_greatestFree : MethodName := ⟨RX6, "greatestFree", "(LPendulumGym$State;I)I"⟩
abbrev cX6_fewestOfAllSets : ByteArray := prog_8_method_4_code
def yX6_fewestOfAllSets : MethodName := ⟨RX6, "fewestOfAllSets", "(LPendulumGym$State;I)I"⟩
abbrev cX6_setsWithExactly : ByteArray := prog_8_method_5_code
def yX6_setsWithExactly : MethodName := ⟨RX6, "setsWithExactly", "(LPendulumGym$State;I)I"⟩
abbrev cX6_contains : ByteArray := prog_8_method_6_code
def yX6_contains : MethodName := ⟨RX6, "contains", "(II)Z"⟩
abbrev cX6_sumOf : ByteArray := prog_8_method_7_code
def yX6_sumOf : MethodName := ⟨RX6, "sumOf", "(LPendulumGym$State;I)I"⟩
def RX7 : String := "PendulumGym$Relay"
def TX7 : u_T := fun k => match k with
  | _ => ("PendulumGym$Relay", "leastBehind", "[I", true)
def tyX7 : Nat → FieldType := fun k => match k with
  | _ => .array .int
abbrev wsX70 : List Cond := u_ws RX7 TX7 1
theorem nmX7 : ∀ a, a < 1 → ∀ b, b < 1 → a ≠ b → (TX7 a).2.1 ≠ (TX7 b).2.1 := by decide +kernel
theorem tyX7_ok : ∀ k, k < 1 → parseFieldDescriptor (TX7 k).2.2.1 = some (tyX7 k) := by decide +kernel
abbrev cX7_init : ByteArray := prog_9_method_1_code
def yX7_init : MethodName := ⟨RX7, "<init>", "()V"⟩
abbrev cX7_leastCost : ByteArray := prog_9_method_2_code
def yX7_leastCost : MethodName := ⟨RX7, "leastCost", "(LPendulumGym$State;)I"⟩
abbrev cX7_runner : ByteArray := prog_9_method_3_code
def yX7_runner : MethodName := ⟨RX7, "runner", "(LPendulumGym$State;I)I"⟩
abbrev cX7_fillSets : ByteArray := prog_9_method_4_code
def yX7_fillSets : MethodName := ⟨RX7, "fillSets", "(LPendulumGym$State;)V"⟩
abbrev cX7_cheapest : ByteArray := prog_9_method_5_code
def yX7_cheapest : MethodName := ⟨RX7, "cheapest", "(LPendulumGym$State;II)I"⟩
abbrev cX7_costWith : ByteArray := prog_9_method_6_code
def yX7_costWith : MethodName := ⟨RX7, "costWith", "(LPendulumGym$State;III)I"⟩
abbrev cX7_behind : ByteArray := prog_9_method_7_code
def yX7_behind : MethodName := ⟨RX7, "behind", "(I)I"⟩
def RX8 : String := "PendulumGym$State"
def TX8 : u_T := fun k => match k with
  | 0 => ("PendulumGym$State", "lengths", "[I", true)
  | 1 => ("PendulumGym$State", "periods", "[I", true)
  | 2 => ("PendulumGym$State", "amplitudes", "[I", true)
  | 3 => ("PendulumGym$State", "starts", "[I", true)
  | 4 => ("PendulumGym$State", "swings", "[I", true)
  | 5 => ("PendulumGym$State", "records", "[I", true)
  | 6 => ("PendulumGym$State", "holders", "[I", true)
  | 7 => ("PendulumGym$State", "wishes", "[I", true)
  | 8 => ("PendulumGym$State", "pendulums", "I", false)
  | 9 => ("PendulumGym$State", "legs", "I", false)
  | 10 => ("PendulumGym$State", "now", "I", false)
  | _ => ("PendulumGym$State", "friction", "I", false)
def tyX8 : Nat → FieldType := fun k => match k with
  | 0 => .array .int
  | 1 => .array .int
  | 2 => .array .int
  | 3 => .array .int
  | 4 => .array .int
  | 5 => .array .int
  | 6 => .array .int
  | 7 => .array .int
  | 8 => .int
  | 9 => .int
  | 10 => .int
  | _ => .int
abbrev wsX80 : List Cond := u_ws RX8 TX8 12
theorem nmX8 : ∀ a, a < 12 → ∀ b, b < 12 → a ≠ b → (TX8 a).2.1 ≠ (TX8 b).2.1 := by decide +kernel
theorem tyX8_ok : ∀ k, k < 12 → parseFieldDescriptor (TX8 k).2.2.1 = some (tyX8 k) := by decide +kernel
abbrev cX8_init : ByteArray := prog_10_method_1_code
def yX8_init : MethodName := ⟨RX8, "<init>", "()V"⟩
abbrev cX8_copyFrom : ByteArray := prog_10_method_2_code
def yX8_copyFrom : MethodName := ⟨RX8, "copyFrom", "(LPendulumGym$State;)V"⟩
abbrev cX8_hasPendulum : ByteArray := prog_10_method_3_code
def yX8_hasPendulum : MethodName := ⟨RX8, "hasPendulum", "(I)Z"⟩
abbrev cX8_hasLeg : ByteArray := prog_10_method_4_code
def yX8_hasLeg : MethodName := ⟨RX8, "hasLeg", "(I)Z"⟩
abbrev cX8_isSwinging : ByteArray := prog_10_method_5_code
def yX8_isSwinging : MethodName := ⟨RX8, "isSwinging", "(I)Z"⟩
abbrev cX8_lengthAt : ByteArray := prog_10_method_6_code
def yX8_lengthAt : MethodName := ⟨RX8, "lengthAt", "(I)I"⟩
abbrev cX8_periodAt : ByteArray := prog_10_method_7_code
def yX8_periodAt : MethodName := ⟨RX8, "periodAt", "(I)I"⟩
abbrev cX8_amplitudeAt : ByteArray := prog_10_method_8_code
def yX8_amplitudeAt : MethodName := ⟨RX8, "amplitudeAt", "(I)I"⟩
abbrev cX8_startAt : ByteArray := prog_10_method_9_code
def yX8_startAt : MethodName := ⟨RX8, "startAt", "(I)I"⟩
abbrev cX8_swingsAt : ByteArray := prog_10_method_10_code
def yX8_swingsAt : MethodName := ⟨RX8, "swingsAt", "(I)I"⟩
abbrev cX8_wishAt : ByteArray := prog_10_method_11_code
def yX8_wishAt : MethodName := ⟨RX8, "wishAt", "(I)I"⟩
abbrev cX8_recordAt : ByteArray := prog_10_method_12_code
def yX8_recordAt : MethodName := ⟨RX8, "recordAt", "(I)I"⟩
abbrev cX8_holderAt : ByteArray := prog_10_method_13_code
def yX8_holderAt : MethodName := ⟨RX8, "holderAt", "(I)I"⟩
abbrev cX8_isKind : ByteArray := prog_10_method_14_code
def yX8_isKind : MethodName := ⟨RX8, "isKind", "(I)Z"⟩
abbrev cX8_refusalToHang : ByteArray := prog_10_method_15_code
def yX8_refusalToHang : MethodName := ⟨RX8, "refusalToHang", "(I)I"⟩
abbrev cX8_hang : ByteArray := prog_10_method_16_code
def yX8_hang : MethodName := ⟨RX8, "hang", "(I)I"⟩
abbrev cX8_squareOfPeriod : ByteArray := prog_10_method_17_code
def yX8_squareOfPeriod : MethodName := ⟨RX8, "squareOfPeriod", "(I)I"⟩
abbrev cX8_refusalToSwingUp : ByteArray := prog_10_method_18_code
def yX8_refusalToSwingUp : MethodName := ⟨RX8, "refusalToSwingUp", "(II)I"⟩
abbrev cX8_swingUp : ByteArray := prog_10_method_19_code
def yX8_swingUp : MethodName := ⟨RX8, "swingUp", "(II)I"⟩
abbrev cX8_noteRecord : ByteArray := prog_10_method_20_code
def yX8_noteRecord : MethodName := ⟨RX8, "noteRecord", "(III)V"⟩
abbrev cX8_refusalToStop : ByteArray := prog_10_method_21_code
def yX8_refusalToStop : MethodName := ⟨RX8, "refusalToStop", "(I)I"⟩
abbrev cX8_stop : ByteArray := prog_10_method_22_code
def yX8_stop : MethodName := ⟨RX8, "stop", "(I)I"⟩
abbrev cX8_refusalOfFriction : ByteArray := prog_10_method_23_code
def yX8_refusalOfFriction : MethodName := ⟨RX8, "refusalOfFriction", "(I)I"⟩
abbrev cX8_changeFriction : ByteArray := prog_10_method_24_code
def yX8_changeFriction : MethodName := ⟨RX8, "changeFriction", "(I)I"⟩
abbrev cX8_refusalToWait : ByteArray := prog_10_method_25_code
def yX8_refusalToWait : MethodName := ⟨RX8, "refusalToWait", "(I)I"⟩
abbrev cX8_waitFor : ByteArray := prog_10_method_26_code
def yX8_waitFor : MethodName := ⟨RX8, "waitFor", "(I)I"⟩
abbrev cX8_swingAll : ByteArray := prog_10_method_27_code
def yX8_swingAll : MethodName := ⟨RX8, "swingAll", "()I"⟩
abbrev cX8_afterSwing : ByteArray := prog_10_method_28_code
def yX8_afterSwing : MethodName := ⟨RX8, "afterSwing", "(I)I"⟩
abbrev cX8_refusalToAppendLeg : ByteArray := prog_10_method_29_code
def yX8_refusalToAppendLeg : MethodName := ⟨RX8, "refusalToAppendLeg", "(I)I"⟩
abbrev cX8_appendLeg : ByteArray := prog_10_method_30_code
def yX8_appendLeg : MethodName := ⟨RX8, "appendLeg", "(I)I"⟩
abbrev cX8_refusalToDropLeg : ByteArray := prog_10_method_31_code
def yX8_refusalToDropLeg : MethodName := ⟨RX8, "refusalToDropLeg", "(I)I"⟩
abbrev cX8_dropLeg : ByteArray := prog_10_method_32_code
def yX8_dropLeg : MethodName := ⟨RX8, "dropLeg", "(I)I"⟩
abbrev cX8_kindOf : ByteArray := prog_10_method_33_code
def yX8_kindOf : MethodName := ⟨RX8, "kindOf", "(I)I"⟩
abbrev cX8_holdsRecord : ByteArray := prog_10_method_34_code
def yX8_holdsRecord : MethodName := ⟨RX8, "holdsRecord", "(I)Z"⟩
abbrev cX8_ranked : ByteArray := prog_10_method_35_code
def yX8_ranked : MethodName := ⟨RX8, "ranked", "(I)I"⟩
abbrev cX8_rankOf : ByteArray := prog_10_method_36_code
def yX8_rankOf : MethodName := ⟨RX8, "rankOf", "(I)I"⟩
abbrev cX8_isAhead : ByteArray := prog_10_method_37_code
def yX8_isAhead : MethodName := ⟨RX8, "isAhead", "(II)Z"⟩
abbrev cX8_swingingCount : ByteArray := prog_10_method_38_code
def yX8_swingingCount : MethodName := ⟨RX8, "swingingCount", "()I"⟩
abbrev cX8_amplitudeSum : ByteArray := prog_10_method_39_code
def yX8_amplitudeSum : MethodName := ⟨RX8, "amplitudeSum", "()I"⟩
abbrev cX8_misfit : ByteArray := prog_10_method_40_code
def yX8_misfit : MethodName := ⟨RX8, "misfit", "(II)I"⟩
abbrev cX8_swingsInWeek : ByteArray := prog_10_method_41_code
def yX8_swingsInWeek : MethodName := ⟨RX8, "swingsInWeek", "(I)I"⟩
abbrev cX8_nextSwing : ByteArray := prog_10_method_42_code
def yX8_nextSwing : MethodName := ⟨RX8, "nextSwing", "(I)I"⟩
def RX9 : String := "PendulumGym$Word"
def TX9 : u_T := fun k => match k with
  | _ => ("", "", "", false)
def tyX9 : Nat → FieldType := fun k => match k with
  | _ => .int
abbrev wsX90 : List Cond := u_ws RX9 TX9 0
theorem nmX9 : ∀ a, a < 0 → ∀ b, b < 0 → a ≠ b → (TX9 a).2.1 ≠ (TX9 b).2.1 := by decide +kernel
theorem tyX9_ok : ∀ k, k < 0 → parseFieldDescriptor (TX9 k).2.2.1 = some (tyX9 k) := by decide +kernel
def RX10 : String := "PendulumGym"
def TX10 : u_T := fun k => match k with
  | 0 => ("PendulumGym", "state", "LPendulumGym$State;", true)
  | 1 => ("PendulumGym", "beforeProgram", "LPendulumGym$State;", true)
  | 2 => ("PendulumGym", "snapshot", "LPendulumGym$State;", true)
  | 3 => ("PendulumGym", "history", "LPendulumGym$History;", true)
  | 4 => ("PendulumGym", "forecast", "LPendulumGym$Forecast;", true)
  | 5 => ("PendulumGym", "relay", "LPendulumGym$Relay;", true)
  | 6 => ("PendulumGym", "program", "LPendulumGym$Program;", true)
  | 7 => ("PendulumGym", "card", "Ljava/lang/StringBuilder;", true)
  | 8 => ("PendulumGym", "hasSnapshot", "Z", false)
  | 9 => ("PendulumGym", "lastErrorAt", "I", false)
  | _ => ("PendulumGym", "lastFailure", "I", false)
def tyX10 : Nat → FieldType := fun k => match k with
  | 0 => .object "PendulumGym$State"
  | 1 => .object "PendulumGym$State"
  | 2 => .object "PendulumGym$State"
  | 3 => .object "PendulumGym$History"
  | 4 => .object "PendulumGym$Forecast"
  | 5 => .object "PendulumGym$Relay"
  | 6 => .object "PendulumGym$Program"
  | 7 => .object "java/lang/StringBuilder"
  | 8 => .boolean
  | 9 => .int
  | _ => .int
abbrev wsX100 : List Cond := u_ws RX10 TX10 11
theorem nmX10 : ∀ a, a < 11 → ∀ b, b < 11 → a ≠ b → (TX10 a).2.1 ≠ (TX10 b).2.1 := by decide +kernel
theorem tyX10_ok : ∀ k, k < 11 → parseFieldDescriptor (TX10 k).2.2.1 = some (tyX10 k) := by decide +kernel
abbrev cX10_init : ByteArray := prog_1_method_1_code
def yX10_init : MethodName := ⟨RX10, "<init>", "()V"⟩
abbrev cX10_addPendulum : ByteArray := prog_1_method_2_code
def yX10_addPendulum : MethodName := ⟨RX10, "addPendulum", "(I)I"⟩
abbrev cX10_push : ByteArray := prog_1_method_3_code
def yX10_push : MethodName := ⟨RX10, "push", "(II)I"⟩
abbrev cX10_catchPendulum : ByteArray := prog_1_method_4_code
def yX10_catchPendulum : MethodName := ⟨RX10, "catchPendulum", "(I)I"⟩
abbrev cX10_setFriction : ByteArray := prog_1_method_5_code
def yX10_setFriction : MethodName := ⟨RX10, "setFriction", "(I)I"⟩
abbrev cX10_pass : ByteArray := prog_1_method_6_code
def yX10_pass : MethodName := ⟨RX10, "pass", "(I)I"⟩
abbrev cX10_pendulumCount : ByteArray := prog_1_method_7_code
def yX10_pendulumCount : MethodName := ⟨RX10, "pendulumCount", "()I"⟩
abbrev cX10_lengthOf : ByteArray := prog_1_method_8_code
def yX10_lengthOf : MethodName := ⟨RX10, "lengthOf", "(I)I"⟩
abbrev cX10_classOf : ByteArray := prog_1_method_9_code
def yX10_classOf : MethodName := ⟨RX10, "classOf", "(I)I"⟩
abbrev cX10_amplitudeOf : ByteArray := prog_1_method_10_code
def yX10_amplitudeOf : MethodName := ⟨RX10, "amplitudeOf", "(I)I"⟩
abbrev cX10_startOf : ByteArray := prog_1_method_11_code
def yX10_startOf : MethodName := ⟨RX10, "startOf", "(I)I"⟩
abbrev cX10_periodOf : ByteArray := prog_1_method_12_code
def yX10_periodOf : MethodName := ⟨RX10, "periodOf", "(I)I"⟩
abbrev cX10_periodByEstimates : ByteArray := prog_1_method_13_code
def yX10_periodByEstimates : MethodName := ⟨RX10, "periodByEstimates", "(I)I"⟩
abbrev cX10_swingsOf : ByteArray := prog_1_method_14_code
def yX10_swingsOf : MethodName := ⟨RX10, "swingsOf", "(I)I"⟩
abbrev cX10_clock : ByteArray := prog_1_method_15_code
def yX10_clock : MethodName := ⟨RX10, "clock", "()I"⟩
abbrev cX10_friction : ByteArray := prog_1_method_16_code
def yX10_friction : MethodName := ⟨RX10, "friction", "()I"⟩
abbrev cX10_recordOf : ByteArray := prog_1_method_17_code
def yX10_recordOf : MethodName := ⟨RX10, "recordOf", "(I)I"⟩
abbrev cX10_holderOf : ByteArray := prog_1_method_18_code
def yX10_holderOf : MethodName := ⟨RX10, "holderOf", "(I)I"⟩
abbrev cX10_pendulumAtRank : ByteArray := prog_1_method_19_code
def yX10_pendulumAtRank : MethodName := ⟨RX10, "pendulumAtRank", "(I)I"⟩
abbrev cX10_swingsToRest : ByteArray := prog_1_method_20_code
def yX10_swingsToRest : MethodName := ⟨RX10, "swingsToRest", "(I)I"⟩
abbrev cX10_swingsToRestByTable : ByteArray := prog_1_method_21_code
def yX10_swingsToRestByTable : MethodName := ⟨RX10, "swingsToRestByTable", "(I)I"⟩
abbrev cX10_restTick : ByteArray := prog_1_method_22_code
def yX10_restTick : MethodName := ⟨RX10, "restTick", "(I)I"⟩
abbrev cX10_amplitudeAfter : ByteArray := prog_1_method_23_code
def yX10_amplitudeAfter : MethodName := ⟨RX10, "amplitudeAfter", "(II)I"⟩
abbrev cX10_meeting : ByteArray := prog_1_method_24_code
def yX10_meeting : MethodName := ⟨RX10, "meeting", "(II)I"⟩
abbrev cX10_meetingByDivisors : ByteArray := prog_1_method_25_code
def yX10_meetingByDivisors : MethodName := ⟨RX10, "meetingByDivisors", "(II)I"⟩
abbrev cX10_meetingPairs : ByteArray := prog_1_method_26_code
def yX10_meetingPairs : MethodName := ⟨RX10, "meetingPairs", "()I"⟩
abbrev cX10_cycleOf : ByteArray := prog_1_method_27_code
def yX10_cycleOf : MethodName := ⟨RX10, "cycleOf", "(II)I"⟩
abbrev cX10_addLeg : ByteArray := prog_1_method_28_code
def yX10_addLeg : MethodName := ⟨RX10, "addLeg", "(I)I"⟩
abbrev cX10_removeLeg : ByteArray := prog_1_method_29_code
def yX10_removeLeg : MethodName := ⟨RX10, "removeLeg", "(I)I"⟩
abbrev cX10_legCount : ByteArray := prog_1_method_30_code
def yX10_legCount : MethodName := ⟨RX10, "legCount", "()I"⟩
abbrev cX10_wishOf : ByteArray := prog_1_method_31_code
def yX10_wishOf : MethodName := ⟨RX10, "wishOf", "(I)I"⟩
abbrev cX10_leastRelay : ByteArray := prog_1_method_32_code
def yX10_leastRelay : MethodName := ⟨RX10, "leastRelay", "()I"⟩
abbrev cX10_leastRelayByTrying : ByteArray := prog_1_method_33_code
def yX10_leastRelayByTrying : MethodName := ⟨RX10, "leastRelayByTrying", "()I"⟩
abbrev cX10_runnerOf : ByteArray := prog_1_method_34_code
def yX10_runnerOf : MethodName := ⟨RX10, "runnerOf", "(I)I"⟩
abbrev cX10_fewestFor : ByteArray := prog_1_method_35_code
def yX10_fewestFor : MethodName := ⟨RX10, "fewestFor", "(I)I"⟩
abbrev cX10_fewestForBySets : ByteArray := prog_1_method_36_code
def yX10_fewestForBySets : MethodName := ⟨RX10, "fewestForBySets", "(I)I"⟩
abbrev cX10_exactSets : ByteArray := prog_1_method_37_code
def yX10_exactSets : MethodName := ⟨RX10, "exactSets", "(I)I"⟩
abbrev cX10_meanAmplitude : ByteArray := prog_1_method_38_code
def yX10_meanAmplitude : MethodName := ⟨RX10, "meanAmplitude", "()D"⟩
abbrev cX10_writeCard : ByteArray := prog_1_method_39_code
def yX10_writeCard : MethodName := ⟨RX10, "writeCard", "(I)I"⟩
abbrev cX10_cardAt : ByteArray := prog_1_method_40_code
def yX10_cardAt : MethodName := ⟨RX10, "cardAt", "(I)C"⟩
abbrev cX10_type : ByteArray := prog_1_method_41_code
def yX10_type : MethodName := ⟨RX10, "type", "(C)I"⟩
abbrev cX10_execute : ByteArray := prog_1_method_42_code
def yX10_execute : MethodName := ⟨RX10, "execute", "()I"⟩
abbrev cX10_errorPosition : ByteArray := prog_1_method_43_code
def yX10_errorPosition : MethodName := ⟨RX10, "errorPosition", "()I"⟩
abbrev cX10_failedCommand : ByteArray := prog_1_method_44_code
def yX10_failedCommand : MethodName := ⟨RX10, "failedCommand", "()I"⟩
abbrev cX10_undo : ByteArray := prog_1_method_45_code
def yX10_undo : MethodName := ⟨RX10, "undo", "()I"⟩
abbrev cX10_save : ByteArray := prog_1_method_46_code
def yX10_save : MethodName := ⟨RX10, "save", "()I"⟩
abbrev cX10_restore : ByteArray := prog_1_method_47_code
def yX10_restore : MethodName := ⟨RX10, "restore", "()I"⟩
abbrev cX10_throwIfRefused : ByteArray := prog_1_method_48_code
def yX10_throwIfRefused : MethodName := ⟨RX10, "throwIfRefused", "(I)V"⟩
abbrev cX10_requirePendulum : ByteArray := prog_1_method_49_code
def yX10_requirePendulum : MethodName := ⟨RX10, "requirePendulum", "(I)V"⟩
abbrev cX10_requireSwinging : ByteArray := prog_1_method_50_code
def yX10_requireSwinging : MethodName := ⟨RX10, "requireSwinging", "(I)V"⟩
abbrev cX10_requireBothSwinging : ByteArray := prog_1_method_51_code
def yX10_requireBothSwinging : MethodName := ⟨RX10, "requireBothSwinging", "(II)V"⟩
abbrev cX10_requireMeeting : ByteArray := prog_1_method_52_code
def yX10_requireMeeting : MethodName := ⟨RX10, "requireMeeting", "(I)I"⟩
abbrev cX10_requireRecord : ByteArray := prog_1_method_53_code
def yX10_requireRecord : MethodName := ⟨RX10, "requireRecord", "(I)V"⟩
abbrev cX10_requireLeg : ByteArray := prog_1_method_54_code
def yX10_requireLeg : MethodName := ⟨RX10, "requireLeg", "(I)V"⟩
abbrev cX10_requireRelay : ByteArray := prog_1_method_55_code
def yX10_requireRelay : MethodName := ⟨RX10, "requireRelay", "()V"⟩
abbrev cX10_requireQuota : ByteArray := prog_1_method_56_code
def yX10_requireQuota : MethodName := ⟨RX10, "requireQuota", "(II)V"⟩
abbrev cX10_requireEnough : ByteArray := prog_1_method_57_code
def yX10_requireEnough : MethodName := ⟨RX10, "requireEnough", "(I)I"⟩
abbrev cX10_firstFailure : ByteArray := prog_1_method_58_code
def yX10_firstFailure : MethodName := ⟨RX10, "firstFailure", "()I"⟩
abbrev cX10_obey : ByteArray := prog_1_method_59_code
def yX10_obey : MethodName := ⟨RX10, "obey", "(LPendulumGym$Word;II)Z"⟩
abbrev cX10_bestByTrying : ByteArray := prog_1_method_60_code
def yX10_bestByTrying : MethodName := ⟨RX10, "bestByTrying", "(LPendulumGym$State;IIII)I"⟩
def RX11 : String := "PendulumGymModel"
def TX11 : u_T := fun k => match k with
  | _ => ("", "", "", false)
def tyX11 : Nat → FieldType := fun k => match k with
  | _ => .int
abbrev wsX110 : List Cond := u_ws RX11 TX11 0
theorem nmX11 : ∀ a, a < 0 → ∀ b, b < 0 → a ≠ b → (TX11 a).2.1 ≠ (TX11 b).2.1 := by decide +kernel
theorem tyX11_ok : ∀ k, k < 0 → parseFieldDescriptor (TX11 k).2.2.1 = some (tyX11 k) := by decide +kernel
def RJx145de : String := "java/io/Serializable"
def TJx145de : u_T := fun k => match k with
  | _ => ("", "", "", false)
def tyJx145de : Nat → FieldType := fun k => match k with
  | _ => .int
abbrev wsJx145de0 : List Cond := u_ws RJx145de TJx145de 0
theorem nmJx145de : ∀ a, a < 0 → ∀ b, b < 0 → a ≠ b → (TJx145de a).2.1 ≠ (TJx145de b).2.1 := by decide +kernel
theorem tyJx145de_ok : ∀ k, k < 0 → parseFieldDescriptor (TJx145de k).2.2.1 = some (tyJx145de k) := by decide +kernel
def RJ5 : String := "java/lang/AbstractStringBuilder"
def TJ5 : u_T := fun k => match k with
  | _ => ("", "", "", false)
def tyJ5 : Nat → FieldType := fun k => match k with
  | _ => .int
abbrev wsJ50 : List Cond := u_ws RJ5 TJ5 0
theorem nmJ5 : ∀ a, a < 0 → ∀ b, b < 0 → a ≠ b → (TJ5 a).2.1 ≠ (TJ5 b).2.1 := by decide +kernel
theorem tyJ5_ok : ∀ k, k < 0 → parseFieldDescriptor (TJ5 k).2.2.1 = some (tyJ5 k) := by decide +kernel
abbrev cJ5_init_d00df : ByteArray := prog_15_method_2_code
def yJ5_init_d00df : MethodName := ⟨RJ5, "<init>", "(I)V"⟩
abbrev cJ5_length_8abf5 : ByteArray := prog_15_method_6_code
def yJ5_length_8abf5 : MethodName := ⟨RJ5, "length", "()I"⟩
abbrev cJ5_ensureCapacityInternal_d00df : ByteArray := prog_15_method_9_code
def yJ5_ensureCapacityInternal_d00df : MethodName := ⟨RJ5, "ensureCapacityInternal", "(I)V"⟩
abbrev cJ5_newCapacity_0f7a4 : ByteArray := prog_15_method_10_code
def yJ5_newCapacity_0f7a4 : MethodName := ⟨RJ5, "newCapacity", "(I)I"⟩
abbrev cJ5_inflate_da8c8 : ByteArray := prog_15_method_11_code
def yJ5_inflate_da8c8 : MethodName := ⟨RJ5, "inflate", "()V"⟩
abbrev cJ5_setLength_d00df : ByteArray := prog_15_method_13_code
def yJ5_setLength_d00df : MethodName := ⟨RJ5, "setLength", "(I)V"⟩
abbrev cJ5_charAt_5068e : ByteArray := prog_15_method_14_code
def yJ5_charAt_5068e : MethodName := ⟨RJ5, "charAt", "(I)C"⟩
abbrev cJ5_append_cf1ce : ByteArray := prog_15_method_22_code
def yJ5_append_cf1ce : MethodName := ⟨RJ5, "append", "(Ljava/lang/String;)Ljava/lang/AbstractStringBuilder;"⟩
abbrev cJ5_appendNull_278bc : ByteArray := prog_15_method_26_code
def yJ5_appendNull_278bc : MethodName := ⟨RJ5, "appendNull", "()Ljava/lang/AbstractStringBuilder;"⟩
abbrev cJ5_append_3fe6f : ByteArray := prog_15_method_31_code
def yJ5_append_3fe6f : MethodName := ⟨RJ5, "append", "(C)Ljava/lang/AbstractStringBuilder;"⟩
abbrev cJ5_append_c97b9 : ByteArray := prog_15_method_32_code
def yJ5_append_c97b9 : MethodName := ⟨RJ5, "append", "(I)Ljava/lang/AbstractStringBuilder;"⟩
abbrev cJ5_getValue_6d5f1 : ByteArray := prog_15_method_64_code
def yJ5_getValue_6d5f1 : MethodName := ⟨RJ5, "getValue", "()[B"⟩
abbrev cJ5_isLatin1_aae02 : ByteArray := prog_15_method_68_code
def yJ5_isLatin1_aae02 : MethodName := ⟨RJ5, "isLatin1", "()Z"⟩
abbrev cJ5_inflateIfNeededFor_a7421 : ByteArray := prog_15_method_71_code
def yJ5_inflateIfNeededFor_a7421 : MethodName := ⟨RJ5, "inflateIfNeededFor", "(Ljava/lang/String;)V"⟩
abbrev cJ5_putStringAt_47b60 : ByteArray := prog_15_method_73_code
def yJ5_putStringAt_47b60 : MethodName := ⟨RJ5, "putStringAt", "(ILjava/lang/String;)V"⟩
def RJx2cfe8 : String := "java/lang/Appendable"
def TJx2cfe8 : u_T := fun k => match k with
  | _ => ("", "", "", false)
def tyJx2cfe8 : Nat → FieldType := fun k => match k with
  | _ => .int
abbrev wsJx2cfe80 : List Cond := u_ws RJx2cfe8 TJx2cfe8 0
theorem nmJx2cfe8 : ∀ a, a < 0 → ∀ b, b < 0 → a ≠ b → (TJx2cfe8 a).2.1 ≠ (TJx2cfe8 b).2.1 := by decide +kernel
theorem tyJx2cfe8_ok : ∀ k, k < 0 → parseFieldDescriptor (TJx2cfe8 k).2.2.1 = some (tyJx2cfe8 k) := by decide +kernel
def RJx00060 : String := "java/lang/ArrayIndexOutOfBoundsException"
def TJx00060 : u_T := fun k => match k with
  | 0 => ("java/lang/Throwable", "cause", "Ljava/lang/Throwable;", false)
  | 1 => ("java/lang/Throwable", "stackTrace", "[Ljava/lang/StackTraceElement;", false)
  | 2 => ("java/lang/Throwable", "suppressedExceptions", "Ljava/util/List;", false)
  | 3 => ("java/lang/Throwable", "detailMessage", "Ljava/lang/String;", false)
  | 4 => ("java/lang/Throwable", "backtrace", "Ljava/lang/Object;", false)
  | _ => ("java/lang/Throwable", "depth", "I", false)
def tyJx00060 : Nat → FieldType := fun k => match k with
  | 0 => .object "java/lang/Throwable"
  | 1 => .array (.object "java/lang/StackTraceElement")
  | 2 => .object "java/util/List"
  | 3 => .object "java/lang/String"
  | 4 => .object "java/lang/Object"
  | _ => .int
abbrev wsJx000600 : List Cond := u_ws RJx00060 TJx00060 6
theorem nmJx00060 : ∀ a, a < 6 → ∀ b, b < 6 → a ≠ b → (TJx00060 a).2.1 ≠ (TJx00060 b).2.1 := by decide +kernel
theorem tyJx00060_ok : ∀ k, k < 6 → parseFieldDescriptor (TJx00060 k).2.2.1 = some (tyJx00060 k) := by decide +kernel
abbrev cJx00060_init_a7421 : ByteArray := prog_18_method_2_code
def yJx00060_init_a7421 : MethodName := ⟨RJx00060, "<init>", "(Ljava/lang/String;)V"⟩
abbrev cJx00060_init_d00df : ByteArray := prog_18_method_3_code
def yJx00060_init_d00df : MethodName := ⟨RJx00060, "<init>", "(I)V"⟩
def RJx9f9b0 : String := "java/lang/CharSequence"
def TJx9f9b0 : u_T := fun k => match k with
  | _ => ("", "", "", false)
def tyJx9f9b0 : Nat → FieldType := fun k => match k with
  | _ => .int
abbrev wsJx9f9b00 : List Cond := u_ws RJx9f9b0 TJx9f9b0 0
theorem nmJx9f9b0 : ∀ a, a < 0 → ∀ b, b < 0 → a ≠ b → (TJx9f9b0 a).2.1 ≠ (TJx9f9b0 b).2.1 := by decide +kernel
theorem tyJx9f9b0_ok : ∀ k, k < 0 → parseFieldDescriptor (TJx9f9b0 k).2.2.1 = some (tyJx9f9b0 k) := by decide +kernel
def RJx8e188 : String := "java/lang/Cloneable"
def TJx8e188 : u_T := fun k => match k with
  | _ => ("", "", "", false)
def tyJx8e188 : Nat → FieldType := fun k => match k with
  | _ => .int
abbrev wsJx8e1880 : List Cond := u_ws RJx8e188 TJx8e188 0
theorem nmJx8e188 : ∀ a, a < 0 → ∀ b, b < 0 → a ≠ b → (TJx8e188 a).2.1 ≠ (TJx8e188 b).2.1 := by decide +kernel
theorem tyJx8e188_ok : ∀ k, k < 0 → parseFieldDescriptor (TJx8e188 k).2.2.1 = some (tyJx8e188 k) := by decide +kernel
def RJxb160c : String := "java/lang/Comparable"
def TJxb160c : u_T := fun k => match k with
  | _ => ("", "", "", false)
def tyJxb160c : Nat → FieldType := fun k => match k with
  | _ => .int
abbrev wsJxb160c0 : List Cond := u_ws RJxb160c TJxb160c 0
theorem nmJxb160c : ∀ a, a < 0 → ∀ b, b < 0 → a ≠ b → (TJxb160c a).2.1 ≠ (TJxb160c b).2.1 := by decide +kernel
theorem tyJxb160c_ok : ∀ k, k < 0 → parseFieldDescriptor (TJxb160c k).2.2.1 = some (tyJxb160c k) := by decide +kernel
def RJx29ce0 : String := "java/lang/Enum"
def TJx29ce0 : u_T := fun k => match k with
  | _ => ("", "", "", false)
def tyJx29ce0 : Nat → FieldType := fun k => match k with
  | _ => .int
abbrev wsJx29ce00 : List Cond := u_ws RJx29ce0 TJx29ce0 0
theorem nmJx29ce0 : ∀ a, a < 0 → ∀ b, b < 0 → a ≠ b → (TJx29ce0 a).2.1 ≠ (TJx29ce0 b).2.1 := by decide +kernel
theorem tyJx29ce0_ok : ∀ k, k < 0 → parseFieldDescriptor (TJx29ce0 k).2.2.1 = some (tyJx29ce0 k) := by decide +kernel
abbrev cJx29ce0_ordinal_8abf5 : ByteArray := prog_22_method_2_code
def yJx29ce0_ordinal_8abf5 : MethodName := ⟨RJx29ce0, "ordinal", "()I"⟩
def RJ6 : String := "java/lang/Integer"
def TJ6 : u_T := fun k => match k with
  | _ => ("", "", "", false)
def tyJ6 : Nat → FieldType := fun k => match k with
  | _ => .int
abbrev wsJ60 : List Cond := u_ws RJ6 TJ6 0
theorem nmJ6 : ∀ a, a < 0 → ∀ b, b < 0 → a ≠ b → (TJ6 a).2.1 ≠ (TJ6 b).2.1 := by decide +kernel
theorem tyJ6_ok : ∀ k, k < 0 → parseFieldDescriptor (TJ6 k).2.2.1 = some (tyJ6 k) := by decide +kernel
abbrev cJ6_getChars_ba4f3 : ByteArray := prog_27_method_12_code
def yJ6_getChars_ba4f3 : MethodName := ⟨RJ6, "getChars", "(II[B)I"⟩
abbrev cJ6_stringSize_0f7a4 : ByteArray := prog_27_method_13_code
def yJ6_stringSize_0f7a4 : MethodName := ⟨RJ6, "stringSize", "(I)I"⟩
abbrev cJ6_bitCount_0f7a4 : ByteArray := prog_27_method_49_code
def yJ6_bitCount_0f7a4 : MethodName := ⟨RJ6, "bitCount", "(I)I"⟩
def RJ9 : String := "java/lang/Math"
def TJ9 : u_T := fun k => match k with
  | _ => ("", "", "", false)
def tyJ9 : Nat → FieldType := fun k => match k with
  | _ => .int
abbrev wsJ90 : List Cond := u_ws RJ9 TJ9 0
theorem nmJ9 : ∀ a, a < 0 → ∀ b, b < 0 → a ≠ b → (TJ9 a).2.1 ≠ (TJ9 b).2.1 := by decide +kernel
theorem tyJ9_ok : ∀ k, k < 0 → parseFieldDescriptor (TJ9 k).2.2.1 = some (tyJ9 k) := by decide +kernel
abbrev cJ9_floorMod_7cf53 : ByteArray := prog_28_method_50_code
def yJ9_floorMod_7cf53 : MethodName := ⟨RJ9, "floorMod", "(II)I"⟩
abbrev cJ9_abs_0f7a4 : ByteArray := prog_28_method_59_code
def yJ9_abs_0f7a4 : MethodName := ⟨RJ9, "abs", "(I)I"⟩
abbrev cJ9_max_7cf53 : ByteArray := prog_28_method_65_code
def yJ9_max_7cf53 : MethodName := ⟨RJ9, "max", "(II)I"⟩
abbrev cJ9_min_7cf53 : ByteArray := prog_28_method_69_code
def yJ9_min_7cf53 : MethodName := ⟨RJ9, "min", "(II)I"⟩
def RJxd2413 : String := "java/lang/Number"
def TJxd2413 : u_T := fun k => match k with
  | _ => ("", "", "", false)
def tyJxd2413 : Nat → FieldType := fun k => match k with
  | _ => .int
abbrev wsJxd24130 : List Cond := u_ws RJxd2413 TJxd2413 0
theorem nmJxd2413 : ∀ a, a < 0 → ∀ b, b < 0 → a ≠ b → (TJxd2413 a).2.1 ≠ (TJxd2413 b).2.1 := by decide +kernel
theorem tyJxd2413_ok : ∀ k, k < 0 → parseFieldDescriptor (TJxd2413 k).2.2.1 = some (tyJxd2413 k) := by decide +kernel
def RJ0 : String := "java/lang/String"
def TJ0 : u_T := fun k => match k with
  | 0 => ("java/lang/String", "value", "[B", true)
  | 1 => ("java/lang/String", "coder", "B", true)
  | 2 => ("java/lang/String", "hash", "I", false)
  | _ => ("java/lang/String", "hashIsZero", "Z", false)
def tyJ0 : Nat → FieldType := fun k => match k with
  | 0 => .array .byte
  | 1 => .byte
  | 2 => .int
  | _ => .boolean
abbrev wsJ00 : List Cond := u_ws RJ0 TJ0 4
theorem nmJ0 : ∀ a, a < 4 → ∀ b, b < 4 → a ≠ b → (TJ0 a).2.1 ≠ (TJ0 b).2.1 := by decide +kernel
theorem tyJ0_ok : ∀ k, k < 4 → parseFieldDescriptor (TJ0 k).2.2.1 = some (tyJ0 k) := by decide +kernel
abbrev cJ0_init_81219 : ByteArray := prog_31_method_53_code
def yJ0_init_81219 : MethodName := ⟨RJ0, "<init>", "(Ljava/lang/StringBuilder;)V"⟩
abbrev cJ0_length_8abf5 : ByteArray := prog_31_method_54_code
def yJ0_length_8abf5 : MethodName := ⟨RJ0, "length", "()I"⟩
abbrev cJ0_charAt_5068e : ByteArray := prog_31_method_56_code
def yJ0_charAt_5068e : MethodName := ⟨RJ0, "charAt", "(I)C"⟩
abbrev cJ0_getBytes_840e7 : ByteArray := prog_31_method_147_code
def yJ0_getBytes_840e7 : MethodName := ⟨RJ0, "getBytes", "([BIB)V"⟩
abbrev cJ0_init_db425 : ByteArray := prog_31_method_150_code
def yJ0_init_db425 : MethodName := ⟨RJ0, "<init>", "(Ljava/lang/AbstractStringBuilder;Ljava/lang/Void;)V"⟩
abbrev cJ0_coder_7d493 : ByteArray := prog_31_method_152_code
def yJ0_coder_7d493 : MethodName := ⟨RJ0, "coder", "()B"⟩
abbrev cJ0_isLatin1_aae02 : ByteArray := prog_31_method_154_code
def yJ0_isLatin1_aae02 : MethodName := ⟨RJ0, "isLatin1", "()Z"⟩
abbrev cJ0_checkIndex_df160 : ByteArray := prog_31_method_155_code
def yJ0_checkIndex_df160 : MethodName := ⟨RJ0, "checkIndex", "(II)V"⟩
abbrev cJ0_checkBoundsOffCount_cabcc : ByteArray := prog_31_method_157_code
def yJ0_checkBoundsOffCount_cabcc : MethodName := ⟨RJ0, "checkBoundsOffCount", "(III)I"⟩
abbrev cJ0_checkBoundsBeginEnd_23922 : ByteArray := prog_31_method_158_code
def yJ0_checkBoundsBeginEnd_23922 : MethodName := ⟨RJ0, "checkBoundsBeginEnd", "(III)V"⟩
def RJ4 : String := "java/lang/StringBuilder"
def TJ4 : u_T := fun k => match k with
  | 0 => ("java/lang/AbstractStringBuilder", "value", "[B", false)
  | 1 => ("java/lang/AbstractStringBuilder", "coder", "B", false)
  | 2 => ("java/lang/AbstractStringBuilder", "maybeLatin1", "Z", false)
  | _ => ("java/lang/AbstractStringBuilder", "count", "I", false)
def tyJ4 : Nat → FieldType := fun k => match k with
  | 0 => .array .byte
  | 1 => .byte
  | 2 => .boolean
  | _ => .int
abbrev wsJ40 : List Cond := u_ws RJ4 TJ4 4
theorem nmJ4 : ∀ a, a < 4 → ∀ b, b < 4 → a ≠ b → (TJ4 a).2.1 ≠ (TJ4 b).2.1 := by decide +kernel
theorem tyJ4_ok : ∀ k, k < 4 → parseFieldDescriptor (TJ4 k).2.2.1 = some (tyJ4 k) := by decide +kernel
abbrev cJ4_init_da8c8 : ByteArray := prog_32_method_1_code
def yJ4_init_da8c8 : MethodName := ⟨RJ4, "<init>", "()V"⟩
abbrev cJ4_append_15ec4 : ByteArray := prog_32_method_7_code
def yJ4_append_15ec4 : MethodName := ⟨RJ4, "append", "(Ljava/lang/String;)Ljava/lang/StringBuilder;"⟩
abbrev cJ4_append_cf468 : ByteArray := prog_32_method_14_code
def yJ4_append_cf468 : MethodName := ⟨RJ4, "append", "(C)Ljava/lang/StringBuilder;"⟩
abbrev cJ4_append_bf812 : ByteArray := prog_32_method_15_code
def yJ4_append_bf812 : MethodName := ⟨RJ4, "append", "(I)Ljava/lang/StringBuilder;"⟩
abbrev cJ4_toString_0e30d : ByteArray := prog_32_method_42_code
def yJ4_toString_0e30d : MethodName := ⟨RJ4, "toString", "()Ljava/lang/String;"⟩
abbrev cJ4_charAt_5068e : ByteArray := prog_32_method_88_code
def yJ4_charAt_5068e : MethodName := ⟨RJ4, "charAt", "(I)C"⟩
abbrev cJ4_setLength_d00df : ByteArray := prog_32_method_89_code
def yJ4_setLength_d00df : MethodName := ⟨RJ4, "setLength", "(I)V"⟩
abbrev cJ4_length_8abf5 : ByteArray := prog_32_method_93_code
def yJ4_length_8abf5 : MethodName := ⟨RJ4, "length", "()I"⟩
def RJx7c733 : String := "java/lang/StringIndexOutOfBoundsException"
def TJx7c733 : u_T := fun k => match k with
  | 0 => ("java/lang/Throwable", "backtrace", "Ljava/lang/Object;", false)
  | 1 => ("java/lang/Throwable", "detailMessage", "Ljava/lang/String;", false)
  | 2 => ("java/lang/Throwable", "cause", "Ljava/lang/Throwable;", false)
  | 3 => ("java/lang/Throwable", "stackTrace", "[Ljava/lang/StackTraceElement;", false)
  | 4 => ("java/lang/Throwable", "depth", "I", false)
  | _ => ("java/lang/Throwable", "suppressedExceptions", "Ljava/util/List;", false)
def tyJx7c733 : Nat → FieldType := fun k => match k with
  | 0 => .object "java/lang/Object"
  | 1 => .object "java/lang/String"
  | 2 => .object "java/lang/Throwable"
  | 3 => .array (.object "java/lang/StackTraceElement")
  | 4 => .int
  | _ => .object "java/util/List"
abbrev wsJx7c7330 : List Cond := u_ws RJx7c733 TJx7c733 6
theorem nmJx7c733 : ∀ a, a < 6 → ∀ b, b < 6 → a ≠ b → (TJx7c733 a).2.1 ≠ (TJx7c733 b).2.1 := by decide +kernel
theorem tyJx7c733_ok : ∀ k, k < 6 → parseFieldDescriptor (TJx7c733 k).2.2.1 = some (tyJx7c733 k) := by decide +kernel
abbrev cJx7c733_init_d00df : ByteArray := prog_33_method_3_code
def yJx7c733_init_d00df : MethodName := ⟨RJx7c733, "<init>", "(I)V"⟩
def RJ1 : String := "java/lang/StringLatin1"
def TJ1 : u_T := fun k => match k with
  | _ => ("", "", "", false)
def tyJ1 : Nat → FieldType := fun k => match k with
  | _ => .int
abbrev wsJ10 : List Cond := u_ws RJ1 TJ1 0
theorem nmJ1 : ∀ a, a < 0 → ∀ b, b < 0 → a ≠ b → (TJ1 a).2.1 ≠ (TJ1 b).2.1 := by decide +kernel
theorem tyJ1_ok : ∀ k, k < 0 → parseFieldDescriptor (TJ1 k).2.2.1 = some (tyJ1 k) := by decide +kernel
abbrev cJ1_charAt_3b067 : ByteArray := prog_34_method_2_code
def yJ1_charAt_3b067 : MethodName := ⟨RJ1, "charAt", "([BI)C"⟩
abbrev cJ1_canEncode_fc78d : ByteArray := prog_34_method_3_code
def yJ1_canEncode_fc78d : MethodName := ⟨RJ1, "canEncode", "(C)Z"⟩
abbrev cJ1_fillNull_b72d1 : ByteArray := prog_34_method_48_code
def yJ1_fillNull_b72d1 : MethodName := ⟨RJ1, "fillNull", "([BII)V"⟩
abbrev cJ1_inflate_0e8fd : ByteArray := prog_34_method_50_code
def yJ1_inflate_0e8fd : MethodName := ⟨RJ1, "inflate", "([BI[BII)V"⟩
def RJ2 : String := "java/lang/StringUTF16"
def TJ2 : u_T := fun k => match k with
  | _ => ("", "", "", false)
def tyJ2 : Nat → FieldType := fun k => match k with
  | _ => .int
abbrev wsJ20 : List Cond := u_ws RJ2 TJ2 0
theorem nmJ2 : ∀ a, a < 0 → ∀ b, b < 0 → a ≠ b → (TJ2 a).2.1 ≠ (TJ2 b).2.1 := by decide +kernel
theorem tyJ2_ok : ∀ k, k < 0 → parseFieldDescriptor (TJ2 k).2.2.1 = some (tyJ2 k) := by decide +kernel
abbrev cJ2_newBytesFor_77867 : ByteArray := prog_35_method_2_code
def yJ2_newBytesFor_77867 : MethodName := ⟨RJ2, "newBytesFor", "(I)[B"⟩
abbrev cJ2_newBytesLength_0f7a4 : ByteArray := prog_35_method_3_code
def yJ2_newBytesLength_0f7a4 : MethodName := ⟨RJ2, "newBytesLength", "(I)I"⟩
abbrev cJ2_putChar_b72d1 : ByteArray := prog_35_method_4_code
def yJ2_putChar_b72d1 : MethodName := ⟨RJ2, "putChar", "([BII)V"⟩
abbrev cJ2_getChar_3b067 : ByteArray := prog_35_method_5_code
def yJ2_getChar_3b067 : MethodName := ⟨RJ2, "getChar", "([BI)C"⟩
abbrev cJ2_length_9d52b : ByteArray := prog_35_method_6_code
def yJ2_length_9d52b : MethodName := ⟨RJ2, "length", "([B)I"⟩
abbrev cJ2_coderFromArrayLen_85cad : ByteArray := prog_35_method_15_code
def yJ2_coderFromArrayLen_85cad : MethodName := ⟨RJ2, "coderFromArrayLen", "([BI)B"⟩
abbrev cJ2_compress_39247 : ByteArray := prog_35_method_17_code
def yJ2_compress_39247 : MethodName := ⟨RJ2, "compress", "([BII)[B"⟩
abbrev cJ2_compress_5af95 : ByteArray := prog_35_method_22_code
def yJ2_compress_5af95 : MethodName := ⟨RJ2, "compress", "([BI[BII)I"⟩
abbrev cJ2_fillNull_b72d1 : ByteArray := prog_35_method_70_code
def yJ2_fillNull_b72d1 : MethodName := ⟨RJ2, "fillNull", "([BII)V"⟩
abbrev cJ2_putCharSB_b72d1 : ByteArray := prog_35_method_71_code
def yJ2_putCharSB_b72d1 : MethodName := ⟨RJ2, "putCharSB", "([BII)V"⟩
abbrev cJ2_getChars_46870 : ByteArray := prog_35_method_77_code
def yJ2_getChars_46870 : MethodName := ⟨RJ2, "getChars", "(III[B)I"⟩
abbrev cJ2_putCharsAt_cd4e5 : ByteArray := prog_35_method_81_code
def yJ2_putCharsAt_cd4e5 : MethodName := ⟨RJ2, "putCharsAt", "([BICCCC)I"⟩
abbrev cJ2_charAt_3b067 : ByteArray := prog_35_method_83_code
def yJ2_charAt_3b067 : MethodName := ⟨RJ2, "charAt", "([BI)C"⟩
abbrev cJ2_inflate_0e8fd : ByteArray := prog_35_method_86_code
def yJ2_inflate_0e8fd : MethodName := ⟨RJ2, "inflate", "([BI[BII)V"⟩
abbrev cJ2_getChars_ba4f3 : ByteArray := prog_35_method_89_code
def yJ2_getChars_ba4f3 : MethodName := ⟨RJ2, "getChars", "(II[B)I"⟩
abbrev cJ2_checkIndex_2214a : ByteArray := prog_35_method_91_code
def yJ2_checkIndex_2214a : MethodName := ⟨RJ2, "checkIndex", "(I[B)V"⟩
abbrev cJ2_checkBoundsBeginEnd_d044e : ByteArray := prog_35_method_93_code
def yJ2_checkBoundsBeginEnd_d044e : MethodName := ⟨RJ2, "checkBoundsBeginEnd", "(II[B)V"⟩
abbrev cJ2_checkBoundsOffCount_d044e : ByteArray := prog_35_method_94_code
def yJ2_checkBoundsOffCount_d044e : MethodName := ⟨RJ2, "checkBoundsOffCount", "(II[B)V"⟩
def RJ10 : String := "java/lang/System"
def TJ10 : u_T := fun k => match k with
  | _ => ("", "", "", false)
def tyJ10 : Nat → FieldType := fun k => match k with
  | _ => .int
abbrev wsJ100 : List Cond := u_ws RJ10 TJ10 0
theorem nmJ10 : ∀ a, a < 0 → ∀ b, b < 0 → a ≠ b → (TJ10 a).2.1 ≠ (TJ10 b).2.1 := by decide +kernel
theorem tyJ10_ok : ∀ k, k < 0 → parseFieldDescriptor (TJ10 k).2.2.1 = some (tyJ10 k) := by decide +kernel
def RJxfd54e : String := "java/lang/constant/Constable"
def TJxfd54e : u_T := fun k => match k with
  | _ => ("", "", "", false)
def tyJxfd54e : Nat → FieldType := fun k => match k with
  | _ => .int
abbrev wsJxfd54e0 : List Cond := u_ws RJxfd54e TJxfd54e 0
theorem nmJxfd54e : ∀ a, a < 0 → ∀ b, b < 0 → a ≠ b → (TJxfd54e a).2.1 ≠ (TJxfd54e b).2.1 := by decide +kernel
theorem tyJxfd54e_ok : ∀ k, k < 0 → parseFieldDescriptor (TJxfd54e k).2.2.1 = some (tyJxfd54e k) := by decide +kernel
def RJx3cf43 : String := "java/lang/constant/ConstantDesc"
def TJx3cf43 : u_T := fun k => match k with
  | _ => ("", "", "", false)
def tyJx3cf43 : Nat → FieldType := fun k => match k with
  | _ => .int
abbrev wsJx3cf430 : List Cond := u_ws RJx3cf43 TJx3cf43 0
theorem nmJx3cf43 : ∀ a, a < 0 → ∀ b, b < 0 → a ≠ b → (TJx3cf43 a).2.1 ≠ (TJx3cf43 b).2.1 := by decide +kernel
theorem tyJx3cf43_ok : ∀ k, k < 0 → parseFieldDescriptor (TJx3cf43 k).2.2.1 = some (tyJx3cf43 k) := by decide +kernel
def RJ7 : String := "java/util/Arrays"
def TJ7 : u_T := fun k => match k with
  | _ => ("", "", "", false)
def tyJ7 : Nat → FieldType := fun k => match k with
  | _ => .int
abbrev wsJ70 : List Cond := u_ws RJ7 TJ7 0
theorem nmJ7 : ∀ a, a < 0 → ∀ b, b < 0 → a ≠ b → (TJ7 a).2.1 ≠ (TJ7 b).2.1 := by decide +kernel
theorem tyJ7_ok : ∀ k, k < 0 → parseFieldDescriptor (TJ7 k).2.2.1 = some (tyJ7 k) := by decide +kernel
abbrev cJ7_rangeCheck_23922 : ByteArray := prog_40_method_30_code
def yJ7_rangeCheck_23922 : MethodName := ⟨RJ7, "rangeCheck", "(III)V"⟩
abbrev cJ7_fill_eb02e : ByteArray := prog_40_method_110_code
def yJ7_fill_eb02e : MethodName := ⟨RJ7, "fill", "([BIIB)V"⟩
abbrev cJ7_copyOf_9075b : ByteArray := prog_40_method_121_code
def yJ7_copyOf_9075b : MethodName := ⟨RJ7, "copyOf", "([BI)[B"⟩
abbrev cJ7_checkLength_df160 : ByteArray := prog_40_method_131_code
def yJ7_checkLength_df160 : MethodName := ⟨RJ7, "checkLength", "(II)V"⟩
abbrev cJ7_copyOfRange_39247 : ByteArray := prog_40_method_132_code
def yJ7_copyOfRange_39247 : MethodName := ⟨RJ7, "copyOfRange", "([BII)[B"⟩
abbrev cJ7_copyOfRangeByte_39247 : ByteArray := prog_40_method_133_code
def yJ7_copyOfRangeByte_39247 : MethodName := ⟨RJ7, "copyOfRangeByte", "([BII)[B"⟩
def RJ8 : String := "jdk/internal/util/ArraysSupport"
def TJ8 : u_T := fun k => match k with
  | _ => ("", "", "", false)
def tyJ8 : Nat → FieldType := fun k => match k with
  | _ => .int
abbrev wsJ80 : List Cond := u_ws RJ8 TJ8 0
theorem nmJ8 : ∀ a, a < 0 → ∀ b, b < 0 → a ≠ b → (TJ8 a).2.1 ≠ (TJ8 b).2.1 := by decide +kernel
theorem tyJ8_ok : ∀ k, k < 0 → parseFieldDescriptor (TJ8 k).2.2.1 = some (tyJ8 k) := by decide +kernel
abbrev cJ8_newLength_cabcc : ByteArray := prog_42_method_27_code
def yJ8_newLength_cabcc : MethodName := ⟨RJ8, "newLength", "(III)I"⟩
abbrev cJ8_hugeLength_7cf53 : ByteArray := prog_42_method_28_code
def yJ8_hugeLength_7cf53 : MethodName := ⟨RJ8, "hugeLength", "(II)I"⟩
def RJ3 : String := "jdk/internal/util/Preconditions"
def TJ3 : u_T := fun k => match k with
  | _ => ("", "", "", false)
def tyJ3 : Nat → FieldType := fun k => match k with
  | _ => .int
abbrev wsJ30 : List Cond := u_ws RJ3 TJ3 0
theorem nmJ3 : ∀ a, a < 0 → ∀ b, b < 0 → a ≠ b → (TJ3 a).2.1 ≠ (TJ3 b).2.1 := by decide +kernel
theorem tyJ3_ok : ∀ k, k < 0 → parseFieldDescriptor (TJ3 k).2.2.1 = some (tyJ3 k) := by decide +kernel
abbrev cJ3_checkIndex_8e157 : ByteArray := prog_43_method_11_code
def yJ3_checkIndex_8e157 : MethodName := ⟨RJ3, "checkIndex", "(IILjava/util/function/BiFunction;)I"⟩
abbrev cJ3_checkFromToIndex_8c36e : ByteArray := prog_43_method_12_code
def yJ3_checkFromToIndex_8c36e : MethodName := ⟨RJ3, "checkFromToIndex", "(IIILjava/util/function/BiFunction;)I"⟩
abbrev cJ3_checkFromIndexSize_8c36e : ByteArray := prog_43_method_13_code
def yJ3_checkFromIndexSize_8c36e : MethodName := ⟨RJ3, "checkFromIndexSize", "(IIILjava/util/function/BiFunction;)I"⟩
def RL : String := "PendulumGymLaw"
abbrev cL_at : ByteArray := method_2_code
def yL_at : MethodName := ⟨RL, "at", "([II)I"⟩
abbrev cL_put : ByteArray := method_3_code
def yL_put : MethodName := ⟨RL, "put", "(LPendulumGym;Ljava/lang/String;)V"⟩
abbrev cL_build : ByteArray := method_4_code
def yL_build : MethodName := ⟨RL, "build", "([I)LPendulumGym;"⟩
abbrev cL_act : ByteArray := method_5_code
def yL_act : MethodName := ⟨RL, "act", "(LPendulumGym;III)I"⟩
abbrev cL_state : ByteArray := method_6_code
def yL_state : MethodName := ⟨RL, "state", "(LPendulumGym;)I"⟩
abbrev cL_law : ByteArray := code
def yL_law : MethodName := ⟨RL, "law", "([I)Z"⟩
abbrev cL_isCard : ByteArray := method_11_code
def yL_isCard : MethodName := ⟨RL, "isCard", "(LPendulumGym;ILjava/lang/String;)Z"⟩
abbrev cL_runs : ByteArray := method_12_code
def yL_runs : MethodName := ⟨RL, "runs", "(LPendulumGym;)I"⟩
abbrev cL_fails : ByteArray := method_13_code
def yL_fails : MethodName := ⟨RL, "fails", "(LPendulumGym;Ljava/lang/String;I)Z"⟩
abbrev vwCl : List vw_C := [(RJ0, TJ0, 4), (RJ4, TJ4, 4), (RJx00060, TJx00060, 6), (RJx7c733, TJx7c733, 6), (RX1, TX1, 1), (RX2, TX2, 3), (RX5, TX5, 7), (RX7, TX7, 1), (RX8, TX8, 12), (RX10, TX10, 11)]
