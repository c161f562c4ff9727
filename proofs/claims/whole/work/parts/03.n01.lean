/-! ===== BEGIN printed: names, fields, word lists, decode rows ===== -/
def RX0 : String := "StationPiano$Clues"
def TX0 : u_T := fun k => match k with
  | 0 => ("StationPiano$Clues", "keys", "[I", true)
  | 1 => ("StationPiano$Clues", "wears", "[I", true)
  | _ => ("StationPiano$Clues", "length", "I", false)
def tyX0 : Nat → FieldType := fun k => match k with
  | 0 => .array .int
  | 1 => .array .int
  | _ => .int
abbrev wsX00 : List Cond := u_ws RX0 TX0 3
theorem nmX0 : ∀ a, a < 3 → ∀ b, b < 3 → a ≠ b → (TX0 a).2.1 ≠ (TX0 b).2.1 := by decide +kernel
theorem tyX0_ok : ∀ k, k < 3 → parseFieldDescriptor (TX0 k).2.2.1 = some (tyX0 k) := by decide +kernel
abbrev cX0_init : ByteArray := prog_2_method_1_code
def yX0_init : MethodName := ⟨RX0, "<init>", "()V"⟩
abbrev cX0_add : ByteArray := prog_2_method_2_code
def yX0_add : MethodName := ⟨RX0, "add", "(II)Z"⟩
abbrev cX0_has : ByteArray := prog_2_method_3_code
def yX0_has : MethodName := ⟨RX0, "has", "(I)Z"⟩
abbrev cX0_allSo : ByteArray := prog_2_method_4_code
def yX0_allSo : MethodName := ⟨RX0, "allSo", "([I)Z"⟩
abbrev cX0_copyFrom : ByteArray := prog_2_method_5_code
def yX0_copyFrom : MethodName := ⟨RX0, "copyFrom", "(LStationPiano$Clues;)V"⟩
def RX1 : String := "StationPiano$DayRun"
def TX1 : u_T := fun k => match k with
  | 0 => ("StationPiano$DayRun", "beginOf", "[I", true)
  | 1 => ("StationPiano$DayRun", "endOf", "[I", true)
  | 2 => ("StationPiano$DayRun", "arrives", "[I", true)
  | 3 => ("StationPiano$DayRun", "playsFor", "[I", true)
  | 4 => ("StationPiano$DayRun", "wearBehind", "[I", true)
  | 5 => ("StationPiano$DayRun", "facts", "[I", true)
  | 6 => ("StationPiano$DayRun", "begunOf", "[I", true)
  | 7 => ("StationPiano$DayRun", "line", "[I", true)
  | 8 => ("StationPiano$DayRun", "lineLength", "I", false)
  | 9 => ("StationPiano$DayRun", "player", "I", false)
  | 10 => ("StationPiano$DayRun", "joySum", "I", false)
  | 11 => ("StationPiano$DayRun", "begun", "I", false)
  | 12 => ("StationPiano$DayRun", "joyNow", "I", false)
  | 13 => ("StationPiano$DayRun", "joyKnown", "Z", false)
  | _ => ("StationPiano$DayRun", "station", "LStationPiano$Station;", false)
def tyX1 : Nat → FieldType := fun k => match k with
  | 0 => .array .int
  | 1 => .array .int
  | 2 => .array .int
  | 3 => .array .int
  | 4 => .array .int
  | 5 => .array .int
  | 6 => .array .int
  | 7 => .array .int
  | 8 => .int
  | 9 => .int
  | 10 => .int
  | 11 => .int
  | 12 => .int
  | 13 => .boolean
  | _ => .object "StationPiano$Station"
abbrev wsX10 : List Cond := u_ws RX1 TX1 15
theorem nmX1 : ∀ a, a < 15 → ∀ b, b < 15 → a ≠ b → (TX1 a).2.1 ≠ (TX1 b).2.1 := by decide +kernel
theorem tyX1_ok : ∀ k, k < 15 → parseFieldDescriptor (TX1 k).2.2.1 = some (tyX1 k) := by decide +kernel
abbrev cX1_init : ByteArray := prog_3_method_1_code
def yX1_init : MethodName := ⟨RX1, "<init>", "(LStationPiano$Station;)V"⟩
abbrev cX1_prepare : ByteArray := prog_3_method_2_code
def yX1_prepare : MethodName := ⟨RX1, "prepare", "(LStationPiano$Station;I)V"⟩
abbrev cX1_strikeAll : ByteArray := prog_3_method_3_code
def yX1_strikeAll : MethodName := ⟨RX1, "strikeAll", "(LStationPiano$Passer;I[I)V"⟩
abbrev cX1_pass : ByteArray := prog_3_method_4_code
def yX1_pass : MethodName := ⟨RX1, "pass", "(LStationPiano$State;I)V"⟩
abbrev cX1_standInLine : ByteArray := prog_3_method_5_code
def yX1_standInLine : MethodName := ⟨RX1, "standInLine", "(II)V"⟩
abbrev cX1_endPlaying : ByteArray := prog_3_method_6_code
def yX1_endPlaying : MethodName := ⟨RX1, "endPlaying", "(IZ)V"⟩
abbrev cX1_leaveLine : ByteArray := prog_3_method_7_code
def yX1_leaveLine : MethodName := ⟨RX1, "leaveLine", "(I)V"⟩
abbrev cX1_beginPlaying : ByteArray := prog_3_method_8_code
def yX1_beginPlaying : MethodName := ⟨RX1, "beginPlaying", "(I[I)V"⟩
abbrev cX1_leaveLineAt : ByteArray := prog_3_method_9_code
def yX1_leaveLineAt : MethodName := ⟨RX1, "leaveLineAt", "(I)V"⟩
abbrev cX1_learnFacts : ByteArray := prog_3_method_10_code
def yX1_learnFacts : MethodName := ⟨RX1, "learnFacts", "(LStationPiano$Passer;[I)V"⟩
abbrev cX1_addJoy : ByteArray := prog_3_method_11_code
def yX1_addJoy : MethodName := ⟨RX1, "addJoy", "()V"⟩
def RX2 : String := "StationPiano$Law"
def TX2 : u_T := fun k => match k with
  | 0 => ("StationPiano$Law", "code", "[I", true)
  | 1 => ("StationPiano$Law", "stack", "[I", true)
  | 2 => ("StationPiano$Law", "ofJoys", "Z", true)
  | 3 => ("StationPiano$Law", "length", "I", false)
  | _ => ("StationPiano$Law", "top", "I", false)
def tyX2 : Nat → FieldType := fun k => match k with
  | 0 => .array .int
  | 1 => .array .int
  | 2 => .boolean
  | 3 => .int
  | _ => .int
abbrev wsX20 : List Cond := u_ws RX2 TX2 5
theorem nmX2 : ∀ a, a < 5 → ∀ b, b < 5 → a ≠ b → (TX2 a).2.1 ≠ (TX2 b).2.1 := by decide +kernel
theorem tyX2_ok : ∀ k, k < 5 → parseFieldDescriptor (TX2 k).2.2.1 = some (tyX2 k) := by decide +kernel
abbrev cX2_init : ByteArray := prog_4_method_1_code
def yX2_init : MethodName := ⟨RX2, "<init>", "(Z)V"⟩
abbrev cX2_knows : ByteArray := prog_4_method_2_code
def yX2_knows : MethodName := ⟨RX2, "knows", "(I)Z"⟩
abbrev cX2_add : ByteArray := prog_4_method_3_code
def yX2_add : MethodName := ⟨RX2, "add", "(I)V"⟩
abbrev cX2_valueBy : ByteArray := prog_4_method_4_code
def yX2_valueBy : MethodName := ⟨RX2, "valueBy", "([I)I"⟩
abbrev cX2_push : ByteArray := prog_4_method_5_code
def yX2_push : MethodName := ⟨RX2, "push", "(I)V"⟩
abbrev cX2_pop : ByteArray := prog_4_method_6_code
def yX2_pop : MethodName := ⟨RX2, "pop", "()I"⟩
abbrev cX2_joined : ByteArray := prog_4_method_7_code
def yX2_joined : MethodName := ⟨RX2, "joined", "(III)I"⟩
def RX3 : String := "StationPiano$Mark"
def TX3 : u_T := fun k => match k with
  | 0 => ("StationPiano$Mark", "state", "LStationPiano$State;", true)
  | 1 => ("StationPiano$Mark", "plan", "LStationPiano$Week;", true)
  | 2 => ("StationPiano$Mark", "clues", "LStationPiano$Clues;", true)
  | _ => ("StationPiano$Mark", "laid", "Z", false)
def tyX3 : Nat → FieldType := fun k => match k with
  | 0 => .object "StationPiano$State"
  | 1 => .object "StationPiano$Week"
  | 2 => .object "StationPiano$Clues"
  | _ => .boolean
abbrev wsX30 : List Cond := u_ws RX3 TX3 4
theorem nmX3 : ∀ a, a < 4 → ∀ b, b < 4 → a ≠ b → (TX3 a).2.1 ≠ (TX3 b).2.1 := by decide +kernel
theorem tyX3_ok : ∀ k, k < 4 → parseFieldDescriptor (TX3 k).2.2.1 = some (tyX3 k) := by decide +kernel
abbrev cX3_init : ByteArray := prog_5_method_1_code
def yX3_init : MethodName := ⟨RX3, "<init>", "()V"⟩
abbrev cX3_lay : ByteArray := prog_5_method_2_code
def yX3_lay : MethodName := ⟨RX3, "lay", "(LStationPiano$State;LStationPiano$Week;LStationPiano$Clues;)V"⟩
abbrev cX3_bringBack : ByteArray := prog_5_method_3_code
def yX3_bringBack : MethodName := ⟨RX3, "bringBack", "(LStationPiano$State;LStationPiano$Week;LStationPiano$Clues;)V"⟩
def RX4 : String := "StationPiano$Passer"
def TX4 : u_T := fun k => match k with
  | 0 => ("StationPiano$Passer", "struck", "[I", true)
  | 1 => ("StationPiano$Passer", "struckCount", "I", false)
  | 2 => ("StationPiano$Passer", "name", "J", false)
  | 3 => ("StationPiano$Passer", "kind", "I", false)
  | 4 => ("StationPiano$Passer", "tune", "I", false)
  | 5 => ("StationPiano$Passer", "skill", "I", false)
  | 6 => ("StationPiano$Passer", "shyness", "I", false)
  | 7 => ("StationPiano$Passer", "stays", "I", false)
  | _ => ("StationPiano$Passer", "arrives", "I", false)
def tyX4 : Nat → FieldType := fun k => match k with
  | 0 => .array .int
  | 1 => .int
  | 2 => .long
  | 3 => .int
  | 4 => .int
  | 5 => .int
  | 6 => .int
  | 7 => .int
  | _ => .int
abbrev wsX40 : List Cond := u_ws RX4 TX4 9
theorem nmX4 : ∀ a, a < 9 → ∀ b, b < 9 → a ≠ b → (TX4 a).2.1 ≠ (TX4 b).2.1 := by decide +kernel
theorem tyX4_ok : ∀ k, k < 9 → parseFieldDescriptor (TX4 k).2.2.1 = some (tyX4 k) := by decide +kernel
abbrev cX4_init : ByteArray := prog_6_method_1_code
def yX4_init : MethodName := ⟨RX4, "<init>", "()V"⟩
abbrev cX4_learn : ByteArray := prog_6_method_2_code
def yX4_learn : MethodName := ⟨RX4, "learn", "([II)V"⟩
abbrev cX4_strikesOn : ByteArray := prog_6_method_3_code
def yX4_strikesOn : MethodName := ⟨RX4, "strikesOn", "(I)I"⟩
abbrev cX4_playsFor : ByteArray := prog_6_method_4_code
def yX4_playsFor : MethodName := ⟨RX4, "playsFor", "(I)I"⟩
abbrev cX4_daresBefore : ByteArray := prog_6_method_5_code
def yX4_daresBefore : MethodName := ⟨RX4, "daresBefore", "(I)Z"⟩
def RX5 : String := "StationPiano$Reader"
def TX5 : u_T := fun k => match k with
  | 0 => ("StationPiano$Reader", "tape", "LStationPiano$Tape;", true)
  | 1 => ("StationPiano$Reader", "got", "I", false)
  | _ => ("StationPiano$Reader", "fault", "I", false)
def tyX5 : Nat → FieldType := fun k => match k with
  | 0 => .object "StationPiano$Tape"
  | 1 => .int
  | _ => .int
abbrev wsX50 : List Cond := u_ws RX5 TX5 3
theorem nmX5 : ∀ a, a < 3 → ∀ b, b < 3 → a ≠ b → (TX5 a).2.1 ≠ (TX5 b).2.1 := by decide +kernel
theorem tyX5_ok : ∀ k, k < 3 → parseFieldDescriptor (TX5 k).2.2.1 = some (tyX5 k) := by decide +kernel
abbrev cX5_init : ByteArray := prog_7_method_1_code
def yX5_init : MethodName := ⟨RX5, "<init>", "(LStationPiano$Tape;)V"⟩
abbrev cX5_readStation : ByteArray := prog_7_method_2_code
def yX5_readStation : MethodName := ⟨RX5, "readStation", "(LStationPiano$Station;)I"⟩
abbrev cX5_readWeek : ByteArray := prog_7_method_3_code
def yX5_readWeek : MethodName := ⟨RX5, "readWeek", "(LStationPiano$Week;)I"⟩
abbrev cX5_wrong : ByteArray := prog_7_method_4_code
def yX5_wrong : MethodName := ⟨RX5, "wrong", "(I)Z"⟩
abbrev cX5_take : ByteArray := prog_7_method_5_code
def yX5_take : MethodName := ⟨RX5, "take", "(I)Z"⟩
abbrev cX5_takeNumber : ByteArray := prog_7_method_6_code
def yX5_takeNumber : MethodName := ⟨RX5, "takeNumber", "(II)Z"⟩
abbrev cX5_takeValue : ByteArray := prog_7_method_7_code
def yX5_takeValue : MethodName := ⟨RX5, "takeValue", "(III)Z"⟩
abbrev cX5_isName : ByteArray := prog_7_method_8_code
def yX5_isName : MethodName := ⟨RX5, "isName", "()Z"⟩
abbrev cX5_mayBeNewName : ByteArray := prog_7_method_9_code
def yX5_mayBeNewName : MethodName := ⟨RX5, "mayBeNewName", "(LStationPiano$Station;)Z"⟩
abbrev cX5_weekLine : ByteArray := prog_7_method_10_code
def yX5_weekLine : MethodName := ⟨RX5, "weekLine", "(LStationPiano$Week;)Z"⟩
abbrev cX5_stationLine : ByteArray := prog_7_method_11_code
def yX5_stationLine : MethodName := ⟨RX5, "stationLine", "(LStationPiano$Station;)Z"⟩
abbrev cX5_toldFirst : ByteArray := prog_7_method_12_code
def yX5_toldFirst : MethodName := ⟨RX5, "toldFirst", "(LStationPiano$Station;)Z"⟩
abbrev cX5_waitsTold : ByteArray := prog_7_method_13_code
def yX5_waitsTold : MethodName := ⟨RX5, "waitsTold", "(LStationPiano$Station;)Z"⟩
abbrev cX5_eachTold : ByteArray := prog_7_method_14_code
def yX5_eachTold : MethodName := ⟨RX5, "eachTold", "(LStationPiano$Station;)Z"⟩
abbrev cX5_hoursTold : ByteArray := prog_7_method_15_code
def yX5_hoursTold : MethodName := ⟨RX5, "hoursTold", "(LStationPiano$Station;)Z"⟩
abbrev cX5_priceTold : ByteArray := prog_7_method_16_code
def yX5_priceTold : MethodName := ⟨RX5, "priceTold", "(LStationPiano$Station;)Z"⟩
abbrev cX5_tuneLine : ByteArray := prog_7_method_17_code
def yX5_tuneLine : MethodName := ⟨RX5, "tuneLine", "(LStationPiano$Station;)Z"⟩
abbrev cX5_takeKey : ByteArray := prog_7_method_18_code
def yX5_takeKey : MethodName := ⟨RX5, "takeKey", "(LStationPiano$Station;I)Z"⟩
abbrev cX5_passerLine : ByteArray := prog_7_method_19_code
def yX5_passerLine : MethodName := ⟨RX5, "passerLine", "(LStationPiano$Station;)Z"⟩
abbrev cX5_takeKind : ByteArray := prog_7_method_20_code
def yX5_takeKind : MethodName := ⟨RX5, "takeKind", "(LStationPiano$Passer;)Z"⟩
abbrev cX5_takeTune : ByteArray := prog_7_method_21_code
def yX5_takeTune : MethodName := ⟨RX5, "takeTune", "(LStationPiano$Station;LStationPiano$Passer;)Z"⟩
abbrev cX5_expression : ByteArray := prog_7_method_22_code
def yX5_expression : MethodName := ⟨RX5, "expression", "(LStationPiano$Law;II)Z"⟩
abbrev cX5_stepOf : ByteArray := prog_7_method_23_code
def yX5_stepOf : MethodName := ⟨RX5, "stepOf", "(II)I"⟩
abbrev cX5_part : ByteArray := prog_7_method_24_code
def yX5_part : MethodName := ⟨RX5, "part", "(LStationPiano$Law;I)Z"⟩
def RX6 : String := "StationPiano$State"
def TX6 : u_T := fun k => match k with
  | 0 => ("StationPiano$State", "wear", "[I", true)
  | 1 => ("StationPiano$State", "day", "I", false)
  | 2 => ("StationPiano$State", "minutes", "I", false)
  | 3 => ("StationPiano$State", "from", "I", false)
  | 4 => ("StationPiano$State", "to", "I", false)
  | _ => ("StationPiano$State", "paid", "I", false)
def tyX6 : Nat → FieldType := fun k => match k with
  | 0 => .array .int
  | 1 => .int
  | 2 => .int
  | 3 => .int
  | 4 => .int
  | _ => .int
abbrev wsX60 : List Cond := u_ws RX6 TX6 6
theorem nmX6 : ∀ a, a < 6 → ∀ b, b < 6 → a ≠ b → (TX6 a).2.1 ≠ (TX6 b).2.1 := by decide +kernel
theorem tyX6_ok : ∀ k, k < 6 → parseFieldDescriptor (TX6 k).2.2.1 = some (tyX6 k) := by decide +kernel
abbrev cX6_init : ByteArray := prog_8_method_1_code
def yX6_init : MethodName := ⟨RX6, "<init>", "()V"⟩
abbrev cX6_copyFrom : ByteArray := prog_8_method_2_code
def yX6_copyFrom : MethodName := ⟨RX6, "copyFrom", "(LStationPiano$State;)V"⟩
abbrev cX6_begin : ByteArray := prog_8_method_3_code
def yX6_begin : MethodName := ⟨RX6, "begin", "(LStationPiano$Station;)V"⟩
abbrev cX6_tuneUp : ByteArray := prog_8_method_4_code
def yX6_tuneUp : MethodName := ⟨RX6, "tuneUp", "(I)I"⟩
abbrev cX6_goneKeys : ByteArray := prog_8_method_5_code
def yX6_goneKeys : MethodName := ⟨RX6, "goneKeys", "()I"⟩
abbrev cX6_keysAbove : ByteArray := prog_8_method_6_code
def yX6_keysAbove : MethodName := ⟨RX6, "keysAbove", "(I)I"⟩
def RX7 : String := "StationPiano$Station"
def TX7 : u_T := fun k => match k with
  | 0 => ("StationPiano$Station", "tuneNames", "[J", true)
  | 1 => ("StationPiano$Station", "tuneLengths", "[I", true)
  | 2 => ("StationPiano$Station", "tuneKeys", "[[I", true)
  | 3 => ("StationPiano$Station", "passers", "[LStationPiano$Passer;", true)
  | 4 => ("StationPiano$Station", "joys", "LStationPiano$Law;", true)
  | 5 => ("StationPiano$Station", "wears", "LStationPiano$Law;", true)
  | 6 => ("StationPiano$Station", "tuneCount", "I", false)
  | 7 => ("StationPiano$Station", "passerCount", "I", false)
  | 8 => ("StationPiano$Station", "waits", "I", false)
  | 9 => ("StationPiano$Station", "minutes", "I", false)
  | 10 => ("StationPiano$Station", "from", "I", false)
  | 11 => ("StationPiano$Station", "to", "I", false)
  | 12 => ("StationPiano$Station", "price", "I", false)
  | _ => ("StationPiano$Station", "toldOnce", "I", false)
def tyX7 : Nat → FieldType := fun k => match k with
  | 0 => .array .long
  | 1 => .array .int
  | 2 => .array (.array .int)
  | 3 => .array (.object "StationPiano$Passer")
  | 4 => .object "StationPiano$Law"
  | 5 => .object "StationPiano$Law"
  | 6 => .int
  | 7 => .int
  | 8 => .int
  | 9 => .int
  | 10 => .int
  | 11 => .int
  | 12 => .int
  | _ => .int
abbrev wsX70 : List Cond := u_ws RX7 TX7 14
theorem nmX7 : ∀ a, a < 14 → ∀ b, b < 14 → a ≠ b → (TX7 a).2.1 ≠ (TX7 b).2.1 := by decide +kernel
theorem tyX7_ok : ∀ k, k < 14 → parseFieldDescriptor (TX7 k).2.2.1 = some (tyX7 k) := by decide +kernel
abbrev cX7_init : ByteArray := prog_9_method_1_code
def yX7_init : MethodName := ⟨RX7, "<init>", "()V"⟩
abbrev cX7_clear : ByteArray := prog_9_method_2_code
def yX7_clear : MethodName := ⟨RX7, "clear", "()V"⟩
abbrev cX7_tuneNamed : ByteArray := prog_9_method_3_code
def yX7_tuneNamed : MethodName := ⟨RX7, "tuneNamed", "(J)I"⟩
abbrev cX7_hasName : ByteArray := prog_9_method_4_code
def yX7_hasName : MethodName := ⟨RX7, "hasName", "(J)Z"⟩
abbrev cX7_joyBy : ByteArray := prog_9_method_5_code
def yX7_joyBy : MethodName := ⟨RX7, "joyBy", "([I)I"⟩
abbrev cX7_wearBy : ByteArray := prog_9_method_6_code
def yX7_wearBy : MethodName := ⟨RX7, "wearBy", "([I)I"⟩
def RX8 : String := "StationPiano$Suspects"
def TX8 : u_T := fun k => match k with
  | 0 => ("StationPiano$Suspects", "wear", "[I", true)
  | 1 => ("StationPiano$Suspects", "tally", "[I", true)
  | 2 => ("StationPiano$Suspects", "setCount", "I", false)
  | 3 => ("StationPiano$Suspects", "inAll", "I", false)
  | _ => ("StationPiano$Suspects", "inSome", "I", false)
def tyX8 : Nat → FieldType := fun k => match k with
  | 0 => .array .int
  | 1 => .array .int
  | 2 => .int
  | 3 => .int
  | _ => .int
abbrev wsX80 : List Cond := u_ws RX8 TX8 5
theorem nmX8 : ∀ a, a < 5 → ∀ b, b < 5 → a ≠ b → (TX8 a).2.1 ≠ (TX8 b).2.1 := by decide +kernel
theorem tyX8_ok : ∀ k, k < 5 → parseFieldDescriptor (TX8 k).2.2.1 = some (tyX8 k) := by decide +kernel
abbrev cX8_init : ByteArray := prog_10_method_1_code
def yX8_init : MethodName := ⟨RX8, "<init>", "()V"⟩
abbrev cX8_search : ByteArray := prog_10_method_2_code
def yX8_search : MethodName := ⟨RX8, "search", "(LStationPiano$Station;LStationPiano$DayRun;LStationPiano$Clues;)V"⟩
abbrev cX8_mostAlike : ByteArray := prog_10_method_3_code
def yX8_mostAlike : MethodName := ⟨RX8, "mostAlike", "(I)I"⟩
abbrev cX8_playOnNew : ByteArray := prog_10_method_4_code
def yX8_playOnNew : MethodName := ⟨RX8, "playOnNew", "(IILStationPiano$Station;LStationPiano$DayRun;)V"⟩
abbrev cX8_tallyWear : ByteArray := prog_10_method_5_code
def yX8_tallyWear : MethodName := ⟨RX8, "tallyWear", "()V"⟩
def RX9 : String := "StationPiano$Tape"
def TX9 : u_T := fun k => match k with
  | 0 => ("StationPiano$Tape", "signs", "[B", true)
  | 1 => ("StationPiano$Tape", "length", "I", false)
  | 2 => ("StationPiano$Tape", "token", "I", false)
  | 3 => ("StationPiano$Tape", "place", "I", false)
  | 4 => ("StationPiano$Tape", "behind", "I", false)
  | 5 => ("StationPiano$Tape", "number", "I", false)
  | _ => ("StationPiano$Tape", "letters", "J", false)
def tyX9 : Nat → FieldType := fun k => match k with
  | 0 => .array .byte
  | 1 => .int
  | 2 => .int
  | 3 => .int
  | 4 => .int
  | 5 => .int
  | _ => .long
abbrev wsX90 : List Cond := u_ws RX9 TX9 7
theorem nmX9 : ∀ a, a < 7 → ∀ b, b < 7 → a ≠ b → (TX9 a).2.1 ≠ (TX9 b).2.1 := by decide +kernel
theorem tyX9_ok : ∀ k, k < 7 → parseFieldDescriptor (TX9 k).2.2.1 = some (tyX9 k) := by decide +kernel
abbrev cX9_init : ByteArray := prog_11_method_1_code
def yX9_init : MethodName := ⟨RX9, "<init>", "()V"⟩
abbrev cX9_add : ByteArray := prog_11_method_2_code
def yX9_add : MethodName := ⟨RX9, "add", "(I)V"⟩
abbrev cX9_rewind : ByteArray := prog_11_method_3_code
def yX9_rewind : MethodName := ⟨RX9, "rewind", "()V"⟩
abbrev cX9_advance : ByteArray := prog_11_method_4_code
def yX9_advance : MethodName := ⟨RX9, "advance", "()V"⟩
abbrev cX9_signAt : ByteArray := prog_11_method_5_code
def yX9_signAt : MethodName := ⟨RX9, "signAt", "(I)I"⟩
abbrev cX9_wordNumber : ByteArray := prog_11_method_6_code
def yX9_wordNumber : MethodName := ⟨RX9, "wordNumber", "(J)I"⟩
def RX10 : String := "StationPiano$Week"
def TX10 : u_T := fun k => match k with
  | 0 => ("StationPiano$Week", "kinds", "[I", true)
  | 1 => ("StationPiano$Week", "firsts", "[I", true)
  | 2 => ("StationPiano$Week", "seconds", "[I", true)
  | _ => ("StationPiano$Week", "length", "I", false)
def tyX10 : Nat → FieldType := fun k => match k with
  | 0 => .array .int
  | 1 => .array .int
  | 2 => .array .int
  | _ => .int
abbrev wsX100 : List Cond := u_ws RX10 TX10 4
theorem nmX10 : ∀ a, a < 4 → ∀ b, b < 4 → a ≠ b → (TX10 a).2.1 ≠ (TX10 b).2.1 := by decide +kernel
theorem tyX10_ok : ∀ k, k < 4 → parseFieldDescriptor (TX10 k).2.2.1 = some (tyX10 k) := by decide +kernel
abbrev cX10_init : ByteArray := prog_12_method_1_code
def yX10_init : MethodName := ⟨RX10, "<init>", "()V"⟩
abbrev cX10_add : ByteArray := prog_12_method_2_code
def yX10_add : MethodName := ⟨RX10, "add", "(III)V"⟩
abbrev cX10_copyFrom : ByteArray := prog_12_method_3_code
def yX10_copyFrom : MethodName := ⟨RX10, "copyFrom", "(LStationPiano$Week;)V"⟩
def RX11 : String := "StationPiano"
def TX11 : u_T := fun k => match k with
  | 0 => ("StationPiano", "tape", "LStationPiano$Tape;", true)
  | 1 => ("StationPiano", "reader", "LStationPiano$Reader;", true)
  | 2 => ("StationPiano", "station", "LStationPiano$Station;", false)
  | 3 => ("StationPiano", "draft", "LStationPiano$Station;", false)
  | 4 => ("StationPiano", "state", "LStationPiano$State;", true)
  | 5 => ("StationPiano", "trial", "LStationPiano$State;", true)
  | 6 => ("StationPiano", "plan", "LStationPiano$Week;", true)
  | 7 => ("StationPiano", "draftPlan", "LStationPiano$Week;", true)
  | 8 => ("StationPiano", "clues", "LStationPiano$Clues;", true)
  | 9 => ("StationPiano", "suspects", "LStationPiano$Suspects;", true)
  | 10 => ("StationPiano", "run", "LStationPiano$DayRun;", true)
  | 11 => ("StationPiano", "marks", "[LStationPiano$Mark;", true)
  | 12 => ("StationPiano", "past", "[LStationPiano$State;", true)
  | 13 => ("StationPiano", "pastNext", "I", false)
  | 14 => ("StationPiano", "pastCount", "I", false)
  | 15 => ("StationPiano", "answers", "[I", true)
  | _ => ("StationPiano", "drawn", "J", false)
def tyX11 : Nat → FieldType := fun k => match k with
  | 0 => .object "StationPiano$Tape"
  | 1 => .object "StationPiano$Reader"
  | 2 => .object "StationPiano$Station"
  | 3 => .object "StationPiano$Station"
  | 4 => .object "StationPiano$State"
  | 5 => .object "StationPiano$State"
  | 6 => .object "StationPiano$Week"
  | 7 => .object "StationPiano$Week"
  | 8 => .object "StationPiano$Clues"
  | 9 => .object "StationPiano$Suspects"
  | 10 => .object "StationPiano$DayRun"
  | 11 => .array (.object "StationPiano$Mark")
  | 12 => .array (.object "StationPiano$State")
  | 13 => .int
  | 14 => .int
  | 15 => .array .int
  | _ => .long
abbrev wsX110 : List Cond := u_ws RX11 TX11 17
theorem nmX11 : ∀ a, a < 17 → ∀ b, b < 17 → a ≠ b → (TX11 a).2.1 ≠ (TX11 b).2.1 := by decide +kernel
theorem tyX11_ok : ∀ k, k < 17 → parseFieldDescriptor (TX11 k).2.2.1 = some (tyX11 k) := by decide +kernel
abbrev cX11_init : ByteArray := prog_1_method_1_code
def yX11_init : MethodName := ⟨RX11, "<init>", "()V"⟩
abbrev cX11_feed : ByteArray := prog_1_method_2_code
def yX11_feed : MethodName := ⟨RX11, "feed", "(JJJ)I"⟩
abbrev cX11_station : ByteArray := prog_1_method_3_code
def yX11_station : MethodName := ⟨RX11, "station", "()I"⟩
abbrev cX11_week : ByteArray := prog_1_method_4_code
def yX11_week : MethodName := ⟨RX11, "week", "()I"⟩
abbrev cX11_passer : ByteArray := prog_1_method_5_code
def yX11_passer : MethodName := ⟨RX11, "passer", "(II)I"⟩
abbrev cX11_tune : ByteArray := prog_1_method_6_code
def yX11_tune : MethodName := ⟨RX11, "tune", "(II)I"⟩
abbrev cX11_key : ByteArray := prog_1_method_7_code
def yX11_key : MethodName := ⟨RX11, "key", "(I)I"⟩
abbrev cX11_begins : ByteArray := prog_1_method_8_code
def yX11_begins : MethodName := ⟨RX11, "begins", "(I)I"⟩
abbrev cX11_ends : ByteArray := prog_1_method_9_code
def yX11_ends : MethodName := ⟨RX11, "ends", "(I)I"⟩
abbrev cX11_now : ByteArray := prog_1_method_10_code
def yX11_now : MethodName := ⟨RX11, "now", "(I)I"⟩
abbrev cX11_away : ByteArray := prog_1_method_11_code
def yX11_away : MethodName := ⟨RX11, "away", "()I"⟩
abbrev cX11_joy : ByteArray := prog_1_method_12_code
def yX11_joy : MethodName := ⟨RX11, "joy", "()I"⟩
abbrev cX11_day : ByteArray := prog_1_method_13_code
def yX11_day : MethodName := ⟨RX11, "day", "()I"⟩
abbrev cX11_mend : ByteArray := prog_1_method_14_code
def yX11_mend : MethodName := ⟨RX11, "mend", "()I"⟩
abbrev cX11_each : ByteArray := prog_1_method_15_code
def yX11_each : MethodName := ⟨RX11, "each", "(I)Z"⟩
abbrev cX11_open : ByteArray := prog_1_method_16_code
def yX11_open : MethodName := ⟨RX11, "open", "(II)Z"⟩
abbrev cX11_undo : ByteArray := prog_1_method_17_code
def yX11_undo : MethodName := ⟨RX11, "undo", "()Z"⟩
abbrev cX11_judged : ByteArray := prog_1_method_18_code
def yX11_judged : MethodName := ⟨RX11, "judged", "(I)I"⟩
abbrev cX11_best : ByteArray := prog_1_method_19_code
def yX11_best : MethodName := ⟨RX11, "best", "(I)I"⟩
abbrev cX11_hours : ByteArray := prog_1_method_20_code
def yX11_hours : MethodName := ⟨RX11, "hours", "(I)I"⟩
abbrev cX11_when : ByteArray := prog_1_method_21_code
def yX11_when : MethodName := ⟨RX11, "when", "(II)I"⟩
abbrev cX11_lasts : ByteArray := prog_1_method_22_code
def yX11_lasts : MethodName := ⟨RX11, "lasts", "(I)I"⟩
abbrev cX11_without : ByteArray := prog_1_method_23_code
def yX11_without : MethodName := ⟨RX11, "without", "(I)I"⟩
abbrev cX11_rarer : ByteArray := prog_1_method_24_code
def yX11_rarer : MethodName := ⟨RX11, "rarer", "(I)I"⟩
abbrev cX11_dare : ByteArray := prog_1_method_25_code
def yX11_dare : MethodName := ⟨RX11, "dare", "(I)I"⟩
abbrev cX11_strikes : ByteArray := prog_1_method_26_code
def yX11_strikes : MethodName := ⟨RX11, "strikes", "(II)I"⟩
abbrev cX11_find : ByteArray := prog_1_method_27_code
def yX11_find : MethodName := ⟨RX11, "find", "(II)Z"⟩
abbrev cX11_sets : ByteArray := prog_1_method_28_code
def yX11_sets : MethodName := ⟨RX11, "sets", "(I)I"⟩
abbrev cX11_look : ByteArray := prog_1_method_29_code
def yX11_look : MethodName := ⟨RX11, "look", "()I"⟩
abbrev cX11_share : ByteArray := prog_1_method_30_code
def yX11_share : MethodName := ⟨RX11, "share", "(I)I"⟩
abbrev cX11_rests : ByteArray := prog_1_method_31_code
def yX11_rests : MethodName := ⟨RX11, "rests", "(IIII)I"⟩
abbrev cX11_rule : ByteArray := prog_1_method_32_code
def yX11_rule : MethodName := ⟨RX11, "rule", "(II)I"⟩
abbrev cX11_months : ByteArray := prog_1_method_33_code
def yX11_months : MethodName := ⟨RX11, "months", "(III)I"⟩
abbrev cX11_mark : ByteArray := prog_1_method_34_code
def yX11_mark : MethodName := ⟨RX11, "mark", "(IZ)Z"⟩
abbrev cX11_count : ByteArray := prog_1_method_35_code
def yX11_count : MethodName := ⟨RX11, "count", "(I)I"⟩
abbrev cX11_feedBytes : ByteArray := prog_1_method_36_code
def yX11_feedBytes : MethodName := ⟨RX11, "feedBytes", "(J)V"⟩
abbrev cX11_beginStation : ByteArray := prog_1_method_37_code
def yX11_beginStation : MethodName := ⟨RX11, "beginStation", "()V"⟩
abbrev cX11_isPasser : ByteArray := prog_1_method_38_code
def yX11_isPasser : MethodName := ⟨RX11, "isPasser", "(I)Z"⟩
abbrev cX11_isKey : ByteArray := prog_1_method_39_code
def yX11_isKey : MethodName := ⟨RX11, "isKey", "(I)Z"⟩
abbrev cX11_isEach : ByteArray := prog_1_method_40_code
def yX11_isEach : MethodName := ⟨RX11, "isEach", "(I)Z"⟩
abbrev cX11_isDigit : ByteArray := prog_1_method_41_code
def yX11_isDigit : MethodName := ⟨RX11, "isDigit", "(I)Z"⟩
abbrev cX11_remember : ByteArray := prog_1_method_42_code
def yX11_remember : MethodName := ⟨RX11, "remember", "()V"⟩
abbrev cX11_tryDay : ByteArray := prog_1_method_43_code
def yX11_tryDay : MethodName := ⟨RX11, "tryDay", "(I)I"⟩
abbrev cX11_judgeWeek : ByteArray := prog_1_method_44_code
def yX11_judgeWeek : MethodName := ⟨RX11, "judgeWeek", "()V"⟩
abbrev cX11_searchEach : ByteArray := prog_1_method_45_code
def yX11_searchEach : MethodName := ⟨RX11, "searchEach", "()V"⟩
abbrev cX11_searchMending : ByteArray := prog_1_method_46_code
def yX11_searchMending : MethodName := ⟨RX11, "searchMending", "(I)V"⟩
abbrev cX11_joyMendedAhead : ByteArray := prog_1_method_47_code
def yX11_joyMendedAhead : MethodName := ⟨RX11, "joyMendedAhead", "(II)I"⟩
abbrev cX11_isRest : ByteArray := prog_1_method_48_code
def yX11_isRest : MethodName := ⟨RX11, "isRest", "(IIII)Z"⟩
abbrev cX11_gain : ByteArray := prog_1_method_49_code
def yX11_gain : MethodName := ⟨RX11, "gain", "(IIIII)I"⟩
abbrev cX11_drawMonths : ByteArray := prog_1_method_50_code
def yX11_drawMonths : MethodName := ⟨RX11, "drawMonths", "(II)V"⟩
abbrev cX11_draw : ByteArray := prog_1_method_51_code
def yX11_draw : MethodName := ⟨RX11, "draw", "(I)I"⟩
def RX12 : String := "StationPianoModel"
def TX12 : u_T := fun k => match k with
  | 0 => ("StationPianoModel", "thrown", "I", false)
  | 1 => ("StationPianoModel", "taped", "I", false)
  | 2 => ("StationPianoModel", "tape", "[I", true)
  | 3 => ("StationPianoModel", "size", "I", false)
  | 4 => ("StationPianoModel", "place", "I", false)
  | 5 => ("StationPianoModel", "begin", "I", false)
  | 6 => ("StationPianoModel", "token", "I", false)
  | 7 => ("StationPianoModel", "word", "J", false)
  | 8 => ("StationPianoModel", "told", "I", false)
  | 9 => ("StationPianoModel", "wrong", "I", false)
  | 10 => ("StationPianoModel", "station", "[I", true)
  | 11 => ("StationPianoModel", "tuneName", "[J", true)
  | 12 => ("StationPianoModel", "passerName", "[J", true)
  | 13 => ("StationPianoModel", "tuneKeys", "[I", true)
  | 14 => ("StationPianoModel", "tuneMany", "[I", true)
  | 15 => ("StationPianoModel", "kind", "[I", true)
  | 16 => ("StationPianoModel", "playsTune", "[I", true)
  | 17 => ("StationPianoModel", "skill", "[I", true)
  | 18 => ("StationPianoModel", "shy", "[I", true)
  | 19 => ("StationPianoModel", "stays", "[I", true)
  | 20 => ("StationPianoModel", "comes", "[I", true)
  | 21 => ("StationPianoModel", "lineFrom", "[I", true)
  | 22 => ("StationPianoModel", "lineTo", "[I", true)
  | 23 => ("StationPianoModel", "codes", "[I", true)
  | 24 => ("StationPianoModel", "code", "I", false)
  | 25 => ("StationPianoModel", "lawLine", "I", false)
  | 26 => ("StationPianoModel", "toldLines", "I", false)
  | 27 => ("StationPianoModel", "opened", "[I", true)
  | 28 => ("StationPianoModel", "compared", "[Z", true)
  | 29 => ("StationPianoModel", "kept", "[I", true)
  | 30 => ("StationPianoModel", "keptBy", "[I", true)
  | 31 => ("StationPianoModel", "ahead", "[I", true)
  | 32 => ("StationPianoModel", "against", "[I", true)
  | 33 => ("StationPianoModel", "sum", "[I", true)
  | 34 => ("StationPianoModel", "sumBy", "[I", true)
  | 35 => ("StationPianoModel", "term", "[I", true)
  | 36 => ("StationPianoModel", "termBy", "[I", true)
  | 37 => ("StationPianoModel", "byNot", "[I", true)
  | 38 => ("StationPianoModel", "valueOf", "[I", true)
  | 39 => ("StationPianoModel", "given", "I", false)
  | 40 => ("StationPianoModel", "fresh", "J", false)
  | 41 => ("StationPianoModel", "begun", "I", false)
  | 42 => ("StationPianoModel", "lines", "[I", true)
  | 43 => ("StationPianoModel", "lineWhat", "[I", true)
  | 44 => ("StationPianoModel", "lineN", "[I", true)
  | 45 => ("StationPianoModel", "lineTill", "[I", true)
  | 46 => ("StationPianoModel", "founds", "[I", true)
  | 47 => ("StationPianoModel", "foundKey", "[I", true)
  | 48 => ("StationPianoModel", "foundWear", "[I", true)
  | 49 => ("StationPianoModel", "s", "[I", true)
  | 50 => ("StationPianoModel", "aside", "[I", true)
  | 51 => ("StationPianoModel", "before", "[I", true)
  | 52 => ("StationPianoModel", "marked", "[I", true)
  | 53 => ("StationPianoModel", "undone", "[I", true)
  | 54 => ("StationPianoModel", "isLaid", "[Z", true)
  | 55 => ("StationPianoModel", "done", "I", false)
  | 56 => ("StationPianoModel", "cameAt", "[I", true)
  | 57 => ("StationPianoModel", "where", "[I", true)
  | 58 => ("StationPianoModel", "beganAt", "[I", true)
  | 59 => ("StationPianoModel", "endedAt", "[I", true)
  | 60 => ("StationPianoModel", "playsAt", "[I", true)
  | 61 => ("StationPianoModel", "sameAhead", "[I", true)
  | 62 => ("StationPianoModel", "absent", "I", false)
  | 63 => ("StationPianoModel", "joySum", "I", false)
  | 64 => ("StationPianoModel", "beginnings", "I", false)
  | 65 => ("StationPianoModel", "alike", "[I", true)
  | _ => ("StationPianoModel", "g", "J", false)
def tyX12 : Nat → FieldType := fun k => match k with
  | 0 => .int
  | 1 => .int
  | 2 => .array .int
  | 3 => .int
  | 4 => .int
  | 5 => .int
  | 6 => .int
  | 7 => .long
  | 8 => .int
  | 9 => .int
  | 10 => .array .int
  | 11 => .array .long
  | 12 => .array .long
  | 13 => .array .int
  | 14 => .array .int
  | 15 => .array .int
  | 16 => .array .int
  | 17 => .array .int
  | 18 => .array .int
  | 19 => .array .int
  | 20 => .array .int
  | 21 => .array .int
  | 22 => .array .int
  | 23 => .array .int
  | 24 => .int
  | 25 => .int
  | 26 => .int
  | 27 => .array .int
  | 28 => .array .boolean
  | 29 => .array .int
  | 30 => .array .int
  | 31 => .array .int
  | 32 => .array .int
  | 33 => .array .int
  | 34 => .array .int
  | 35 => .array .int
  | 36 => .array .int
  | 37 => .array .int
  | 38 => .array .int
  | 39 => .int
  | 40 => .long
  | 41 => .int
  | 42 => .array .int
  | 43 => .array .int
  | 44 => .array .int
  | 45 => .array .int
  | 46 => .array .int
  | 47 => .array .int
  | 48 => .array .int
  | 49 => .array .int
  | 50 => .array .int
  | 51 => .array .int
  | 52 => .array .int
  | 53 => .array .int
  | 54 => .array .boolean
  | 55 => .int
  | 56 => .array .int
  | 57 => .array .int
  | 58 => .array .int
  | 59 => .array .int
  | 60 => .array .int
  | 61 => .array .int
  | 62 => .int
  | 63 => .int
  | 64 => .int
  | 65 => .array .int
  | _ => .long
abbrev wsX120 : List Cond := u_ws RX12 TX12 67
theorem nmX12 : ∀ a, a < 67 → ∀ b, b < 67 → a ≠ b → (TX12 a).2.1 ≠ (TX12 b).2.1 := by decide +kernel
theorem tyX12_ok : ∀ k, k < 67 → parseFieldDescriptor (TX12 k).2.2.1 = some (tyX12 k) := by decide +kernel
abbrev cX12_init : ByteArray := prog_14_method_1_code
def yX12_init : MethodName := ⟨RX12, "<init>", "()V"⟩
abbrev cX12_thrown : ByteArray := prog_14_method_2_code
def yX12_thrown : MethodName := ⟨RX12, "thrown", "()I"⟩
abbrev cX12_within : ByteArray := prog_14_method_3_code
def yX12_within : MethodName := ⟨RX12, "within", "(III)Z"⟩
abbrev cX12_between : ByteArray := prog_14_method_4_code
def yX12_between : MethodName := ⟨RX12, "between", "(III)I"⟩
abbrev cX12_bits : ByteArray := prog_14_method_5_code
def yX12_bits : MethodName := ⟨RX12, "bits", "(I)I"⟩
abbrev cX12_feed : ByteArray := prog_14_method_6_code
def yX12_feed : MethodName := ⟨RX12, "feed", "(JJJ)I"⟩
abbrev cX12_signAt : ByteArray := prog_14_method_7_code
def yX12_signAt : MethodName := ⟨RX12, "signAt", "(I)I"⟩
abbrev cX12_nextToken : ByteArray := prog_14_method_8_code
def yX12_nextToken : MethodName := ⟨RX12, "nextToken", "()V"⟩
abbrev cX12_isWord : ByteArray := prog_14_method_9_code
def yX12_isWord : MethodName := ⟨RX12, "isWord", "(J)Z"⟩
abbrev cX12_isSign : ByteArray := prog_14_method_10_code
def yX12_isSign : MethodName := ⟨RX12, "isSign", "(I)Z"⟩
abbrev cX12_fails : ByteArray := prog_14_method_11_code
def yX12_fails : MethodName := ⟨RX12, "fails", "(I)Z"⟩
abbrev cX12_usual : ByteArray := prog_14_method_12_code
def yX12_usual : MethodName := ⟨RX12, "usual", "(I)V"⟩
abbrev cX12_puts : ByteArray := prog_14_method_13_code
def yX12_puts : MethodName := ⟨RX12, "puts", "(I)V"⟩
abbrev cX12_fact : ByteArray := prog_14_method_14_code
def yX12_fact : MethodName := ⟨RX12, "fact", "()I"⟩
abbrev cX12_reads : ByteArray := prog_14_method_15_code
def yX12_reads : MethodName := ⟨RX12, "reads", "()Z"⟩
abbrev cX12_opens : ByteArray := prog_14_method_16_code
def yX12_opens : MethodName := ⟨RX12, "opens", "(I)V"⟩
abbrev cX12_sums : ByteArray := prog_14_method_17_code
def yX12_sums : MethodName := ⟨RX12, "sums", "(I)V"⟩
abbrev cX12_tests : ByteArray := prog_14_method_18_code
def yX12_tests : MethodName := ⟨RX12, "tests", "(I)V"⟩
abbrev cX12_worked : ByteArray := prog_14_method_19_code
def yX12_worked : MethodName := ⟨RX12, "worked", "(I)I"⟩
abbrev cX12_isKept : ByteArray := prog_14_method_20_code
def yX12_isKept : MethodName := ⟨RX12, "isKept", "()Z"⟩
abbrev cX12_tuneNamed : ByteArray := prog_14_method_21_code
def yX12_tuneNamed : MethodName := ⟨RX12, "tuneNamed", "()I"⟩
abbrev cX12_passerNamed : ByteArray := prog_14_method_22_code
def yX12_passerNamed : MethodName := ⟨RX12, "passerNamed", "()I"⟩
abbrev cX12_needsNumber : ByteArray := prog_14_method_23_code
def yX12_needsNumber : MethodName := ⟨RX12, "needsNumber", "(II)Z"⟩
abbrev cX12_needsWord : ByteArray := prog_14_method_24_code
def yX12_needsWord : MethodName := ⟨RX12, "needsWord", "(J)Z"⟩
abbrev cX12_needsBoth : ByteArray := prog_14_method_25_code
def yX12_needsBoth : MethodName := ⟨RX12, "needsBoth", "(JII)Z"⟩
abbrev cX12_closes : ByteArray := prog_14_method_26_code
def yX12_closes : MethodName := ⟨RX12, "closes", "()Z"⟩
abbrev cX12_needsNew : ByteArray := prog_14_method_27_code
def yX12_needsNew : MethodName := ⟨RX12, "needsNew", "()Z"⟩
abbrev cX12_readsTune : ByteArray := prog_14_method_28_code
def yX12_readsTune : MethodName := ⟨RX12, "readsTune", "()Z"⟩
abbrev cX12_readsPasser : ByteArray := prog_14_method_29_code
def yX12_readsPasser : MethodName := ⟨RX12, "readsPasser", "()Z"⟩
abbrev cX12_isTwice : ByteArray := prog_14_method_30_code
def yX12_isTwice : MethodName := ⟨RX12, "isTwice", "(I)Z"⟩
abbrev cX12_readsOne : ByteArray := prog_14_method_31_code
def yX12_readsOne : MethodName := ⟨RX12, "readsOne", "(III)Z"⟩
abbrev cX12_needsSpan : ByteArray := prog_14_method_32_code
def yX12_needsSpan : MethodName := ⟨RX12, "needsSpan", "()Z"⟩
abbrev cX12_readsOpen : ByteArray := prog_14_method_33_code
def yX12_readsOpen : MethodName := ⟨RX12, "readsOpen", "()Z"⟩
abbrev cX12_readsLaw : ByteArray := prog_14_method_34_code
def yX12_readsLaw : MethodName := ⟨RX12, "readsLaw", "(I)Z"⟩
abbrev cX12_begins0 : ByteArray := prog_14_method_35_code
def yX12_begins0 : MethodName := ⟨RX12, "begins0", "()V"⟩
abbrev cX12_readsAll : ByteArray := prog_14_method_36_code
def yX12_readsAll : MethodName := ⟨RX12, "readsAll", "()Z"⟩
abbrev cX12_shifts : ByteArray := prog_14_method_37_code
def yX12_shifts : MethodName := ⟨RX12, "shifts", "([II)V"⟩
abbrev cX12_lays : ByteArray := prog_14_method_38_code
def yX12_lays : MethodName := ⟨RX12, "lays", "()V"⟩
abbrev cX12_copies : ByteArray := prog_14_method_39_code
def yX12_copies : MethodName := ⟨RX12, "copies", "([II[II)V"⟩
abbrev cX12_readsLine : ByteArray := prog_14_method_40_code
def yX12_readsLine : MethodName := ⟨RX12, "readsLine", "()Z"⟩
abbrev cX12_laysLines : ByteArray := prog_14_method_41_code
def yX12_laysLines : MethodName := ⟨RX12, "laysLines", "(II)V"⟩
abbrev cX12_laysFound : ByteArray := prog_14_method_42_code
def yX12_laysFound : MethodName := ⟨RX12, "laysFound", "(II)V"⟩
abbrev cX12_fresh : ByteArray := prog_14_method_43_code
def yX12_fresh : MethodName := ⟨RX12, "fresh", "()V"⟩
abbrev cX12_station : ByteArray := prog_14_method_44_code
def yX12_station : MethodName := ⟨RX12, "station", "()I"⟩
abbrev cX12_week : ByteArray := prog_14_method_45_code
def yX12_week : MethodName := ⟨RX12, "week", "()I"⟩
abbrev cX12_isPasser : ByteArray := prog_14_method_46_code
def yX12_isPasser : MethodName := ⟨RX12, "isPasser", "(I)Z"⟩
abbrev cX12_isKey : ByteArray := prog_14_method_47_code
def yX12_isKey : MethodName := ⟨RX12, "isKey", "(I)Z"⟩
abbrev cX12_rowOf : ByteArray := prog_14_method_48_code
def yX12_rowOf : MethodName := ⟨RX12, "rowOf", "(I)I"⟩
abbrev cX12_allStrikes : ByteArray := prog_14_method_49_code
def yX12_allStrikes : MethodName := ⟨RX12, "allStrikes", "(I)I"⟩
abbrev cX12_keyAt : ByteArray := prog_14_method_50_code
def yX12_keyAt : MethodName := ⟨RX12, "keyAt", "(II)I"⟩
abbrev cX12_strikesOf : ByteArray := prog_14_method_51_code
def yX12_strikesOf : MethodName := ⟨RX12, "strikesOf", "(II)I"⟩
abbrev cX12_minutesOf : ByteArray := prog_14_method_52_code
def yX12_minutesOf : MethodName := ⟨RX12, "minutesOf", "(I)I"⟩
abbrev cX12_wornBy : ByteArray := prog_14_method_53_code
def yX12_wornBy : MethodName := ⟨RX12, "wornBy", "(II)I"⟩
abbrev cX12_wornFor : ByteArray := prog_14_method_54_code
def yX12_wornFor : MethodName := ⟨RX12, "wornFor", "(I)I"⟩
abbrev cX12_standing : ByteArray := prog_14_method_55_code
def yX12_standing : MethodName := ⟨RX12, "standing", "()I"⟩
abbrev cX12_wouldDare : ByteArray := prog_14_method_56_code
def yX12_wouldDare : MethodName := ⟨RX12, "wouldDare", "(II)Z"⟩
abbrev cX12_isOpenAt : ByteArray := prog_14_method_57_code
def yX12_isOpenAt : MethodName := ⟨RX12, "isOpenAt", "(I)Z"⟩
abbrev cX12_firstDaring : ByteArray := prog_14_method_58_code
def yX12_firstDaring : MethodName := ⟨RX12, "firstDaring", "()I"⟩
abbrev cX12_beginsAt : ByteArray := prog_14_method_59_code
def yX12_beginsAt : MethodName := ⟨RX12, "beginsAt", "(II)V"⟩
abbrev cX12_joyOf : ByteArray := prog_14_method_60_code
def yX12_joyOf : MethodName := ⟨RX12, "joyOf", "(I)I"⟩
abbrev cX12_passesMinute : ByteArray := prog_14_method_61_code
def yX12_passesMinute : MethodName := ⟨RX12, "passesMinute", "(II)I"⟩
abbrev cX12_passesDay : ByteArray := prog_14_method_62_code
def yX12_passesDay : MethodName := ⟨RX12, "passesDay", "()I"⟩
abbrev cX12_passes : ByteArray := prog_14_method_63_code
def yX12_passes : MethodName := ⟨RX12, "passes", "()I"⟩
abbrev cX12_tries : ByteArray := prog_14_method_64_code
def yX12_tries : MethodName := ⟨RX12, "tries", "()I"⟩
abbrev cX12_triesWithout : ByteArray := prog_14_method_65_code
def yX12_triesWithout : MethodName := ⟨RX12, "triesWithout", "(I)I"⟩
abbrev cX12_mends : ByteArray := prog_14_method_66_code
def yX12_mends : MethodName := ⟨RX12, "mends", "()I"⟩
abbrev cX12_goneKeys : ByteArray := prog_14_method_67_code
def yX12_goneKeys : MethodName := ⟨RX12, "goneKeys", "()I"⟩
abbrev cX12_passer : ByteArray := prog_14_method_68_code
def yX12_passer : MethodName := ⟨RX12, "passer", "(II)I"⟩
abbrev cX12_tune : ByteArray := prog_14_method_69_code
def yX12_tune : MethodName := ⟨RX12, "tune", "(II)I"⟩
abbrev cX12_key : ByteArray := prog_14_method_70_code
def yX12_key : MethodName := ⟨RX12, "key", "(I)I"⟩
abbrev cX12_begins : ByteArray := prog_14_method_71_code
def yX12_begins : MethodName := ⟨RX12, "begins", "(I)I"⟩
abbrev cX12_ends : ByteArray := prog_14_method_72_code
def yX12_ends : MethodName := ⟨RX12, "ends", "(I)I"⟩
abbrev cX12_now : ByteArray := prog_14_method_73_code
def yX12_now : MethodName := ⟨RX12, "now", "(I)I"⟩
abbrev cX12_away : ByteArray := prog_14_method_74_code
def yX12_away : MethodName := ⟨RX12, "away", "()I"⟩
abbrev cX12_joy : ByteArray := prog_14_method_75_code
def yX12_joy : MethodName := ⟨RX12, "joy", "()I"⟩
abbrev cX12_keeps : ByteArray := prog_14_method_76_code
def yX12_keeps : MethodName := ⟨RX12, "keeps", "()V"⟩
abbrev cX12_day : ByteArray := prog_14_method_77_code
def yX12_day : MethodName := ⟨RX12, "day", "()I"⟩
abbrev cX12_mend : ByteArray := prog_14_method_78_code
def yX12_mend : MethodName := ⟨RX12, "mend", "()I"⟩
abbrev cX12_each : ByteArray := prog_14_method_79_code
def yX12_each : MethodName := ⟨RX12, "each", "(I)Z"⟩
abbrev cX12_open : ByteArray := prog_14_method_80_code
def yX12_open : MethodName := ⟨RX12, "open", "(II)Z"⟩
abbrev cX12_undo : ByteArray := prog_14_method_81_code
def yX12_undo : MethodName := ⟨RX12, "undo", "()Z"⟩
abbrev cX12_goes : ByteArray := prog_14_method_82_code
def yX12_goes : MethodName := ⟨RX12, "goes", "(I)I"⟩
abbrev cX12_judged : ByteArray := prog_14_method_83_code
def yX12_judged : MethodName := ⟨RX12, "judged", "(I)I"⟩
abbrev cX12_best : ByteArray := prog_14_method_84_code
def yX12_best : MethodName := ⟨RX12, "best", "(I)I"⟩
abbrev cX12_hours : ByteArray := prog_14_method_85_code
def yX12_hours : MethodName := ⟨RX12, "hours", "(I)I"⟩
abbrev cX12_daysBring : ByteArray := prog_14_method_86_code
def yX12_daysBring : MethodName := ⟨RX12, "daysBring", "(II)I"⟩
abbrev cX12_when : ByteArray := prog_14_method_87_code
def yX12_when : MethodName := ⟨RX12, "when", "(II)I"⟩
abbrev cX12_rule : ByteArray := prog_14_method_88_code
def yX12_rule : MethodName := ⟨RX12, "rule", "(II)I"⟩
abbrev cX12_lasts : ByteArray := prog_14_method_89_code
def yX12_lasts : MethodName := ⟨RX12, "lasts", "(I)I"⟩
abbrev cX12_without : ByteArray := prog_14_method_90_code
def yX12_without : MethodName := ⟨RX12, "without", "(I)I"⟩
abbrev cX12_rarer : ByteArray := prog_14_method_91_code
def yX12_rarer : MethodName := ⟨RX12, "rarer", "(I)I"⟩
abbrev cX12_dare : ByteArray := prog_14_method_92_code
def yX12_dare : MethodName := ⟨RX12, "dare", "(I)I"⟩
abbrev cX12_strikes : ByteArray := prog_14_method_93_code
def yX12_strikes : MethodName := ⟨RX12, "strikes", "(II)I"⟩
abbrev cX12_find : ByteArray := prog_14_method_94_code
def yX12_find : MethodName := ⟨RX12, "find", "(II)Z"⟩
abbrev cX12_wearBy : ByteArray := prog_14_method_95_code
def yX12_wearBy : MethodName := ⟨RX12, "wearBy", "(II)I"⟩
abbrev cX12_isAsFound : ByteArray := prog_14_method_96_code
def yX12_isAsFound : MethodName := ⟨RX12, "isAsFound", "(I)Z"⟩
abbrev cX12_sets : ByteArray := prog_14_method_97_code
def yX12_sets : MethodName := ⟨RX12, "sets", "(I)I"⟩
abbrev cX12_mostAlike : ByteArray := prog_14_method_98_code
def yX12_mostAlike : MethodName := ⟨RX12, "mostAlike", "(I)I"⟩
abbrev cX12_isFound : ByteArray := prog_14_method_99_code
def yX12_isFound : MethodName := ⟨RX12, "isFound", "(I)Z"⟩
abbrev cX12_look : ByteArray := prog_14_method_100_code
def yX12_look : MethodName := ⟨RX12, "look", "()I"⟩
abbrev cX12_share : ByteArray := prog_14_method_101_code
def yX12_share : MethodName := ⟨RX12, "share", "(I)I"⟩
abbrev cX12_getsBy : ByteArray := prog_14_method_102_code
def yX12_getsBy : MethodName := ⟨RX12, "getsBy", "(IIIII)I"⟩
abbrev cX12_rests : ByteArray := prog_14_method_103_code
def yX12_rests : MethodName := ⟨RX12, "rests", "(IIII)I"⟩
abbrev cX12_draws : ByteArray := prog_14_method_104_code
def yX12_draws : MethodName := ⟨RX12, "draws", "(I)I"⟩
abbrev cX12_badKeys : ByteArray := prog_14_method_105_code
def yX12_badKeys : MethodName := ⟨RX12, "badKeys", "()I"⟩
abbrev cX12_months : ByteArray := prog_14_method_106_code
def yX12_months : MethodName := ⟨RX12, "months", "(III)I"⟩
abbrev cX12_mark : ByteArray := prog_14_method_107_code
def yX12_mark : MethodName := ⟨RX12, "mark", "(IZ)Z"⟩
abbrev cX12_count : ByteArray := prog_14_method_108_code
def yX12_count : MethodName := ⟨RX12, "count", "(I)I"⟩
def RJx145de : String := "java/io/Serializable"
def TJx145de : u_T := fun k => match k with
  | _ => ("", "", "", false)
def tyJx145de : Nat → FieldType := fun k => match k with
  | _ => .int
abbrev wsJx145de0 : List Cond := u_ws RJx145de TJx145de 0
theorem nmJx145de : ∀ a, a < 0 → ∀ b, b < 0 → a ≠ b → (TJx145de a).2.1 ≠ (TJx145de b).2.1 := by decide +kernel
theorem tyJx145de_ok : ∀ k, k < 0 → parseFieldDescriptor (TJx145de k).2.2.1 = some (tyJx145de k) := by decide +kernel
def RJx9f9b0 : String := "java/lang/CharSequence"
def TJx9f9b0 : u_T := fun k => match k with
  | _ => ("", "", "", false)
def tyJx9f9b0 : Nat → FieldType := fun k => match k with
  | _ => .int
abbrev wsJx9f9b00 : List Cond := u_ws RJx9f9b0 TJx9f9b0 0
theorem nmJx9f9b0 : ∀ a, a < 0 → ∀ b, b < 0 → a ≠ b → (TJx9f9b0 a).2.1 ≠ (TJx9f9b0 b).2.1 := by decide +kernel
theorem tyJx9f9b0_ok : ∀ k, k < 0 → parseFieldDescriptor (TJx9f9b0 k).2.2.1 = some (tyJx9f9b0 k) := by decide +kernel
def RJ11 : String := "java/lang/Character"
def TJ11 : u_T := fun k => match k with
  | _ => ("", "", "", false)
def tyJ11 : Nat → FieldType := fun k => match k with
  | _ => .int
abbrev wsJ110 : List Cond := u_ws RJ11 TJ11 0
theorem nmJ11 : ∀ a, a < 0 → ∀ b, b < 0 → a ≠ b → (TJ11 a).2.1 ≠ (TJ11 b).2.1 := by decide +kernel
theorem tyJ11_ok : ∀ k, k < 0 → parseFieldDescriptor (TJ11 k).2.2.1 = some (tyJ11 k) := by decide +kernel
abbrev cJ11_isValidCodePoint_9a6ad : ByteArray := prog_17_method_11_code
def yJ11_isValidCodePoint_9a6ad : MethodName := ⟨RJ11, "isValidCodePoint", "(I)Z"⟩
abbrev cJ11_highSurrogate_5068e : ByteArray := prog_17_method_28_code
def yJ11_highSurrogate_5068e : MethodName := ⟨RJ11, "highSurrogate", "(I)C"⟩
abbrev cJ11_lowSurrogate_5068e : ByteArray := prog_17_method_29_code
def yJ11_lowSurrogate_5068e : MethodName := ⟨RJ11, "lowSurrogate", "(I)C"⟩
def RJxb160c : String := "java/lang/Comparable"
def TJxb160c : u_T := fun k => match k with
  | _ => ("", "", "", false)
def tyJxb160c : Nat → FieldType := fun k => match k with
  | _ => .int
abbrev wsJxb160c0 : List Cond := u_ws RJxb160c TJxb160c 0
theorem nmJxb160c : ∀ a, a < 0 → ∀ b, b < 0 → a ≠ b → (TJxb160c a).2.1 ≠ (TJxb160c b).2.1 := by decide +kernel
theorem tyJxb160c_ok : ∀ k, k < 0 → parseFieldDescriptor (TJxb160c k).2.2.1 = some (tyJxb160c k) := by decide +kernel
def RJ6 : String := "java/lang/Integer"
def TJ6 : u_T := fun k => match k with
  | _ => ("", "", "", false)
def tyJ6 : Nat → FieldType := fun k => match k with
  | _ => .int
abbrev wsJ60 : List Cond := u_ws RJ6 TJ6 0
theorem nmJ6 : ∀ a, a < 0 → ∀ b, b < 0 → a ≠ b → (TJ6 a).2.1 ≠ (TJ6 b).2.1 := by decide +kernel
theorem tyJ6_ok : ∀ k, k < 0 → parseFieldDescriptor (TJ6 k).2.2.1 = some (tyJ6 k) := by decide +kernel
abbrev cJ6_bitCount_0f7a4 : ByteArray := prog_20_method_49_code
def yJ6_bitCount_0f7a4 : MethodName := ⟨RJ6, "bitCount", "(I)I"⟩
def RJ9 : String := "java/lang/Math"
def TJ9 : u_T := fun k => match k with
  | _ => ("", "", "", false)
def tyJ9 : Nat → FieldType := fun k => match k with
  | _ => .int
abbrev wsJ90 : List Cond := u_ws RJ9 TJ9 0
theorem nmJ9 : ∀ a, a < 0 → ∀ b, b < 0 → a ≠ b → (TJ9 a).2.1 ≠ (TJ9 b).2.1 := by decide +kernel
theorem tyJ9_ok : ∀ k, k < 0 → parseFieldDescriptor (TJ9 k).2.2.1 = some (tyJ9 k) := by decide +kernel
abbrev cJ9_max_7cf53 : ByteArray := prog_21_method_65_code
def yJ9_max_7cf53 : MethodName := ⟨RJ9, "max", "(II)I"⟩
abbrev cJ9_min_7cf53 : ByteArray := prog_21_method_69_code
def yJ9_min_7cf53 : MethodName := ⟨RJ9, "min", "(II)I"⟩
def RJ0 : String := "java/lang/String"
def TJ0 : u_T := fun k => match k with
  | _ => ("", "", "", false)
def tyJ0 : Nat → FieldType := fun k => match k with
  | _ => .int
abbrev wsJ00 : List Cond := u_ws RJ0 TJ0 0
theorem nmJ0 : ∀ a, a < 0 → ∀ b, b < 0 → a ≠ b → (TJ0 a).2.1 ≠ (TJ0 b).2.1 := by decide +kernel
theorem tyJ0_ok : ∀ k, k < 0 → parseFieldDescriptor (TJ0 k).2.2.1 = some (tyJ0 k) := by decide +kernel
abbrev cJ0_length_8abf5 : ByteArray := prog_23_method_54_code
def yJ0_length_8abf5 : MethodName := ⟨RJ0, "length", "()I"⟩
abbrev cJ0_charAt_5068e : ByteArray := prog_23_method_56_code
def yJ0_charAt_5068e : MethodName := ⟨RJ0, "charAt", "(I)C"⟩
abbrev cJ0_indexOf_0f7a4 : ByteArray := prog_23_method_79_code
def yJ0_indexOf_0f7a4 : MethodName := ⟨RJ0, "indexOf", "(I)I"⟩
abbrev cJ0_indexOf_7cf53 : ByteArray := prog_23_method_80_code
def yJ0_indexOf_7cf53 : MethodName := ⟨RJ0, "indexOf", "(II)I"⟩
abbrev cJ0_coder_7d493 : ByteArray := prog_23_method_152_code
def yJ0_coder_7d493 : MethodName := ⟨RJ0, "coder", "()B"⟩
abbrev cJ0_isLatin1_aae02 : ByteArray := prog_23_method_154_code
def yJ0_isLatin1_aae02 : MethodName := ⟨RJ0, "isLatin1", "()Z"⟩
abbrev cJ0_checkIndex_df160 : ByteArray := prog_23_method_155_code
def yJ0_checkIndex_df160 : MethodName := ⟨RJ0, "checkIndex", "(II)V"⟩
abbrev cJ0_checkBoundsBeginEnd_23922 : ByteArray := prog_23_method_158_code
def yJ0_checkBoundsBeginEnd_23922 : MethodName := ⟨RJ0, "checkBoundsBeginEnd", "(III)V"⟩
def RJ1 : String := "java/lang/StringLatin1"
def TJ1 : u_T := fun k => match k with
  | _ => ("", "", "", false)
def tyJ1 : Nat → FieldType := fun k => match k with
  | _ => .int
abbrev wsJ10 : List Cond := u_ws RJ1 TJ1 0
theorem nmJ1 : ∀ a, a < 0 → ∀ b, b < 0 → a ≠ b → (TJ1 a).2.1 ≠ (TJ1 b).2.1 := by decide +kernel
theorem tyJ1_ok : ∀ k, k < 0 → parseFieldDescriptor (TJ1 k).2.2.1 = some (tyJ1 k) := by decide +kernel
abbrev cJ1_charAt_3b067 : ByteArray := prog_24_method_2_code
def yJ1_charAt_3b067 : MethodName := ⟨RJ1, "charAt", "([BI)C"⟩
abbrev cJ1_canEncode_9a6ad : ByteArray := prog_24_method_4_code
def yJ1_canEncode_9a6ad : MethodName := ⟨RJ1, "canEncode", "(I)Z"⟩
abbrev cJ1_indexOf_4cfef : ByteArray := prog_24_method_22_code
def yJ1_indexOf_4cfef : MethodName := ⟨RJ1, "indexOf", "([BIII)I"⟩
abbrev cJ1_indexOfChar_4cfef : ByteArray := prog_24_method_23_code
def yJ1_indexOfChar_4cfef : MethodName := ⟨RJ1, "indexOfChar", "([BIII)I"⟩
def RJ2 : String := "java/lang/StringUTF16"
def TJ2 : u_T := fun k => match k with
  | _ => ("", "", "", false)
def tyJ2 : Nat → FieldType := fun k => match k with
  | _ => .int
abbrev wsJ20 : List Cond := u_ws RJ2 TJ2 0
theorem nmJ2 : ∀ a, a < 0 → ∀ b, b < 0 → a ≠ b → (TJ2 a).2.1 ≠ (TJ2 b).2.1 := by decide +kernel
theorem tyJ2_ok : ∀ k, k < 0 → parseFieldDescriptor (TJ2 k).2.2.1 = some (tyJ2 k) := by decide +kernel
abbrev cJ2_getChar_3b067 : ByteArray := prog_25_method_5_code
def yJ2_getChar_3b067 : MethodName := ⟨RJ2, "getChar", "([BI)C"⟩
abbrev cJ2_length_9d52b : ByteArray := prog_25_method_6_code
def yJ2_length_9d52b : MethodName := ⟨RJ2, "length", "([B)I"⟩
abbrev cJ2_indexOf_4cfef : ByteArray := prog_25_method_40_code
def yJ2_indexOf_4cfef : MethodName := ⟨RJ2, "indexOf", "([BIII)I"⟩
abbrev cJ2_indexOfChar_4cfef : ByteArray := prog_25_method_47_code
def yJ2_indexOfChar_4cfef : MethodName := ⟨RJ2, "indexOfChar", "([BIII)I"⟩
abbrev cJ2_indexOfCharUnsafe_4cfef : ByteArray := prog_25_method_48_code
def yJ2_indexOfCharUnsafe_4cfef : MethodName := ⟨RJ2, "indexOfCharUnsafe", "([BIII)I"⟩
abbrev cJ2_indexOfSupplementary_4cfef : ByteArray := prog_25_method_49_code
def yJ2_indexOfSupplementary_4cfef : MethodName := ⟨RJ2, "indexOfSupplementary", "([BIII)I"⟩
abbrev cJ2_charAt_3b067 : ByteArray := prog_25_method_83_code
def yJ2_charAt_3b067 : MethodName := ⟨RJ2, "charAt", "([BI)C"⟩
abbrev cJ2_checkIndex_2214a : ByteArray := prog_25_method_91_code
def yJ2_checkIndex_2214a : MethodName := ⟨RJ2, "checkIndex", "(I[B)V"⟩
abbrev cJ2_checkBoundsBeginEnd_d044e : ByteArray := prog_25_method_93_code
def yJ2_checkBoundsBeginEnd_d044e : MethodName := ⟨RJ2, "checkBoundsBeginEnd", "(II[B)V"⟩
def RJxfd54e : String := "java/lang/constant/Constable"
def TJxfd54e : u_T := fun k => match k with
  | _ => ("", "", "", false)
def tyJxfd54e : Nat → FieldType := fun k => match k with
  | _ => .int
abbrev wsJxfd54e0 : List Cond := u_ws RJxfd54e TJxfd54e 0
theorem nmJxfd54e : ∀ a, a < 0 → ∀ b, b < 0 → a ≠ b → (TJxfd54e a).2.1 ≠ (TJxfd54e b).2.1 := by decide +kernel
theorem tyJxfd54e_ok : ∀ k, k < 0 → parseFieldDescriptor (TJxfd54e k).2.2.1 = some (tyJxfd54e k) := by decide +kernel
def RJx3cf43 : String := "java/lang/constant/ConstantDesc"
def TJx3cf43 : u_T := fun k => match k with
  | _ => ("", "", "", false)
def tyJx3cf43 : Nat → FieldType := fun k => match k with
  | _ => .int
abbrev wsJx3cf430 : List Cond := u_ws RJx3cf43 TJx3cf43 0
theorem nmJx3cf43 : ∀ a, a < 0 → ∀ b, b < 0 → a ≠ b → (TJx3cf43 a).2.1 ≠ (TJx3cf43 b).2.1 := by decide +kernel
theorem tyJx3cf43_ok : ∀ k, k < 0 → parseFieldDescriptor (TJx3cf43 k).2.2.1 = some (tyJx3cf43 k) := by decide +kernel
def RJ3 : String := "jdk/internal/util/Preconditions"
def TJ3 : u_T := fun k => match k with
  | _ => ("", "", "", false)
def tyJ3 : Nat → FieldType := fun k => match k with
  | _ => .int
abbrev wsJ30 : List Cond := u_ws RJ3 TJ3 0
theorem nmJ3 : ∀ a, a < 0 → ∀ b, b < 0 → a ≠ b → (TJ3 a).2.1 ≠ (TJ3 b).2.1 := by decide +kernel
theorem tyJ3_ok : ∀ k, k < 0 → parseFieldDescriptor (TJ3 k).2.2.1 = some (tyJ3 k) := by decide +kernel
abbrev cJ3_checkIndex_8e157 : ByteArray := prog_30_method_11_code
def yJ3_checkIndex_8e157 : MethodName := ⟨RJ3, "checkIndex", "(IILjava/util/function/BiFunction;)I"⟩
abbrev cJ3_checkFromToIndex_8c36e : ByteArray := prog_30_method_12_code
def yJ3_checkFromToIndex_8c36e : MethodName := ⟨RJ3, "checkFromToIndex", "(IIILjava/util/function/BiFunction;)I"⟩
def RL : String := "StationPianoLaw"
abbrev cL_judged : ByteArray := method_3_code
def yL_judged : MethodName := ⟨RL, "judged", "(LStationPiano;I[J)I"⟩
abbrev cL_best : ByteArray := method_4_code
def yL_best : MethodName := ⟨RL, "best", "(LStationPiano;I[J)I"⟩
abbrev cL_when : ByteArray := method_5_code
def yL_when : MethodName := ⟨RL, "when", "(LStationPiano;II[J)I"⟩
abbrev cL_without : ByteArray := method_6_code
def yL_without : MethodName := ⟨RL, "without", "(LStationPiano;I[J)I"⟩
abbrev cL_rests : ByteArray := method_7_code
def yL_rests : MethodName := ⟨RL, "rests", "(LStationPiano;IIII[J)I"⟩
abbrev cL_rule : ByteArray := method_8_code
def yL_rule : MethodName := ⟨RL, "rule", "(LStationPiano;II[J)I"⟩
abbrev cL_months : ByteArray := method_9_code
def yL_months : MethodName := ⟨RL, "months", "(LStationPiano;III[J)I"⟩
abbrev cL_law : ByteArray := code
def yL_law : MethodName := ⟨RL, "law", "([I)Z"⟩
theorem dX0_init_0 : decode cX0_init 0 = .ok (.aload_n 0, 1) := by decide +kernel
theorem dX0_init_1 : decode cX0_init 1 = .ok (.invokespecial 3, 3) := by decide +kernel
theorem dX0_init_4 : decode cX0_init 4 = .ok (.aload_n 0, 1) := by decide +kernel
theorem dX0_init_5 : decode cX0_init 5 = .ok (.bipush 8, 2) := by decide +kernel
theorem dX0_init_7 : decode cX0_init 7 = .ok (.newarray .int, 2) := by decide +kernel
theorem dX0_init_9 : decode cX0_init 9 = .ok (.putfield 9, 3) := by decide +kernel
theorem dX0_init_12 : decode cX0_init 12 = .ok (.aload_n 0, 1) := by decide +kernel
theorem dX0_init_13 : decode cX0_init 13 = .ok (.bipush 8, 2) := by decide +kernel
theorem dX0_init_15 : decode cX0_init 15 = .ok (.newarray .int, 2) := by decide +kernel
theorem dX0_init_17 : decode cX0_init 17 = .ok (.putfield 15, 3) := by decide +kernel
theorem dX0_init_20 : decode cX0_init 20 = .ok (.return_, 1) := by decide +kernel
theorem dX0_add_0 : decode cX0_add 0 = .ok (.aload_n 0, 1) := by decide +kernel
theorem dX0_add_1 : decode cX0_add 1 = .ok (.getfield 18, 3) := by decide +kernel
theorem dX0_add_4 : decode cX0_add 4 = .ok (.ifCond .lt 12, 3) := by decide +kernel
theorem dX0_add_7 : decode cX0_add 7 = .ok (.aload_n 0, 1) := by decide +kernel
theorem dX0_add_8 : decode cX0_add 8 = .ok (.getfield 18, 3) := by decide +kernel
theorem dX0_add_11 : decode cX0_add 11 = .ok (.bipush 8, 2) := by decide +kernel
theorem dX0_add_13 : decode cX0_add 13 = .ok (.if_icmp .lt 5, 3) := by decide +kernel
theorem dX0_add_16 : decode cX0_add 16 = .ok (.iconst 0, 1) := by decide +kernel
theorem dX0_add_17 : decode cX0_add 17 = .ok (.ireturn, 1) := by decide +kernel
theorem dX0_add_18 : decode cX0_add 18 = .ok (.aload_n 0, 1) := by decide +kernel
theorem dX0_add_19 : decode cX0_add 19 = .ok (.getfield 9, 3) := by decide +kernel
theorem dX0_add_22 : decode cX0_add 22 = .ok (.aload_n 0, 1) := by decide +kernel
theorem dX0_add_23 : decode cX0_add 23 = .ok (.getfield 18, 3) := by decide +kernel
theorem dX0_add_26 : decode cX0_add 26 = .ok (.iload_n 1, 1) := by decide +kernel
theorem dX0_add_27 : decode cX0_add 27 = .ok (.iastore, 1) := by decide +kernel
theorem dX0_add_28 : decode cX0_add 28 = .ok (.aload_n 0, 1) := by decide +kernel
theorem dX0_add_29 : decode cX0_add 29 = .ok (.getfield 15, 3) := by decide +kernel
theorem dX0_add_32 : decode cX0_add 32 = .ok (.aload_n 0, 1) := by decide +kernel
theorem dX0_add_33 : decode cX0_add 33 = .ok (.getfield 18, 3) := by decide +kernel
theorem dX0_add_36 : decode cX0_add 36 = .ok (.iload_n 2, 1) := by decide +kernel
theorem dX0_add_37 : decode cX0_add 37 = .ok (.iastore, 1) := by decide +kernel
theorem dX0_add_38 : decode cX0_add 38 = .ok (.aload_n 0, 1) := by decide +kernel
theorem dX0_add_39 : decode cX0_add 39 = .ok (.dup, 1) := by decide +kernel
theorem dX0_add_40 : decode cX0_add 40 = .ok (.getfield 18, 3) := by decide +kernel
theorem dX0_add_43 : decode cX0_add 43 = .ok (.iconst 1, 1) := by decide +kernel
theorem dX0_add_44 : decode cX0_add 44 = .ok (.iadd, 1) := by decide +kernel
theorem dX0_add_45 : decode cX0_add 45 = .ok (.putfield 18, 3) := by decide +kernel
theorem dX0_add_48 : decode cX0_add 48 = .ok (.iconst 1, 1) := by decide +kernel
theorem dX0_add_49 : decode cX0_add 49 = .ok (.ireturn, 1) := by decide +kernel
theorem dX0_has_0 : decode cX0_has 0 = .ok (.iconst 0, 1) := by decide +kernel
theorem dX0_has_1 : decode cX0_has 1 = .ok (.istore_n 2, 1) := by decide +kernel
theorem dX0_has_2 : decode cX0_has 2 = .ok (.iload_n 2, 1) := by decide +kernel
theorem dX0_has_3 : decode cX0_has 3 = .ok (.aload_n 0, 1) := by decide +kernel
theorem dX0_has_4 : decode cX0_has 4 = .ok (.getfield 18, 3) := by decide +kernel
theorem dX0_has_7 : decode cX0_has 7 = .ok (.if_icmp .ge 27, 3) := by decide +kernel
theorem dX0_has_10 : decode cX0_has 10 = .ok (.iload_n 2, 1) := by decide +kernel
theorem dX0_has_11 : decode cX0_has 11 = .ok (.bipush 8, 2) := by decide +kernel
theorem dX0_has_13 : decode cX0_has 13 = .ok (.if_icmp .ge 21, 3) := by decide +kernel
theorem dX0_has_16 : decode cX0_has 16 = .ok (.aload_n 0, 1) := by decide +kernel
theorem dX0_has_17 : decode cX0_has 17 = .ok (.getfield 9, 3) := by decide +kernel
theorem dX0_has_20 : decode cX0_has 20 = .ok (.iload_n 2, 1) := by decide +kernel
theorem dX0_has_21 : decode cX0_has 21 = .ok (.iaload, 1) := by decide +kernel
theorem dX0_has_22 : decode cX0_has 22 = .ok (.iload_n 1, 1) := by decide +kernel
theorem dX0_has_23 : decode cX0_has 23 = .ok (.if_icmp .ne 5, 3) := by decide +kernel
theorem dX0_has_26 : decode cX0_has 26 = .ok (.iconst 1, 1) := by decide +kernel
theorem dX0_has_27 : decode cX0_has 27 = .ok (.ireturn, 1) := by decide +kernel
theorem dX0_has_28 : decode cX0_has 28 = .ok (.iinc 2 1, 3) := by decide +kernel
theorem dX0_has_31 : decode cX0_has 31 = .ok (.goto (-29), 3) := by decide +kernel
theorem dX0_has_34 : decode cX0_has 34 = .ok (.iconst 0, 1) := by decide +kernel
theorem dX0_has_35 : decode cX0_has 35 = .ok (.ireturn, 1) := by decide +kernel
theorem dX0_allSo_0 : decode cX0_allSo 0 = .ok (.iconst 0, 1) := by decide +kernel
theorem dX0_allSo_1 : decode cX0_allSo 1 = .ok (.istore_n 2, 1) := by decide +kernel
theorem dX0_allSo_2 : decode cX0_allSo 2 = .ok (.iload_n 2, 1) := by decide +kernel
theorem dX0_allSo_3 : decode cX0_allSo 3 = .ok (.aload_n 0, 1) := by decide +kernel
theorem dX0_allSo_4 : decode cX0_allSo 4 = .ok (.getfield 18, 3) := by decide +kernel
theorem dX0_allSo_7 : decode cX0_allSo 7 = .ok (.if_icmp .ge 46, 3) := by decide +kernel
theorem dX0_allSo_10 : decode cX0_allSo 10 = .ok (.iload_n 2, 1) := by decide +kernel
theorem dX0_allSo_11 : decode cX0_allSo 11 = .ok (.bipush 8, 2) := by decide +kernel
theorem dX0_allSo_13 : decode cX0_allSo 13 = .ok (.if_icmp .ge 40, 3) := by decide +kernel
theorem dX0_allSo_16 : decode cX0_allSo 16 = .ok (.aload_n 0, 1) := by decide +kernel
theorem dX0_allSo_17 : decode cX0_allSo 17 = .ok (.getfield 9, 3) := by decide +kernel
theorem dX0_allSo_20 : decode cX0_allSo 20 = .ok (.iload_n 2, 1) := by decide +kernel
theorem dX0_allSo_21 : decode cX0_allSo 21 = .ok (.iaload, 1) := by decide +kernel
theorem dX0_allSo_22 : decode cX0_allSo 22 = .ok (.istore_n 3, 1) := by decide +kernel
theorem dX0_allSo_23 : decode cX0_allSo 23 = .ok (.iload_n 3, 1) := by decide +kernel
theorem dX0_allSo_24 : decode cX0_allSo 24 = .ok (.ifCond .lt 21, 3) := by decide +kernel
theorem dX0_allSo_27 : decode cX0_allSo 27 = .ok (.iload_n 3, 1) := by decide +kernel
theorem dX0_allSo_28 : decode cX0_allSo 28 = .ok (.aload_n 1, 1) := by decide +kernel
theorem dX0_allSo_29 : decode cX0_allSo 29 = .ok (.arraylength, 1) := by decide +kernel
theorem dX0_allSo_30 : decode cX0_allSo 30 = .ok (.if_icmp .ge 15, 3) := by decide +kernel
theorem dX0_allSo_33 : decode cX0_allSo 33 = .ok (.aload_n 1, 1) := by decide +kernel
theorem dX0_allSo_34 : decode cX0_allSo 34 = .ok (.iload_n 3, 1) := by decide +kernel
theorem dX0_allSo_35 : decode cX0_allSo 35 = .ok (.iaload, 1) := by decide +kernel
theorem dX0_allSo_36 : decode cX0_allSo 36 = .ok (.aload_n 0, 1) := by decide +kernel
theorem dX0_allSo_37 : decode cX0_allSo 37 = .ok (.getfield 15, 3) := by decide +kernel
theorem dX0_allSo_40 : decode cX0_allSo 40 = .ok (.iload_n 2, 1) := by decide +kernel
theorem dX0_allSo_41 : decode cX0_allSo 41 = .ok (.iaload, 1) := by decide +kernel
theorem dX0_allSo_42 : decode cX0_allSo 42 = .ok (.if_icmp .eq 5, 3) := by decide +kernel
theorem dX0_allSo_45 : decode cX0_allSo 45 = .ok (.iconst 0, 1) := by decide +kernel
theorem dX0_allSo_46 : decode cX0_allSo 46 = .ok (.ireturn, 1) := by decide +kernel
theorem dX0_allSo_47 : decode cX0_allSo 47 = .ok (.iinc 2 1, 3) := by decide +kernel
theorem dX0_allSo_50 : decode cX0_allSo 50 = .ok (.goto (-48), 3) := by decide +kernel
theorem dX0_allSo_53 : decode cX0_allSo 53 = .ok (.iconst 1, 1) := by decide +kernel
theorem dX0_allSo_54 : decode cX0_allSo 54 = .ok (.ireturn, 1) := by decide +kernel
theorem dX0_copyFrom_0 : decode cX0_copyFrom 0 = .ok (.aload_n 0, 1) := by decide +kernel
theorem dX0_copyFrom_1 : decode cX0_copyFrom 1 = .ok (.aload_n 1, 1) := by decide +kernel
theorem dX0_copyFrom_2 : decode cX0_copyFrom 2 = .ok (.getfield 18, 3) := by decide +kernel
theorem dX0_copyFrom_5 : decode cX0_copyFrom 5 = .ok (.putfield 18, 3) := by decide +kernel
theorem dX0_copyFrom_8 : decode cX0_copyFrom 8 = .ok (.iconst 0, 1) := by decide +kernel
theorem dX0_copyFrom_9 : decode cX0_copyFrom 9 = .ok (.istore_n 2, 1) := by decide +kernel
theorem dX0_copyFrom_10 : decode cX0_copyFrom 10 = .ok (.iload_n 2, 1) := by decide +kernel
theorem dX0_copyFrom_11 : decode cX0_copyFrom 11 = .ok (.aload_n 0, 1) := by decide +kernel
theorem dX0_copyFrom_12 : decode cX0_copyFrom 12 = .ok (.getfield 18, 3) := by decide +kernel
theorem dX0_copyFrom_15 : decode cX0_copyFrom 15 = .ok (.if_icmp .ge 39, 3) := by decide +kernel
theorem dX0_copyFrom_18 : decode cX0_copyFrom 18 = .ok (.iload_n 2, 1) := by decide +kernel
theorem dX0_copyFrom_19 : decode cX0_copyFrom 19 = .ok (.bipush 8, 2) := by decide +kernel
theorem dX0_copyFrom_21 : decode cX0_copyFrom 21 = .ok (.if_icmp .ge 33, 3) := by decide +kernel
theorem dX0_copyFrom_24 : decode cX0_copyFrom 24 = .ok (.aload_n 0, 1) := by decide +kernel
theorem dX0_copyFrom_25 : decode cX0_copyFrom 25 = .ok (.getfield 9, 3) := by decide +kernel
theorem dX0_copyFrom_28 : decode cX0_copyFrom 28 = .ok (.iload_n 2, 1) := by decide +kernel
theorem dX0_copyFrom_29 : decode cX0_copyFrom 29 = .ok (.aload_n 1, 1) := by decide +kernel
theorem dX0_copyFrom_30 : decode cX0_copyFrom 30 = .ok (.getfield 9, 3) := by decide +kernel
theorem dX0_copyFrom_33 : decode cX0_copyFrom 33 = .ok (.iload_n 2, 1) := by decide +kernel
theorem dX0_copyFrom_34 : decode cX0_copyFrom 34 = .ok (.iaload, 1) := by decide +kernel
theorem dX0_copyFrom_35 : decode cX0_copyFrom 35 = .ok (.iastore, 1) := by decide +kernel
theorem dX0_copyFrom_36 : decode cX0_copyFrom 36 = .ok (.aload_n 0, 1) := by decide +kernel
theorem dX0_copyFrom_37 : decode cX0_copyFrom 37 = .ok (.getfield 15, 3) := by decide +kernel
theorem dX0_copyFrom_40 : decode cX0_copyFrom 40 = .ok (.iload_n 2, 1) := by decide +kernel
theorem dX0_copyFrom_41 : decode cX0_copyFrom 41 = .ok (.aload_n 1, 1) := by decide +kernel
theorem dX0_copyFrom_42 : decode cX0_copyFrom 42 = .ok (.getfield 15, 3) := by decide +kernel
theorem dX0_copyFrom_45 : decode cX0_copyFrom 45 = .ok (.iload_n 2, 1) := by decide +kernel
theorem dX0_copyFrom_46 : decode cX0_copyFrom 46 = .ok (.iaload, 1) := by decide +kernel
theorem dX0_copyFrom_47 : decode cX0_copyFrom 47 = .ok (.iastore, 1) := by decide +kernel
theorem dX0_copyFrom_48 : decode cX0_copyFrom 48 = .ok (.iinc 2 1, 3) := by decide +kernel
theorem dX0_copyFrom_51 : decode cX0_copyFrom 51 = .ok (.goto (-41), 3) := by decide +kernel
theorem dX0_copyFrom_54 : decode cX0_copyFrom 54 = .ok (.return_, 1) := by decide +kernel
theorem dX1_init_0 : decode cX1_init 0 = .ok (.aload_n 0, 1) := by decide +kernel
theorem dX1_init_1 : decode cX1_init 1 = .ok (.invokespecial 3, 3) := by decide +kernel
theorem dX1_init_4 : decode cX1_init 4 = .ok (.aload_n 0, 1) := by decide +kernel
theorem dX1_init_5 : decode cX1_init 5 = .ok (.bipush 7, 2) := by decide +kernel
theorem dX1_init_7 : decode cX1_init 7 = .ok (.newarray .int, 2) := by decide +kernel
theorem dX1_init_9 : decode cX1_init 9 = .ok (.putfield 9, 3) := by decide +kernel
theorem dX1_init_12 : decode cX1_init 12 = .ok (.aload_n 0, 1) := by decide +kernel
theorem dX1_init_13 : decode cX1_init 13 = .ok (.bipush 7, 2) := by decide +kernel
theorem dX1_init_15 : decode cX1_init 15 = .ok (.newarray .int, 2) := by decide +kernel
theorem dX1_init_17 : decode cX1_init 17 = .ok (.putfield 15, 3) := by decide +kernel
theorem dX1_init_20 : decode cX1_init 20 = .ok (.aload_n 0, 1) := by decide +kernel
theorem dX1_init_21 : decode cX1_init 21 = .ok (.bipush 7, 2) := by decide +kernel
theorem dX1_init_23 : decode cX1_init 23 = .ok (.newarray .int, 2) := by decide +kernel
theorem dX1_init_25 : decode cX1_init 25 = .ok (.putfield 18, 3) := by decide +kernel
theorem dX1_init_28 : decode cX1_init 28 = .ok (.aload_n 0, 1) := by decide +kernel
theorem dX1_init_29 : decode cX1_init 29 = .ok (.bipush 7, 2) := by decide +kernel
theorem dX1_init_31 : decode cX1_init 31 = .ok (.newarray .int, 2) := by decide +kernel
theorem dX1_init_33 : decode cX1_init 33 = .ok (.putfield 21, 3) := by decide +kernel
theorem dX1_init_36 : decode cX1_init 36 = .ok (.aload_n 0, 1) := by decide +kernel
theorem dX1_init_37 : decode cX1_init 37 = .ok (.bipush 70, 2) := by decide +kernel
theorem dX1_init_39 : decode cX1_init 39 = .ok (.newarray .int, 2) := by decide +kernel
theorem dX1_init_41 : decode cX1_init 41 = .ok (.putfield 24, 3) := by decide +kernel
theorem dX1_init_44 : decode cX1_init 44 = .ok (.aload_n 0, 1) := by decide +kernel
theorem dX1_init_45 : decode cX1_init 45 = .ok (.bipush 6, 2) := by decide +kernel
theorem dX1_init_47 : decode cX1_init 47 = .ok (.newarray .int, 2) := by decide +kernel
theorem dX1_init_49 : decode cX1_init 49 = .ok (.putfield 27, 3) := by decide +kernel
theorem dX1_init_52 : decode cX1_init 52 = .ok (.aload_n 0, 1) := by decide +kernel
theorem dX1_init_53 : decode cX1_init 53 = .ok (.iconst 5, 1) := by decide +kernel
theorem dX1_init_54 : decode cX1_init 54 = .ok (.newarray .int, 2) := by decide +kernel
theorem dX1_init_56 : decode cX1_init 56 = .ok (.putfield 30, 3) := by decide +kernel
theorem dX1_init_59 : decode cX1_init 59 = .ok (.aload_n 0, 1) := by decide +kernel
theorem dX1_init_60 : decode cX1_init 60 = .ok (.bipush 7, 2) := by decide +kernel
theorem dX1_init_62 : decode cX1_init 62 = .ok (.newarray .int, 2) := by decide +kernel
theorem dX1_init_64 : decode cX1_init 64 = .ok (.putfield 33, 3) := by decide +kernel
theorem dX1_init_67 : decode cX1_init 67 = .ok (.aload_n 0, 1) := by decide +kernel
theorem dX1_init_68 : decode cX1_init 68 = .ok (.aload_n 1, 1) := by decide +kernel
theorem dX1_init_69 : decode cX1_init 69 = .ok (.putfield 36, 3) := by decide +kernel
theorem dX1_init_72 : decode cX1_init 72 = .ok (.return_, 1) := by decide +kernel
theorem dX1_prepare_0 : decode cX1_prepare 0 = .ok (.aload_n 0, 1) := by decide +kernel
theorem dX1_prepare_1 : decode cX1_prepare 1 = .ok (.aload_n 1, 1) := by decide +kernel
theorem dX1_prepare_2 : decode cX1_prepare 2 = .ok (.putfield 36, 3) := by decide +kernel
theorem dX1_prepare_5 : decode cX1_prepare 5 = .ok (.iconst 0, 1) := by decide +kernel
theorem dX1_prepare_6 : decode cX1_prepare 6 = .ok (.istore_n 3, 1) := by decide +kernel
theorem dX1_prepare_7 : decode cX1_prepare 7 = .ok (.iload_n 3, 1) := by decide +kernel
theorem dX1_prepare_8 : decode cX1_prepare 8 = .ok (.aload_n 1, 1) := by decide +kernel
theorem dX1_prepare_9 : decode cX1_prepare 9 = .ok (.getfield 40, 3) := by decide +kernel
theorem dX1_prepare_12 : decode cX1_prepare 12 = .ok (.if_icmp .ge 121, 3) := by decide +kernel
theorem dX1_prepare_15 : decode cX1_prepare 15 = .ok (.iload_n 3, 1) := by decide +kernel
theorem dX1_prepare_16 : decode cX1_prepare 16 = .ok (.bipush 7, 2) := by decide +kernel
theorem dX1_prepare_18 : decode cX1_prepare 18 = .ok (.if_icmp .ge 115, 3) := by decide +kernel
theorem dX1_prepare_21 : decode cX1_prepare 21 = .ok (.aload_n 1, 1) := by decide +kernel
theorem dX1_prepare_22 : decode cX1_prepare 22 = .ok (.getfield 46, 3) := by decide +kernel
theorem dX1_prepare_25 : decode cX1_prepare 25 = .ok (.iload_n 3, 1) := by decide +kernel
theorem dX1_prepare_26 : decode cX1_prepare 26 = .ok (.aaload, 1) := by decide +kernel
theorem dX1_prepare_27 : decode cX1_prepare 27 = .ok (.astore 4, 2) := by decide +kernel
theorem dX1_prepare_29 : decode cX1_prepare 29 = .ok (.aload_n 0, 1) := by decide +kernel
theorem dX1_prepare_30 : decode cX1_prepare 30 = .ok (.getfield 18, 3) := by decide +kernel
theorem dX1_prepare_33 : decode cX1_prepare 33 = .ok (.iload_n 3, 1) := by decide +kernel
theorem dX1_prepare_34 : decode cX1_prepare 34 = .ok (.aload 4, 2) := by decide +kernel
theorem dX1_prepare_36 : decode cX1_prepare 36 = .ok (.getfield 50, 3) := by decide +kernel
theorem dX1_prepare_39 : decode cX1_prepare 39 = .ok (.iastore, 1) := by decide +kernel
theorem dX1_prepare_40 : decode cX1_prepare 40 = .ok (.aload_n 0, 1) := by decide +kernel
theorem dX1_prepare_41 : decode cX1_prepare 41 = .ok (.getfield 21, 3) := by decide +kernel
theorem dX1_prepare_44 : decode cX1_prepare 44 = .ok (.iload_n 3, 1) := by decide +kernel
theorem dX1_prepare_45 : decode cX1_prepare 45 = .ok (.aload 4, 2) := by decide +kernel
theorem dX1_prepare_47 : decode cX1_prepare 47 = .ok (.iload_n 2, 1) := by decide +kernel
theorem dX1_prepare_48 : decode cX1_prepare 48 = .ok (.invokevirtual 54, 3) := by decide +kernel
theorem dX1_prepare_51 : decode cX1_prepare 51 = .ok (.iastore, 1) := by decide +kernel
theorem dX1_prepare_52 : decode cX1_prepare 52 = .ok (.aload_n 0, 1) := by decide +kernel
theorem dX1_prepare_53 : decode cX1_prepare 53 = .ok (.getfield 27, 3) := by decide +kernel
theorem dX1_prepare_56 : decode cX1_prepare 56 = .ok (.iconst 0, 1) := by decide +kernel
theorem dX1_prepare_57 : decode cX1_prepare 57 = .ok (.aload 4, 2) := by decide +kernel
theorem dX1_prepare_59 : decode cX1_prepare 59 = .ok (.getfield 57, 3) := by decide +kernel
theorem dX1_prepare_62 : decode cX1_prepare 62 = .ok (.iastore, 1) := by decide +kernel
theorem dX1_prepare_63 : decode cX1_prepare 63 = .ok (.aload_n 0, 1) := by decide +kernel
theorem dX1_prepare_64 : decode cX1_prepare 64 = .ok (.getfield 27, 3) := by decide +kernel
theorem dX1_prepare_67 : decode cX1_prepare 67 = .ok (.iconst 5, 1) := by decide +kernel
theorem dX1_prepare_68 : decode cX1_prepare 68 = .ok (.aload_n 0, 1) := by decide +kernel
theorem dX1_prepare_69 : decode cX1_prepare 69 = .ok (.getfield 21, 3) := by decide +kernel
theorem dX1_prepare_72 : decode cX1_prepare 72 = .ok (.iload_n 3, 1) := by decide +kernel
theorem dX1_prepare_73 : decode cX1_prepare 73 = .ok (.iaload, 1) := by decide +kernel
theorem dX1_prepare_74 : decode cX1_prepare 74 = .ok (.iastore, 1) := by decide +kernel
theorem dX1_prepare_75 : decode cX1_prepare 75 = .ok (.iconst 0, 1) := by decide +kernel
theorem dX1_prepare_76 : decode cX1_prepare 76 = .ok (.istore 5, 2) := by decide +kernel
theorem dX1_prepare_78 : decode cX1_prepare 78 = .ok (.iload 5, 2) := by decide +kernel
theorem dX1_prepare_80 : decode cX1_prepare 80 = .ok (.bipush 10, 2) := by decide +kernel
theorem dX1_prepare_82 : decode cX1_prepare 82 = .ok (.if_icmp .ge 45, 3) := by decide +kernel
theorem dX1_prepare_85 : decode cX1_prepare 85 = .ok (.aload_n 0, 1) := by decide +kernel
theorem dX1_prepare_86 : decode cX1_prepare 86 = .ok (.getfield 27, 3) := by decide +kernel
theorem dX1_prepare_89 : decode cX1_prepare 89 = .ok (.iconst 4, 1) := by decide +kernel
theorem dX1_prepare_90 : decode cX1_prepare 90 = .ok (.iload 5, 2) := by decide +kernel
theorem dX1_prepare_92 : decode cX1_prepare 92 = .ok (.iastore, 1) := by decide +kernel
theorem dX1_prepare_93 : decode cX1_prepare 93 = .ok (.aload_n 0, 1) := by decide +kernel
theorem dX1_prepare_94 : decode cX1_prepare 94 = .ok (.getfield 24, 3) := by decide +kernel
theorem dX1_prepare_97 : decode cX1_prepare 97 = .ok (.iload_n 3, 1) := by decide +kernel
theorem dX1_prepare_98 : decode cX1_prepare 98 = .ok (.bipush 10, 2) := by decide +kernel
theorem dX1_prepare_100 : decode cX1_prepare 100 = .ok (.imul, 1) := by decide +kernel
theorem dX1_prepare_101 : decode cX1_prepare 101 = .ok (.iload 5, 2) := by decide +kernel
theorem dX1_prepare_103 : decode cX1_prepare 103 = .ok (.iadd, 1) := by decide +kernel
theorem dX1_prepare_104 : decode cX1_prepare 104 = .ok (.bipush 9, 2) := by decide +kernel
theorem dX1_prepare_106 : decode cX1_prepare 106 = .ok (.iload 5, 2) := by decide +kernel
theorem dX1_prepare_108 : decode cX1_prepare 108 = .ok (.aload_n 1, 1) := by decide +kernel
theorem dX1_prepare_109 : decode cX1_prepare 109 = .ok (.aload_n 0, 1) := by decide +kernel
theorem dX1_prepare_110 : decode cX1_prepare 110 = .ok (.getfield 27, 3) := by decide +kernel
theorem dX1_prepare_113 : decode cX1_prepare 113 = .ok (.invokevirtual 60, 3) := by decide +kernel
theorem dX1_prepare_116 : decode cX1_prepare 116 = .ok (.iadd, 1) := by decide +kernel
theorem dX1_prepare_117 : decode cX1_prepare 117 = .ok (.invokestatic 64, 3) := by decide +kernel
theorem dX1_prepare_120 : decode cX1_prepare 120 = .ok (.iastore, 1) := by decide +kernel
theorem dX1_prepare_121 : decode cX1_prepare 121 = .ok (.iinc 5 1, 3) := by decide +kernel
theorem dX1_prepare_124 : decode cX1_prepare 124 = .ok (.goto (-46), 3) := by decide +kernel
theorem dX1_prepare_127 : decode cX1_prepare 127 = .ok (.iinc 3 1, 3) := by decide +kernel
theorem dX1_prepare_130 : decode cX1_prepare 130 = .ok (.goto (-123), 3) := by decide +kernel
theorem dX1_prepare_133 : decode cX1_prepare 133 = .ok (.return_, 1) := by decide +kernel
theorem dX1_strikeAll_0 : decode cX1_strikeAll 0 = .ok (.iconst 0, 1) := by decide +kernel
theorem dX1_strikeAll_1 : decode cX1_strikeAll 1 = .ok (.istore 4, 2) := by decide +kernel
theorem dX1_strikeAll_3 : decode cX1_strikeAll 3 = .ok (.iload 4, 2) := by decide +kernel
theorem dX1_strikeAll_5 : decode cX1_strikeAll 5 = .ok (.aload_n 1, 1) := by decide +kernel
theorem dX1_strikeAll_6 : decode cX1_strikeAll 6 = .ok (.getfield 70, 3) := by decide +kernel
theorem dX1_strikeAll_9 : decode cX1_strikeAll 9 = .ok (.if_icmp .ge 78, 3) := by decide +kernel
theorem dX1_strikeAll_12 : decode cX1_strikeAll 12 = .ok (.iload 4, 2) := by decide +kernel
theorem dX1_strikeAll_14 : decode cX1_strikeAll 14 = .ok (.bipush 18, 2) := by decide +kernel
theorem dX1_strikeAll_16 : decode cX1_strikeAll 16 = .ok (.if_icmp .ge 71, 3) := by decide +kernel
theorem dX1_strikeAll_19 : decode cX1_strikeAll 19 = .ok (.aload_n 1, 1) := by decide +kernel
theorem dX1_strikeAll_20 : decode cX1_strikeAll 20 = .ok (.getfield 73, 3) := by decide +kernel
theorem dX1_strikeAll_23 : decode cX1_strikeAll 23 = .ok (.iload 4, 2) := by decide +kernel
theorem dX1_strikeAll_25 : decode cX1_strikeAll 25 = .ok (.iaload, 1) := by decide +kernel
theorem dX1_strikeAll_26 : decode cX1_strikeAll 26 = .ok (.istore 5, 2) := by decide +kernel
theorem dX1_strikeAll_28 : decode cX1_strikeAll 28 = .ok (.iload 5, 2) := by decide +kernel
theorem dX1_strikeAll_30 : decode cX1_strikeAll 30 = .ok (.ifCond .lt 51, 3) := by decide +kernel
theorem dX1_strikeAll_33 : decode cX1_strikeAll 33 = .ok (.iload 5, 2) := by decide +kernel
theorem dX1_strikeAll_35 : decode cX1_strikeAll 35 = .ok (.aload_n 3, 1) := by decide +kernel
theorem dX1_strikeAll_36 : decode cX1_strikeAll 36 = .ok (.arraylength, 1) := by decide +kernel
theorem dX1_strikeAll_37 : decode cX1_strikeAll 37 = .ok (.if_icmp .ge 44, 3) := by decide +kernel
theorem dX1_strikeAll_40 : decode cX1_strikeAll 40 = .ok (.iload_n 2, 1) := by decide +kernel
theorem dX1_strikeAll_41 : decode cX1_strikeAll 41 = .ok (.bipush 10, 2) := by decide +kernel
theorem dX1_strikeAll_43 : decode cX1_strikeAll 43 = .ok (.imul, 1) := by decide +kernel
theorem dX1_strikeAll_44 : decode cX1_strikeAll 44 = .ok (.aload_n 3, 1) := by decide +kernel
theorem dX1_strikeAll_45 : decode cX1_strikeAll 45 = .ok (.iload 5, 2) := by decide +kernel
theorem dX1_strikeAll_47 : decode cX1_strikeAll 47 = .ok (.iaload, 1) := by decide +kernel
theorem dX1_strikeAll_48 : decode cX1_strikeAll 48 = .ok (.iadd, 1) := by decide +kernel
theorem dX1_strikeAll_49 : decode cX1_strikeAll 49 = .ok (.istore 6, 2) := by decide +kernel
theorem dX1_strikeAll_51 : decode cX1_strikeAll 51 = .ok (.aload_n 3, 1) := by decide +kernel
theorem dX1_strikeAll_52 : decode cX1_strikeAll 52 = .ok (.iload 5, 2) := by decide +kernel
theorem dX1_strikeAll_54 : decode cX1_strikeAll 54 = .ok (.iload 6, 2) := by decide +kernel
theorem dX1_strikeAll_56 : decode cX1_strikeAll 56 = .ok (.ifCond .lt 20, 3) := by decide +kernel
theorem dX1_strikeAll_59 : decode cX1_strikeAll 59 = .ok (.iload 6, 2) := by decide +kernel
theorem dX1_strikeAll_61 : decode cX1_strikeAll 61 = .ok (.bipush 70, 2) := by decide +kernel
theorem dX1_strikeAll_63 : decode cX1_strikeAll 63 = .ok (.if_icmp .ge 13, 3) := by decide +kernel
theorem dX1_strikeAll_66 : decode cX1_strikeAll 66 = .ok (.aload_n 0, 1) := by decide +kernel
theorem dX1_strikeAll_67 : decode cX1_strikeAll 67 = .ok (.getfield 24, 3) := by decide +kernel
theorem dX1_strikeAll_70 : decode cX1_strikeAll 70 = .ok (.iload 6, 2) := by decide +kernel
theorem dX1_strikeAll_72 : decode cX1_strikeAll 72 = .ok (.iaload, 1) := by decide +kernel
theorem dX1_strikeAll_73 : decode cX1_strikeAll 73 = .ok (.goto 7, 3) := by decide +kernel
theorem dX1_strikeAll_76 : decode cX1_strikeAll 76 = .ok (.aload_n 3, 1) := by decide +kernel
theorem dX1_strikeAll_77 : decode cX1_strikeAll 77 = .ok (.iload 5, 2) := by decide +kernel
theorem dX1_strikeAll_79 : decode cX1_strikeAll 79 = .ok (.iaload, 1) := by decide +kernel
theorem dX1_strikeAll_80 : decode cX1_strikeAll 80 = .ok (.iastore, 1) := by decide +kernel
theorem dX1_strikeAll_81 : decode cX1_strikeAll 81 = .ok (.iinc 4 1, 3) := by decide +kernel
theorem dX1_strikeAll_84 : decode cX1_strikeAll 84 = .ok (.goto (-81), 3) := by decide +kernel
theorem dX1_strikeAll_87 : decode cX1_strikeAll 87 = .ok (.return_, 1) := by decide +kernel
theorem dX1_pass_0 : decode cX1_pass 0 = .ok (.aload_n 0, 1) := by decide +kernel
theorem dX1_pass_1 : decode cX1_pass 1 = .ok (.iconst 0, 1) := by decide +kernel
theorem dX1_pass_2 : decode cX1_pass 2 = .ok (.putfield 76, 3) := by decide +kernel
theorem dX1_pass_5 : decode cX1_pass 5 = .ok (.aload_n 0, 1) := by decide +kernel
theorem dX1_pass_6 : decode cX1_pass 6 = .ok (.iconst 0, 1) := by decide +kernel
theorem dX1_pass_7 : decode cX1_pass 7 = .ok (.putfield 79, 3) := by decide +kernel
theorem dX1_pass_10 : decode cX1_pass 10 = .ok (.aload_n 0, 1) := by decide +kernel
theorem dX1_pass_11 : decode cX1_pass 11 = .ok (.iconst 0, 1) := by decide +kernel
theorem dX1_pass_12 : decode cX1_pass 12 = .ok (.putfield 82, 3) := by decide +kernel
theorem dX1_pass_15 : decode cX1_pass 15 = .ok (.aload_n 0, 1) := by decide +kernel
theorem dX1_pass_16 : decode cX1_pass 16 = .ok (.iconst (-1), 1) := by decide +kernel
theorem dX1_pass_17 : decode cX1_pass 17 = .ok (.putfield 85, 3) := by decide +kernel
theorem dX1_pass_20 : decode cX1_pass 20 = .ok (.iconst 0, 1) := by decide +kernel
theorem dX1_pass_21 : decode cX1_pass 21 = .ok (.istore_n 3, 1) := by decide +kernel
theorem dX1_pass_22 : decode cX1_pass 22 = .ok (.iload_n 3, 1) := by decide +kernel
theorem dX1_pass_23 : decode cX1_pass 23 = .ok (.bipush 7, 2) := by decide +kernel
theorem dX1_pass_25 : decode cX1_pass 25 = .ok (.if_icmp .ge 23, 3) := by decide +kernel
theorem dX1_pass_28 : decode cX1_pass 28 = .ok (.aload_n 0, 1) := by decide +kernel
theorem dX1_pass_29 : decode cX1_pass 29 = .ok (.getfield 9, 3) := by decide +kernel
theorem dX1_pass_32 : decode cX1_pass 32 = .ok (.iload_n 3, 1) := by decide +kernel
theorem dX1_pass_33 : decode cX1_pass 33 = .ok (.iconst (-1), 1) := by decide +kernel
theorem dX1_pass_34 : decode cX1_pass 34 = .ok (.iastore, 1) := by decide +kernel
theorem dX1_pass_35 : decode cX1_pass 35 = .ok (.aload_n 0, 1) := by decide +kernel
theorem dX1_pass_36 : decode cX1_pass 36 = .ok (.getfield 15, 3) := by decide +kernel
theorem dX1_pass_39 : decode cX1_pass 39 = .ok (.iload_n 3, 1) := by decide +kernel
theorem dX1_pass_40 : decode cX1_pass 40 = .ok (.iconst (-1), 1) := by decide +kernel
theorem dX1_pass_41 : decode cX1_pass 41 = .ok (.iastore, 1) := by decide +kernel
theorem dX1_pass_42 : decode cX1_pass 42 = .ok (.iinc 3 1, 3) := by decide +kernel
theorem dX1_pass_45 : decode cX1_pass 45 = .ok (.goto (-23), 3) := by decide +kernel
theorem dX1_pass_48 : decode cX1_pass 48 = .ok (.iconst 0, 1) := by decide +kernel
theorem dX1_pass_49 : decode cX1_pass 49 = .ok (.istore_n 3, 1) := by decide +kernel
theorem dX1_pass_50 : decode cX1_pass 50 = .ok (.iload_n 3, 1) := by decide +kernel
theorem dX1_pass_51 : decode cX1_pass 51 = .ok (.iconst 5, 1) := by decide +kernel
theorem dX1_pass_52 : decode cX1_pass 52 = .ok (.if_icmp .ge 16, 3) := by decide +kernel
theorem dX1_pass_55 : decode cX1_pass 55 = .ok (.aload_n 0, 1) := by decide +kernel
theorem dX1_pass_56 : decode cX1_pass 56 = .ok (.getfield 30, 3) := by decide +kernel
theorem dX1_pass_59 : decode cX1_pass 59 = .ok (.iload_n 3, 1) := by decide +kernel
theorem dX1_pass_60 : decode cX1_pass 60 = .ok (.iconst 0, 1) := by decide +kernel
theorem dX1_pass_61 : decode cX1_pass 61 = .ok (.iastore, 1) := by decide +kernel
theorem dX1_pass_62 : decode cX1_pass 62 = .ok (.iinc 3 1, 3) := by decide +kernel
theorem dX1_pass_65 : decode cX1_pass 65 = .ok (.goto (-15), 3) := by decide +kernel
theorem dX1_pass_68 : decode cX1_pass 68 = .ok (.iconst 0, 1) := by decide +kernel
theorem dX1_pass_69 : decode cX1_pass 69 = .ok (.istore_n 3, 1) := by decide +kernel
theorem dX1_pass_70 : decode cX1_pass 70 = .ok (.iload_n 3, 1) := by decide +kernel
theorem dX1_pass_71 : decode cX1_pass 71 = .ok (.bipush 60, 2) := by decide +kernel
theorem dX1_pass_73 : decode cX1_pass 73 = .ok (.if_icmp .ge 76, 3) := by decide +kernel
theorem dX1_pass_76 : decode cX1_pass 76 = .ok (.aload_n 1, 1) := by decide +kernel
theorem dX1_pass_77 : decode cX1_pass 77 = .ok (.getfield 88, 3) := by decide +kernel
theorem dX1_pass_80 : decode cX1_pass 80 = .ok (.iload_n 3, 1) := by decide +kernel
theorem dX1_pass_81 : decode cX1_pass 81 = .ok (.if_icmp .gt 15, 3) := by decide +kernel
theorem dX1_pass_84 : decode cX1_pass 84 = .ok (.iload_n 3, 1) := by decide +kernel
theorem dX1_pass_85 : decode cX1_pass 85 = .ok (.aload_n 1, 1) := by decide +kernel
theorem dX1_pass_86 : decode cX1_pass 86 = .ok (.getfield 93, 3) := by decide +kernel
theorem dX1_pass_89 : decode cX1_pass 89 = .ok (.if_icmp .ge 7, 3) := by decide +kernel
theorem dX1_pass_92 : decode cX1_pass 92 = .ok (.iconst 1, 1) := by decide +kernel
theorem dX1_pass_93 : decode cX1_pass 93 = .ok (.goto 4, 3) := by decide +kernel
theorem dX1_pass_96 : decode cX1_pass 96 = .ok (.iconst 0, 1) := by decide +kernel
theorem dX1_pass_97 : decode cX1_pass 97 = .ok (.istore 4, 2) := by decide +kernel
theorem dX1_pass_99 : decode cX1_pass 99 = .ok (.aload_n 0, 1) := by decide +kernel
theorem dX1_pass_100 : decode cX1_pass 100 = .ok (.iload_n 3, 1) := by decide +kernel
theorem dX1_pass_101 : decode cX1_pass 101 = .ok (.iload_n 2, 1) := by decide +kernel
theorem dX1_pass_102 : decode cX1_pass 102 = .ok (.invokevirtual 96, 3) := by decide +kernel
theorem dX1_pass_105 : decode cX1_pass 105 = .ok (.aload_n 0, 1) := by decide +kernel
theorem dX1_pass_106 : decode cX1_pass 106 = .ok (.iload_n 3, 1) := by decide +kernel
theorem dX1_pass_107 : decode cX1_pass 107 = .ok (.iload 4, 2) := by decide +kernel
theorem dX1_pass_109 : decode cX1_pass 109 = .ok (.invokevirtual 100, 3) := by decide +kernel
theorem dX1_pass_112 : decode cX1_pass 112 = .ok (.aload_n 0, 1) := by decide +kernel
theorem dX1_pass_113 : decode cX1_pass 113 = .ok (.iload_n 3, 1) := by decide +kernel
theorem dX1_pass_114 : decode cX1_pass 114 = .ok (.invokevirtual 104, 3) := by decide +kernel
theorem dX1_pass_117 : decode cX1_pass 117 = .ok (.aload_n 0, 1) := by decide +kernel
theorem dX1_pass_118 : decode cX1_pass 118 = .ok (.getfield 85, 3) := by decide +kernel
theorem dX1_pass_121 : decode cX1_pass 121 = .ok (.iconst (-1), 1) := by decide +kernel
theorem dX1_pass_122 : decode cX1_pass 122 = .ok (.if_icmp .ne 17, 3) := by decide +kernel
theorem dX1_pass_125 : decode cX1_pass 125 = .ok (.iload 4, 2) := by decide +kernel
theorem dX1_pass_127 : decode cX1_pass 127 = .ok (.ifCond .eq 12, 3) := by decide +kernel
theorem dX1_pass_130 : decode cX1_pass 130 = .ok (.aload_n 0, 1) := by decide +kernel
theorem dX1_pass_131 : decode cX1_pass 131 = .ok (.iload_n 3, 1) := by decide +kernel
theorem dX1_pass_132 : decode cX1_pass 132 = .ok (.aload_n 1, 1) := by decide +kernel
theorem dX1_pass_133 : decode cX1_pass 133 = .ok (.getfield 108, 3) := by decide +kernel
theorem dX1_pass_136 : decode cX1_pass 136 = .ok (.invokevirtual 111, 3) := by decide +kernel
theorem dX1_pass_139 : decode cX1_pass 139 = .ok (.aload_n 0, 1) := by decide +kernel
theorem dX1_pass_140 : decode cX1_pass 140 = .ok (.invokevirtual 115, 3) := by decide +kernel
theorem dX1_pass_143 : decode cX1_pass 143 = .ok (.iinc 3 1, 3) := by decide +kernel
theorem dX1_pass_146 : decode cX1_pass 146 = .ok (.goto (-76), 3) := by decide +kernel
theorem dX1_pass_149 : decode cX1_pass 149 = .ok (.aload_n 0, 1) := by decide +kernel
theorem dX1_pass_150 : decode cX1_pass 150 = .ok (.bipush 60, 2) := by decide +kernel
theorem dX1_pass_152 : decode cX1_pass 152 = .ok (.iconst 0, 1) := by decide +kernel
theorem dX1_pass_153 : decode cX1_pass 153 = .ok (.invokevirtual 100, 3) := by decide +kernel
theorem dX1_pass_156 : decode cX1_pass 156 = .ok (.return_, 1) := by decide +kernel
theorem dX1_standInLine_0 : decode cX1_standInLine 0 = .ok (.iconst 0, 1) := by decide +kernel
theorem dX1_standInLine_1 : decode cX1_standInLine 1 = .ok (.istore_n 3, 1) := by decide +kernel
theorem dX1_standInLine_2 : decode cX1_standInLine 2 = .ok (.iload_n 3, 1) := by decide +kernel
theorem dX1_standInLine_3 : decode cX1_standInLine 3 = .ok (.aload_n 0, 1) := by decide +kernel
theorem dX1_standInLine_4 : decode cX1_standInLine 4 = .ok (.getfield 36, 3) := by decide +kernel
theorem dX1_standInLine_7 : decode cX1_standInLine 7 = .ok (.getfield 40, 3) := by decide +kernel
theorem dX1_standInLine_10 : decode cX1_standInLine 10 = .ok (.if_icmp .ge 74, 3) := by decide +kernel
theorem dX1_standInLine_13 : decode cX1_standInLine 13 = .ok (.iload_n 3, 1) := by decide +kernel
theorem dX1_standInLine_14 : decode cX1_standInLine 14 = .ok (.bipush 7, 2) := by decide +kernel
theorem dX1_standInLine_16 : decode cX1_standInLine 16 = .ok (.if_icmp .ge 68, 3) := by decide +kernel
theorem dX1_standInLine_19 : decode cX1_standInLine 19 = .ok (.aload_n 0, 1) := by decide +kernel
theorem dX1_standInLine_20 : decode cX1_standInLine 20 = .ok (.getfield 18, 3) := by decide +kernel
theorem dX1_standInLine_23 : decode cX1_standInLine 23 = .ok (.iload_n 3, 1) := by decide +kernel
theorem dX1_standInLine_24 : decode cX1_standInLine 24 = .ok (.iaload, 1) := by decide +kernel
theorem dX1_standInLine_25 : decode cX1_standInLine 25 = .ok (.iload_n 1, 1) := by decide +kernel
theorem dX1_standInLine_26 : decode cX1_standInLine 26 = .ok (.if_icmp .ne 52, 3) := by decide +kernel
theorem dX1_standInLine_29 : decode cX1_standInLine 29 = .ok (.iload_n 2, 1) := by decide +kernel
theorem dX1_standInLine_30 : decode cX1_standInLine 30 = .ok (.iload_n 3, 1) := by decide +kernel
theorem dX1_standInLine_31 : decode cX1_standInLine 31 = .ok (.ishr, 1) := by decide +kernel
theorem dX1_standInLine_32 : decode cX1_standInLine 32 = .ok (.iconst 1, 1) := by decide +kernel
theorem dX1_standInLine_33 : decode cX1_standInLine 33 = .ok (.iand, 1) := by decide +kernel
theorem dX1_standInLine_34 : decode cX1_standInLine 34 = .ok (.ifCond .ne 44, 3) := by decide +kernel
theorem dX1_standInLine_37 : decode cX1_standInLine 37 = .ok (.aload_n 0, 1) := by decide +kernel
theorem dX1_standInLine_38 : decode cX1_standInLine 38 = .ok (.getfield 82, 3) := by decide +kernel
theorem dX1_standInLine_41 : decode cX1_standInLine 41 = .ok (.ifCond .lt 37, 3) := by decide +kernel
theorem dX1_standInLine_44 : decode cX1_standInLine 44 = .ok (.aload_n 0, 1) := by decide +kernel
theorem dX1_standInLine_45 : decode cX1_standInLine 45 = .ok (.getfield 82, 3) := by decide +kernel
theorem dX1_standInLine_48 : decode cX1_standInLine 48 = .ok (.bipush 7, 2) := by decide +kernel
theorem dX1_standInLine_50 : decode cX1_standInLine 50 = .ok (.if_icmp .ge 28, 3) := by decide +kernel
theorem dX1_standInLine_53 : decode cX1_standInLine 53 = .ok (.aload_n 0, 1) := by decide +kernel
theorem dX1_standInLine_54 : decode cX1_standInLine 54 = .ok (.getfield 33, 3) := by decide +kernel
theorem dX1_standInLine_57 : decode cX1_standInLine 57 = .ok (.aload_n 0, 1) := by decide +kernel
theorem dX1_standInLine_58 : decode cX1_standInLine 58 = .ok (.getfield 82, 3) := by decide +kernel
theorem dX1_standInLine_61 : decode cX1_standInLine 61 = .ok (.iload_n 3, 1) := by decide +kernel
theorem dX1_standInLine_62 : decode cX1_standInLine 62 = .ok (.iastore, 1) := by decide +kernel
theorem dX1_standInLine_63 : decode cX1_standInLine 63 = .ok (.aload_n 0, 1) := by decide +kernel
theorem dX1_standInLine_64 : decode cX1_standInLine 64 = .ok (.dup, 1) := by decide +kernel
theorem dX1_standInLine_65 : decode cX1_standInLine 65 = .ok (.getfield 82, 3) := by decide +kernel
theorem dX1_standInLine_68 : decode cX1_standInLine 68 = .ok (.iconst 1, 1) := by decide +kernel
theorem dX1_standInLine_69 : decode cX1_standInLine 69 = .ok (.iadd, 1) := by decide +kernel
theorem dX1_standInLine_70 : decode cX1_standInLine 70 = .ok (.putfield 82, 3) := by decide +kernel
theorem dX1_standInLine_73 : decode cX1_standInLine 73 = .ok (.aload_n 0, 1) := by decide +kernel
theorem dX1_standInLine_74 : decode cX1_standInLine 74 = .ok (.iconst 0, 1) := by decide +kernel
theorem dX1_standInLine_75 : decode cX1_standInLine 75 = .ok (.putfield 118, 3) := by decide +kernel
theorem dX1_standInLine_78 : decode cX1_standInLine 78 = .ok (.iinc 3 1, 3) := by decide +kernel
theorem dX1_standInLine_81 : decode cX1_standInLine 81 = .ok (.goto (-79), 3) := by decide +kernel
theorem dX1_standInLine_84 : decode cX1_standInLine 84 = .ok (.return_, 1) := by decide +kernel
theorem dX1_endPlaying_0 : decode cX1_endPlaying 0 = .ok (.aload_n 0, 1) := by decide +kernel
theorem dX1_endPlaying_1 : decode cX1_endPlaying 1 = .ok (.getfield 85, 3) := by decide +kernel
theorem dX1_endPlaying_4 : decode cX1_endPlaying 4 = .ok (.ifCond .lt 12, 3) := by decide +kernel
theorem dX1_endPlaying_7 : decode cX1_endPlaying 7 = .ok (.aload_n 0, 1) := by decide +kernel
theorem dX1_endPlaying_8 : decode cX1_endPlaying 8 = .ok (.getfield 85, 3) := by decide +kernel
theorem dX1_endPlaying_11 : decode cX1_endPlaying 11 = .ok (.bipush 7, 2) := by decide +kernel
theorem dX1_endPlaying_13 : decode cX1_endPlaying 13 = .ok (.if_icmp .lt 4, 3) := by decide +kernel
theorem dX1_endPlaying_16 : decode cX1_endPlaying 16 = .ok (.return_, 1) := by decide +kernel
theorem dX1_endPlaying_17 : decode cX1_endPlaying 17 = .ok (.iload_n 2, 1) := by decide +kernel
theorem dX1_endPlaying_18 : decode cX1_endPlaying 18 = .ok (.ifCond .eq 26, 3) := by decide +kernel
theorem dX1_endPlaying_21 : decode cX1_endPlaying 21 = .ok (.iload_n 1, 1) := by decide +kernel
theorem dX1_endPlaying_22 : decode cX1_endPlaying 22 = .ok (.aload_n 0, 1) := by decide +kernel
theorem dX1_endPlaying_23 : decode cX1_endPlaying 23 = .ok (.getfield 9, 3) := by decide +kernel
theorem dX1_endPlaying_26 : decode cX1_endPlaying 26 = .ok (.aload_n 0, 1) := by decide +kernel
theorem dX1_endPlaying_27 : decode cX1_endPlaying 27 = .ok (.getfield 85, 3) := by decide +kernel
theorem dX1_endPlaying_30 : decode cX1_endPlaying 30 = .ok (.iaload, 1) := by decide +kernel
theorem dX1_endPlaying_31 : decode cX1_endPlaying 31 = .ok (.isub, 1) := by decide +kernel
theorem dX1_endPlaying_32 : decode cX1_endPlaying 32 = .ok (.aload_n 0, 1) := by decide +kernel
theorem dX1_endPlaying_33 : decode cX1_endPlaying 33 = .ok (.getfield 21, 3) := by decide +kernel
theorem dX1_endPlaying_36 : decode cX1_endPlaying 36 = .ok (.aload_n 0, 1) := by decide +kernel
theorem dX1_endPlaying_37 : decode cX1_endPlaying 37 = .ok (.getfield 85, 3) := by decide +kernel
theorem dX1_endPlaying_40 : decode cX1_endPlaying 40 = .ok (.iaload, 1) := by decide +kernel
theorem dX1_endPlaying_41 : decode cX1_endPlaying 41 = .ok (.if_icmp .lt 18, 3) := by decide +kernel
theorem dX1_endPlaying_44 : decode cX1_endPlaying 44 = .ok (.aload_n 0, 1) := by decide +kernel
theorem dX1_endPlaying_45 : decode cX1_endPlaying 45 = .ok (.getfield 15, 3) := by decide +kernel
theorem dX1_endPlaying_48 : decode cX1_endPlaying 48 = .ok (.aload_n 0, 1) := by decide +kernel
theorem dX1_endPlaying_49 : decode cX1_endPlaying 49 = .ok (.getfield 85, 3) := by decide +kernel
theorem dX1_endPlaying_52 : decode cX1_endPlaying 52 = .ok (.iload_n 1, 1) := by decide +kernel
theorem dX1_endPlaying_53 : decode cX1_endPlaying 53 = .ok (.iastore, 1) := by decide +kernel
theorem dX1_endPlaying_54 : decode cX1_endPlaying 54 = .ok (.aload_n 0, 1) := by decide +kernel
theorem dX1_endPlaying_55 : decode cX1_endPlaying 55 = .ok (.iconst (-1), 1) := by decide +kernel
theorem dX1_endPlaying_56 : decode cX1_endPlaying 56 = .ok (.putfield 85, 3) := by decide +kernel
theorem dX1_endPlaying_59 : decode cX1_endPlaying 59 = .ok (.return_, 1) := by decide +kernel
theorem dX1_leaveLine_0 : decode cX1_leaveLine 0 = .ok (.iconst 0, 1) := by decide +kernel
theorem dX1_leaveLine_1 : decode cX1_leaveLine 1 = .ok (.istore_n 2, 1) := by decide +kernel
theorem dX1_leaveLine_2 : decode cX1_leaveLine 2 = .ok (.iconst 0, 1) := by decide +kernel
theorem dX1_leaveLine_3 : decode cX1_leaveLine 3 = .ok (.istore_n 3, 1) := by decide +kernel
theorem dX1_leaveLine_4 : decode cX1_leaveLine 4 = .ok (.iload_n 3, 1) := by decide +kernel
theorem dX1_leaveLine_5 : decode cX1_leaveLine 5 = .ok (.aload_n 0, 1) := by decide +kernel
theorem dX1_leaveLine_6 : decode cX1_leaveLine 6 = .ok (.getfield 82, 3) := by decide +kernel
theorem dX1_leaveLine_9 : decode cX1_leaveLine 9 = .ok (.if_icmp .ge 65, 3) := by decide +kernel
theorem dX1_leaveLine_12 : decode cX1_leaveLine 12 = .ok (.iload_n 3, 1) := by decide +kernel
theorem dX1_leaveLine_13 : decode cX1_leaveLine 13 = .ok (.bipush 7, 2) := by decide +kernel
theorem dX1_leaveLine_15 : decode cX1_leaveLine 15 = .ok (.if_icmp .ge 59, 3) := by decide +kernel
theorem dX1_leaveLine_18 : decode cX1_leaveLine 18 = .ok (.aload_n 0, 1) := by decide +kernel
theorem dX1_leaveLine_19 : decode cX1_leaveLine 19 = .ok (.getfield 33, 3) := by decide +kernel
theorem dX1_leaveLine_22 : decode cX1_leaveLine 22 = .ok (.iload_n 3, 1) := by decide +kernel
theorem dX1_leaveLine_23 : decode cX1_leaveLine 23 = .ok (.iaload, 1) := by decide +kernel
theorem dX1_leaveLine_24 : decode cX1_leaveLine 24 = .ok (.istore 4, 2) := by decide +kernel
theorem dX1_leaveLine_26 : decode cX1_leaveLine 26 = .ok (.iload 4, 2) := by decide +kernel
theorem dX1_leaveLine_28 : decode cX1_leaveLine 28 = .ok (.ifCond .lt 40, 3) := by decide +kernel
theorem dX1_leaveLine_31 : decode cX1_leaveLine 31 = .ok (.iload 4, 2) := by decide +kernel
theorem dX1_leaveLine_33 : decode cX1_leaveLine 33 = .ok (.bipush 7, 2) := by decide +kernel
theorem dX1_leaveLine_35 : decode cX1_leaveLine 35 = .ok (.if_icmp .ge 33, 3) := by decide +kernel
theorem dX1_leaveLine_38 : decode cX1_leaveLine 38 = .ok (.iload_n 1, 1) := by decide +kernel
theorem dX1_leaveLine_39 : decode cX1_leaveLine 39 = .ok (.aload_n 0, 1) := by decide +kernel
theorem dX1_leaveLine_40 : decode cX1_leaveLine 40 = .ok (.getfield 18, 3) := by decide +kernel
theorem dX1_leaveLine_43 : decode cX1_leaveLine 43 = .ok (.iload 4, 2) := by decide +kernel
theorem dX1_leaveLine_45 : decode cX1_leaveLine 45 = .ok (.iaload, 1) := by decide +kernel
theorem dX1_leaveLine_46 : decode cX1_leaveLine 46 = .ok (.isub, 1) := by decide +kernel
theorem dX1_leaveLine_47 : decode cX1_leaveLine 47 = .ok (.aload_n 0, 1) := by decide +kernel
theorem dX1_leaveLine_48 : decode cX1_leaveLine 48 = .ok (.getfield 36, 3) := by decide +kernel
theorem dX1_leaveLine_51 : decode cX1_leaveLine 51 = .ok (.getfield 122, 3) := by decide +kernel
theorem dX1_leaveLine_54 : decode cX1_leaveLine 54 = .ok (.if_icmp .gt 14, 3) := by decide +kernel
theorem dX1_leaveLine_57 : decode cX1_leaveLine 57 = .ok (.aload_n 0, 1) := by decide +kernel
theorem dX1_leaveLine_58 : decode cX1_leaveLine 58 = .ok (.getfield 33, 3) := by decide +kernel
theorem dX1_leaveLine_61 : decode cX1_leaveLine 61 = .ok (.iload_n 2, 1) := by decide +kernel
theorem dX1_leaveLine_62 : decode cX1_leaveLine 62 = .ok (.iload 4, 2) := by decide +kernel
theorem dX1_leaveLine_64 : decode cX1_leaveLine 64 = .ok (.iastore, 1) := by decide +kernel
theorem dX1_leaveLine_65 : decode cX1_leaveLine 65 = .ok (.iinc 2 1, 3) := by decide +kernel
theorem dX1_leaveLine_68 : decode cX1_leaveLine 68 = .ok (.iinc 3 1, 3) := by decide +kernel
theorem dX1_leaveLine_71 : decode cX1_leaveLine 71 = .ok (.goto (-67), 3) := by decide +kernel
theorem dX1_leaveLine_74 : decode cX1_leaveLine 74 = .ok (.iload_n 2, 1) := by decide +kernel
theorem dX1_leaveLine_75 : decode cX1_leaveLine 75 = .ok (.aload_n 0, 1) := by decide +kernel
theorem dX1_leaveLine_76 : decode cX1_leaveLine 76 = .ok (.getfield 82, 3) := by decide +kernel
theorem dX1_leaveLine_79 : decode cX1_leaveLine 79 = .ok (.if_icmp .eq 8, 3) := by decide +kernel
theorem dX1_leaveLine_82 : decode cX1_leaveLine 82 = .ok (.aload_n 0, 1) := by decide +kernel
theorem dX1_leaveLine_83 : decode cX1_leaveLine 83 = .ok (.iconst 0, 1) := by decide +kernel
theorem dX1_leaveLine_84 : decode cX1_leaveLine 84 = .ok (.putfield 118, 3) := by decide +kernel
theorem dX1_leaveLine_87 : decode cX1_leaveLine 87 = .ok (.aload_n 0, 1) := by decide +kernel
theorem dX1_leaveLine_88 : decode cX1_leaveLine 88 = .ok (.iload_n 2, 1) := by decide +kernel
theorem dX1_leaveLine_89 : decode cX1_leaveLine 89 = .ok (.putfield 82, 3) := by decide +kernel
theorem dX1_leaveLine_92 : decode cX1_leaveLine 92 = .ok (.return_, 1) := by decide +kernel
theorem dX1_beginPlaying_0 : decode cX1_beginPlaying 0 = .ok (.iconst 0, 1) := by decide +kernel
theorem dX1_beginPlaying_1 : decode cX1_beginPlaying 1 = .ok (.istore_n 3, 1) := by decide +kernel
theorem dX1_beginPlaying_2 : decode cX1_beginPlaying 2 = .ok (.iload_n 3, 1) := by decide +kernel
theorem dX1_beginPlaying_3 : decode cX1_beginPlaying 3 = .ok (.aload_n 0, 1) := by decide +kernel
theorem dX1_beginPlaying_4 : decode cX1_beginPlaying 4 = .ok (.getfield 82, 3) := by decide +kernel
theorem dX1_beginPlaying_7 : decode cX1_beginPlaying 7 = .ok (.if_icmp .ge 119, 3) := by decide +kernel
theorem dX1_beginPlaying_10 : decode cX1_beginPlaying 10 = .ok (.iload_n 3, 1) := by decide +kernel
theorem dX1_beginPlaying_11 : decode cX1_beginPlaying 11 = .ok (.bipush 7, 2) := by decide +kernel
theorem dX1_beginPlaying_13 : decode cX1_beginPlaying 13 = .ok (.if_icmp .ge 113, 3) := by decide +kernel
theorem dX1_beginPlaying_16 : decode cX1_beginPlaying 16 = .ok (.aload_n 0, 1) := by decide +kernel
theorem dX1_beginPlaying_17 : decode cX1_beginPlaying 17 = .ok (.getfield 33, 3) := by decide +kernel
theorem dX1_beginPlaying_20 : decode cX1_beginPlaying 20 = .ok (.iload_n 3, 1) := by decide +kernel
theorem dX1_beginPlaying_21 : decode cX1_beginPlaying 21 = .ok (.iaload, 1) := by decide +kernel
theorem dX1_beginPlaying_22 : decode cX1_beginPlaying 22 = .ok (.istore 4, 2) := by decide +kernel
theorem dX1_beginPlaying_24 : decode cX1_beginPlaying 24 = .ok (.iload 4, 2) := by decide +kernel
theorem dX1_beginPlaying_26 : decode cX1_beginPlaying 26 = .ok (.ifCond .lt 94, 3) := by decide +kernel
theorem dX1_beginPlaying_29 : decode cX1_beginPlaying 29 = .ok (.iload 4, 2) := by decide +kernel
theorem dX1_beginPlaying_31 : decode cX1_beginPlaying 31 = .ok (.bipush 7, 2) := by decide +kernel
theorem dX1_beginPlaying_33 : decode cX1_beginPlaying 33 = .ok (.if_icmp .ge 87, 3) := by decide +kernel
theorem dX1_beginPlaying_36 : decode cX1_beginPlaying 36 = .ok (.aload_n 0, 1) := by decide +kernel
theorem dX1_beginPlaying_37 : decode cX1_beginPlaying 37 = .ok (.getfield 36, 3) := by decide +kernel
theorem dX1_beginPlaying_40 : decode cX1_beginPlaying 40 = .ok (.getfield 46, 3) := by decide +kernel
theorem dX1_beginPlaying_43 : decode cX1_beginPlaying 43 = .ok (.iload 4, 2) := by decide +kernel
theorem dX1_beginPlaying_45 : decode cX1_beginPlaying 45 = .ok (.aaload, 1) := by decide +kernel
theorem dX1_beginPlaying_46 : decode cX1_beginPlaying 46 = .ok (.aload_n 0, 1) := by decide +kernel
theorem dX1_beginPlaying_47 : decode cX1_beginPlaying 47 = .ok (.getfield 82, 3) := by decide +kernel
theorem dX1_beginPlaying_50 : decode cX1_beginPlaying 50 = .ok (.iconst 1, 1) := by decide +kernel
theorem dX1_beginPlaying_51 : decode cX1_beginPlaying 51 = .ok (.isub, 1) := by decide +kernel
theorem dX1_beginPlaying_52 : decode cX1_beginPlaying 52 = .ok (.invokevirtual 125, 3) := by decide +kernel
theorem dX1_beginPlaying_55 : decode cX1_beginPlaying 55 = .ok (.ifCond .eq 65, 3) := by decide +kernel
theorem dX1_beginPlaying_58 : decode cX1_beginPlaying 58 = .ok (.aload_n 0, 1) := by decide +kernel
theorem dX1_beginPlaying_59 : decode cX1_beginPlaying 59 = .ok (.iload_n 3, 1) := by decide +kernel
theorem dX1_beginPlaying_60 : decode cX1_beginPlaying 60 = .ok (.invokevirtual 129, 3) := by decide +kernel
theorem dX1_beginPlaying_63 : decode cX1_beginPlaying 63 = .ok (.aload_n 0, 1) := by decide +kernel
theorem dX1_beginPlaying_64 : decode cX1_beginPlaying 64 = .ok (.iload 4, 2) := by decide +kernel
theorem dX1_beginPlaying_66 : decode cX1_beginPlaying 66 = .ok (.putfield 85, 3) := by decide +kernel
theorem dX1_beginPlaying_69 : decode cX1_beginPlaying 69 = .ok (.aload_n 0, 1) := by decide +kernel
theorem dX1_beginPlaying_70 : decode cX1_beginPlaying 70 = .ok (.getfield 9, 3) := by decide +kernel
theorem dX1_beginPlaying_73 : decode cX1_beginPlaying 73 = .ok (.iload 4, 2) := by decide +kernel
theorem dX1_beginPlaying_75 : decode cX1_beginPlaying 75 = .ok (.iload_n 1, 1) := by decide +kernel
theorem dX1_beginPlaying_76 : decode cX1_beginPlaying 76 = .ok (.iastore, 1) := by decide +kernel
theorem dX1_beginPlaying_77 : decode cX1_beginPlaying 77 = .ok (.aload_n 0, 1) := by decide +kernel
theorem dX1_beginPlaying_78 : decode cX1_beginPlaying 78 = .ok (.dup, 1) := by decide +kernel
theorem dX1_beginPlaying_79 : decode cX1_beginPlaying 79 = .ok (.getfield 79, 3) := by decide +kernel
theorem dX1_beginPlaying_82 : decode cX1_beginPlaying 82 = .ok (.iconst 1, 1) := by decide +kernel
theorem dX1_beginPlaying_83 : decode cX1_beginPlaying 83 = .ok (.iadd, 1) := by decide +kernel
theorem dX1_beginPlaying_84 : decode cX1_beginPlaying 84 = .ok (.putfield 79, 3) := by decide +kernel
theorem dX1_beginPlaying_87 : decode cX1_beginPlaying 87 = .ok (.aload_n 0, 1) := by decide +kernel
theorem dX1_beginPlaying_88 : decode cX1_beginPlaying 88 = .ok (.aload_n 0, 1) := by decide +kernel
theorem dX1_beginPlaying_89 : decode cX1_beginPlaying 89 = .ok (.getfield 36, 3) := by decide +kernel
theorem dX1_beginPlaying_92 : decode cX1_beginPlaying 92 = .ok (.getfield 46, 3) := by decide +kernel
theorem dX1_beginPlaying_95 : decode cX1_beginPlaying 95 = .ok (.iload 4, 2) := by decide +kernel
theorem dX1_beginPlaying_97 : decode cX1_beginPlaying 97 = .ok (.aaload, 1) := by decide +kernel
theorem dX1_beginPlaying_98 : decode cX1_beginPlaying 98 = .ok (.iload 4, 2) := by decide +kernel
theorem dX1_beginPlaying_100 : decode cX1_beginPlaying 100 = .ok (.aload_n 2, 1) := by decide +kernel
theorem dX1_beginPlaying_101 : decode cX1_beginPlaying 101 = .ok (.invokevirtual 132, 3) := by decide +kernel
theorem dX1_beginPlaying_104 : decode cX1_beginPlaying 104 = .ok (.aload_n 0, 1) := by decide +kernel
theorem dX1_beginPlaying_105 : decode cX1_beginPlaying 105 = .ok (.aload_n 0, 1) := by decide +kernel
theorem dX1_beginPlaying_106 : decode cX1_beginPlaying 106 = .ok (.getfield 36, 3) := by decide +kernel
theorem dX1_beginPlaying_109 : decode cX1_beginPlaying 109 = .ok (.getfield 46, 3) := by decide +kernel
theorem dX1_beginPlaying_112 : decode cX1_beginPlaying 112 = .ok (.iload 4, 2) := by decide +kernel
theorem dX1_beginPlaying_114 : decode cX1_beginPlaying 114 = .ok (.aaload, 1) := by decide +kernel
theorem dX1_beginPlaying_115 : decode cX1_beginPlaying 115 = .ok (.aload_n 2, 1) := by decide +kernel
theorem dX1_beginPlaying_116 : decode cX1_beginPlaying 116 = .ok (.invokevirtual 136, 3) := by decide +kernel
theorem dX1_beginPlaying_119 : decode cX1_beginPlaying 119 = .ok (.return_, 1) := by decide +kernel
theorem dX1_beginPlaying_120 : decode cX1_beginPlaying 120 = .ok (.iinc 3 1, 3) := by decide +kernel
theorem dX1_beginPlaying_123 : decode cX1_beginPlaying 123 = .ok (.goto (-121), 3) := by decide +kernel
theorem dX1_beginPlaying_126 : decode cX1_beginPlaying 126 = .ok (.return_, 1) := by decide +kernel
theorem dX1_leaveLineAt_0 : decode cX1_leaveLineAt 0 = .ok (.iconst 0, 1) := by decide +kernel
theorem dX1_leaveLineAt_1 : decode cX1_leaveLineAt 1 = .ok (.iload_n 1, 1) := by decide +kernel
theorem dX1_leaveLineAt_2 : decode cX1_leaveLineAt 2 = .ok (.invokestatic 140, 3) := by decide +kernel
theorem dX1_leaveLineAt_5 : decode cX1_leaveLineAt 5 = .ok (.istore_n 2, 1) := by decide +kernel
theorem dX1_leaveLineAt_6 : decode cX1_leaveLineAt 6 = .ok (.iload_n 2, 1) := by decide +kernel
theorem dX1_leaveLineAt_7 : decode cX1_leaveLineAt 7 = .ok (.iconst 1, 1) := by decide +kernel
theorem dX1_leaveLineAt_8 : decode cX1_leaveLineAt 8 = .ok (.iadd, 1) := by decide +kernel
theorem dX1_leaveLineAt_9 : decode cX1_leaveLineAt 9 = .ok (.aload_n 0, 1) := by decide +kernel
theorem dX1_leaveLineAt_10 : decode cX1_leaveLineAt 10 = .ok (.getfield 82, 3) := by decide +kernel
theorem dX1_leaveLineAt_13 : decode cX1_leaveLineAt 13 = .ok (.if_icmp .ge 31, 3) := by decide +kernel
theorem dX1_leaveLineAt_16 : decode cX1_leaveLineAt 16 = .ok (.iload_n 2, 1) := by decide +kernel
theorem dX1_leaveLineAt_17 : decode cX1_leaveLineAt 17 = .ok (.iconst 1, 1) := by decide +kernel
theorem dX1_leaveLineAt_18 : decode cX1_leaveLineAt 18 = .ok (.iadd, 1) := by decide +kernel
theorem dX1_leaveLineAt_19 : decode cX1_leaveLineAt 19 = .ok (.bipush 7, 2) := by decide +kernel
theorem dX1_leaveLineAt_21 : decode cX1_leaveLineAt 21 = .ok (.if_icmp .ge 23, 3) := by decide +kernel
theorem dX1_leaveLineAt_24 : decode cX1_leaveLineAt 24 = .ok (.aload_n 0, 1) := by decide +kernel
theorem dX1_leaveLineAt_25 : decode cX1_leaveLineAt 25 = .ok (.getfield 33, 3) := by decide +kernel
theorem dX1_leaveLineAt_28 : decode cX1_leaveLineAt 28 = .ok (.iload_n 2, 1) := by decide +kernel
theorem dX1_leaveLineAt_29 : decode cX1_leaveLineAt 29 = .ok (.aload_n 0, 1) := by decide +kernel
theorem dX1_leaveLineAt_30 : decode cX1_leaveLineAt 30 = .ok (.getfield 33, 3) := by decide +kernel
theorem dX1_leaveLineAt_33 : decode cX1_leaveLineAt 33 = .ok (.iload_n 2, 1) := by decide +kernel
theorem dX1_leaveLineAt_34 : decode cX1_leaveLineAt 34 = .ok (.iconst 1, 1) := by decide +kernel
theorem dX1_leaveLineAt_35 : decode cX1_leaveLineAt 35 = .ok (.iadd, 1) := by decide +kernel
theorem dX1_leaveLineAt_36 : decode cX1_leaveLineAt 36 = .ok (.iaload, 1) := by decide +kernel
theorem dX1_leaveLineAt_37 : decode cX1_leaveLineAt 37 = .ok (.iastore, 1) := by decide +kernel
theorem dX1_leaveLineAt_38 : decode cX1_leaveLineAt 38 = .ok (.iinc 2 1, 3) := by decide +kernel
theorem dX1_leaveLineAt_41 : decode cX1_leaveLineAt 41 = .ok (.goto (-35), 3) := by decide +kernel
theorem dX1_leaveLineAt_44 : decode cX1_leaveLineAt 44 = .ok (.aload_n 0, 1) := by decide +kernel
theorem dX1_leaveLineAt_45 : decode cX1_leaveLineAt 45 = .ok (.dup, 1) := by decide +kernel
theorem dX1_leaveLineAt_46 : decode cX1_leaveLineAt 46 = .ok (.getfield 82, 3) := by decide +kernel
theorem dX1_leaveLineAt_49 : decode cX1_leaveLineAt 49 = .ok (.iconst 1, 1) := by decide +kernel
theorem dX1_leaveLineAt_50 : decode cX1_leaveLineAt 50 = .ok (.isub, 1) := by decide +kernel
theorem dX1_leaveLineAt_51 : decode cX1_leaveLineAt 51 = .ok (.putfield 82, 3) := by decide +kernel
theorem dX1_leaveLineAt_54 : decode cX1_leaveLineAt 54 = .ok (.return_, 1) := by decide +kernel
theorem dX1_learnFacts_0 : decode cX1_learnFacts 0 = .ok (.iconst 0, 1) := by decide +kernel
theorem dX1_learnFacts_1 : decode cX1_learnFacts 1 = .ok (.istore_n 3, 1) := by decide +kernel
theorem dX1_learnFacts_2 : decode cX1_learnFacts 2 = .ok (.iconst 0, 1) := by decide +kernel
theorem dX1_learnFacts_3 : decode cX1_learnFacts 3 = .ok (.istore 4, 2) := by decide +kernel
theorem dX1_learnFacts_5 : decode cX1_learnFacts 5 = .ok (.iload 4, 2) := by decide +kernel
theorem dX1_learnFacts_7 : decode cX1_learnFacts 7 = .ok (.aload_n 1, 1) := by decide +kernel
theorem dX1_learnFacts_8 : decode cX1_learnFacts 8 = .ok (.getfield 70, 3) := by decide +kernel
theorem dX1_learnFacts_11 : decode cX1_learnFacts 11 = .ok (.if_icmp .ge 48, 3) := by decide +kernel
theorem dX1_learnFacts_14 : decode cX1_learnFacts 14 = .ok (.iload 4, 2) := by decide +kernel
theorem dX1_learnFacts_16 : decode cX1_learnFacts 16 = .ok (.bipush 18, 2) := by decide +kernel
theorem dX1_learnFacts_18 : decode cX1_learnFacts 18 = .ok (.if_icmp .ge 41, 3) := by decide +kernel
theorem dX1_learnFacts_21 : decode cX1_learnFacts 21 = .ok (.aload_n 1, 1) := by decide +kernel
theorem dX1_learnFacts_22 : decode cX1_learnFacts 22 = .ok (.getfield 73, 3) := by decide +kernel
theorem dX1_learnFacts_25 : decode cX1_learnFacts 25 = .ok (.iload 4, 2) := by decide +kernel
theorem dX1_learnFacts_27 : decode cX1_learnFacts 27 = .ok (.iaload, 1) := by decide +kernel
theorem dX1_learnFacts_28 : decode cX1_learnFacts 28 = .ok (.istore 5, 2) := by decide +kernel
theorem dX1_learnFacts_30 : decode cX1_learnFacts 30 = .ok (.iload_n 3, 1) := by decide +kernel
theorem dX1_learnFacts_31 : decode cX1_learnFacts 31 = .ok (.iload 5, 2) := by decide +kernel
theorem dX1_learnFacts_33 : decode cX1_learnFacts 33 = .ok (.ifCond .lt 17, 3) := by decide +kernel
theorem dX1_learnFacts_36 : decode cX1_learnFacts 36 = .ok (.iload 5, 2) := by decide +kernel
theorem dX1_learnFacts_38 : decode cX1_learnFacts 38 = .ok (.aload_n 2, 1) := by decide +kernel
theorem dX1_learnFacts_39 : decode cX1_learnFacts 39 = .ok (.arraylength, 1) := by decide +kernel
theorem dX1_learnFacts_40 : decode cX1_learnFacts 40 = .ok (.if_icmp .ge 10, 3) := by decide +kernel
theorem dX1_learnFacts_43 : decode cX1_learnFacts 43 = .ok (.aload_n 2, 1) := by decide +kernel
theorem dX1_learnFacts_44 : decode cX1_learnFacts 44 = .ok (.iload 5, 2) := by decide +kernel
theorem dX1_learnFacts_46 : decode cX1_learnFacts 46 = .ok (.iaload, 1) := by decide +kernel
theorem dX1_learnFacts_47 : decode cX1_learnFacts 47 = .ok (.goto 4, 3) := by decide +kernel
theorem dX1_learnFacts_50 : decode cX1_learnFacts 50 = .ok (.iconst 0, 1) := by decide +kernel
theorem dX1_learnFacts_51 : decode cX1_learnFacts 51 = .ok (.iadd, 1) := by decide +kernel
theorem dX1_learnFacts_52 : decode cX1_learnFacts 52 = .ok (.istore_n 3, 1) := by decide +kernel
theorem dX1_learnFacts_53 : decode cX1_learnFacts 53 = .ok (.iinc 4 1, 3) := by decide +kernel
theorem dX1_learnFacts_56 : decode cX1_learnFacts 56 = .ok (.goto (-51), 3) := by decide +kernel
theorem dX1_learnFacts_59 : decode cX1_learnFacts 59 = .ok (.aload_n 0, 1) := by decide +kernel
theorem dX1_learnFacts_60 : decode cX1_learnFacts 60 = .ok (.getfield 27, 3) := by decide +kernel
theorem dX1_learnFacts_63 : decode cX1_learnFacts 63 = .ok (.iconst 0, 1) := by decide +kernel
theorem dX1_learnFacts_64 : decode cX1_learnFacts 64 = .ok (.aload_n 1, 1) := by decide +kernel
theorem dX1_learnFacts_65 : decode cX1_learnFacts 65 = .ok (.getfield 57, 3) := by decide +kernel
theorem dX1_learnFacts_68 : decode cX1_learnFacts 68 = .ok (.iastore, 1) := by decide +kernel
theorem dX1_learnFacts_69 : decode cX1_learnFacts 69 = .ok (.aload_n 0, 1) := by decide +kernel
theorem dX1_learnFacts_70 : decode cX1_learnFacts 70 = .ok (.getfield 27, 3) := by decide +kernel
theorem dX1_learnFacts_73 : decode cX1_learnFacts 73 = .ok (.iconst 1, 1) := by decide +kernel
theorem dX1_learnFacts_74 : decode cX1_learnFacts 74 = .ok (.iload_n 3, 1) := by decide +kernel
theorem dX1_learnFacts_75 : decode cX1_learnFacts 75 = .ok (.iastore, 1) := by decide +kernel
theorem dX1_learnFacts_76 : decode cX1_learnFacts 76 = .ok (.aload_n 0, 1) := by decide +kernel
theorem dX1_learnFacts_77 : decode cX1_learnFacts 77 = .ok (.getfield 27, 3) := by decide +kernel
theorem dX1_learnFacts_80 : decode cX1_learnFacts 80 = .ok (.iconst 3, 1) := by decide +kernel
theorem dX1_learnFacts_81 : decode cX1_learnFacts 81 = .ok (.iconst 0, 1) := by decide +kernel
theorem dX1_learnFacts_82 : decode cX1_learnFacts 82 = .ok (.iastore, 1) := by decide +kernel
theorem dX1_learnFacts_83 : decode cX1_learnFacts 83 = .ok (.aload_n 1, 1) := by decide +kernel
theorem dX1_learnFacts_84 : decode cX1_learnFacts 84 = .ok (.getfield 143, 3) := by decide +kernel
theorem dX1_learnFacts_87 : decode cX1_learnFacts 87 = .ok (.ifCond .lt 39, 3) := by decide +kernel
theorem dX1_learnFacts_90 : decode cX1_learnFacts 90 = .ok (.aload_n 1, 1) := by decide +kernel
theorem dX1_learnFacts_91 : decode cX1_learnFacts 91 = .ok (.getfield 143, 3) := by decide +kernel
theorem dX1_learnFacts_94 : decode cX1_learnFacts 94 = .ok (.iconst 5, 1) := by decide +kernel
theorem dX1_learnFacts_95 : decode cX1_learnFacts 95 = .ok (.if_icmp .ge 31, 3) := by decide +kernel
theorem dX1_learnFacts_98 : decode cX1_learnFacts 98 = .ok (.aload_n 0, 1) := by decide +kernel
theorem dX1_learnFacts_99 : decode cX1_learnFacts 99 = .ok (.getfield 27, 3) := by decide +kernel
theorem dX1_learnFacts_102 : decode cX1_learnFacts 102 = .ok (.iconst 3, 1) := by decide +kernel
theorem dX1_learnFacts_103 : decode cX1_learnFacts 103 = .ok (.aload_n 0, 1) := by decide +kernel
theorem dX1_learnFacts_104 : decode cX1_learnFacts 104 = .ok (.getfield 30, 3) := by decide +kernel
theorem dX1_learnFacts_107 : decode cX1_learnFacts 107 = .ok (.aload_n 1, 1) := by decide +kernel
theorem dX1_learnFacts_108 : decode cX1_learnFacts 108 = .ok (.getfield 143, 3) := by decide +kernel
theorem dX1_learnFacts_111 : decode cX1_learnFacts 111 = .ok (.iaload, 1) := by decide +kernel
theorem dX1_learnFacts_112 : decode cX1_learnFacts 112 = .ok (.iastore, 1) := by decide +kernel
theorem dX1_learnFacts_113 : decode cX1_learnFacts 113 = .ok (.aload_n 0, 1) := by decide +kernel
theorem dX1_learnFacts_114 : decode cX1_learnFacts 114 = .ok (.getfield 30, 3) := by decide +kernel
theorem dX1_learnFacts_117 : decode cX1_learnFacts 117 = .ok (.aload_n 1, 1) := by decide +kernel
theorem dX1_learnFacts_118 : decode cX1_learnFacts 118 = .ok (.getfield 143, 3) := by decide +kernel
theorem dX1_learnFacts_121 : decode cX1_learnFacts 121 = .ok (.dup2, 1) := by decide +kernel
theorem dX1_learnFacts_122 : decode cX1_learnFacts 122 = .ok (.iaload, 1) := by decide +kernel
theorem dX1_learnFacts_123 : decode cX1_learnFacts 123 = .ok (.iconst 1, 1) := by decide +kernel
theorem dX1_learnFacts_124 : decode cX1_learnFacts 124 = .ok (.iadd, 1) := by decide +kernel
theorem dX1_learnFacts_125 : decode cX1_learnFacts 125 = .ok (.iastore, 1) := by decide +kernel
theorem dX1_learnFacts_126 : decode cX1_learnFacts 126 = .ok (.aload_n 0, 1) := by decide +kernel
theorem dX1_learnFacts_127 : decode cX1_learnFacts 127 = .ok (.iconst 0, 1) := by decide +kernel
theorem dX1_learnFacts_128 : decode cX1_learnFacts 128 = .ok (.putfield 118, 3) := by decide +kernel
theorem dX1_learnFacts_131 : decode cX1_learnFacts 131 = .ok (.return_, 1) := by decide +kernel
theorem dX1_addJoy_0 : decode cX1_addJoy 0 = .ok (.aload_n 0, 1) := by decide +kernel
theorem dX1_addJoy_1 : decode cX1_addJoy 1 = .ok (.getfield 85, 3) := by decide +kernel
theorem dX1_addJoy_4 : decode cX1_addJoy 4 = .ok (.iconst (-1), 1) := by decide +kernel
theorem dX1_addJoy_5 : decode cX1_addJoy 5 = .ok (.if_icmp .ne 4, 3) := by decide +kernel
theorem dX1_addJoy_8 : decode cX1_addJoy 8 = .ok (.return_, 1) := by decide +kernel
theorem dX1_addJoy_9 : decode cX1_addJoy 9 = .ok (.aload_n 0, 1) := by decide +kernel
theorem dX1_addJoy_10 : decode cX1_addJoy 10 = .ok (.getfield 118, 3) := by decide +kernel
theorem dX1_addJoy_13 : decode cX1_addJoy 13 = .ok (.ifCond .ne 33, 3) := by decide +kernel
theorem dX1_addJoy_16 : decode cX1_addJoy 16 = .ok (.aload_n 0, 1) := by decide +kernel
theorem dX1_addJoy_17 : decode cX1_addJoy 17 = .ok (.getfield 27, 3) := by decide +kernel
theorem dX1_addJoy_20 : decode cX1_addJoy 20 = .ok (.iconst 2, 1) := by decide +kernel
theorem dX1_addJoy_21 : decode cX1_addJoy 21 = .ok (.aload_n 0, 1) := by decide +kernel
theorem dX1_addJoy_22 : decode cX1_addJoy 22 = .ok (.getfield 82, 3) := by decide +kernel
theorem dX1_addJoy_25 : decode cX1_addJoy 25 = .ok (.iastore, 1) := by decide +kernel
theorem dX1_addJoy_26 : decode cX1_addJoy 26 = .ok (.aload_n 0, 1) := by decide +kernel
theorem dX1_addJoy_27 : decode cX1_addJoy 27 = .ok (.aload_n 0, 1) := by decide +kernel
theorem dX1_addJoy_28 : decode cX1_addJoy 28 = .ok (.getfield 36, 3) := by decide +kernel
theorem dX1_addJoy_31 : decode cX1_addJoy 31 = .ok (.aload_n 0, 1) := by decide +kernel
theorem dX1_addJoy_32 : decode cX1_addJoy 32 = .ok (.getfield 27, 3) := by decide +kernel
theorem dX1_addJoy_35 : decode cX1_addJoy 35 = .ok (.invokevirtual 146, 3) := by decide +kernel
theorem dX1_addJoy_38 : decode cX1_addJoy 38 = .ok (.putfield 149, 3) := by decide +kernel
theorem dX1_addJoy_41 : decode cX1_addJoy 41 = .ok (.aload_n 0, 1) := by decide +kernel
theorem dX1_addJoy_42 : decode cX1_addJoy 42 = .ok (.iconst 1, 1) := by decide +kernel
theorem dX1_addJoy_43 : decode cX1_addJoy 43 = .ok (.putfield 118, 3) := by decide +kernel
theorem dX1_addJoy_46 : decode cX1_addJoy 46 = .ok (.aload_n 0, 1) := by decide +kernel
theorem dX1_addJoy_47 : decode cX1_addJoy 47 = .ok (.dup, 1) := by decide +kernel
theorem dX1_addJoy_48 : decode cX1_addJoy 48 = .ok (.getfield 76, 3) := by decide +kernel
theorem dX1_addJoy_51 : decode cX1_addJoy 51 = .ok (.aload_n 0, 1) := by decide +kernel
theorem dX1_addJoy_52 : decode cX1_addJoy 52 = .ok (.getfield 149, 3) := by decide +kernel
theorem dX1_addJoy_55 : decode cX1_addJoy 55 = .ok (.iadd, 1) := by decide +kernel
theorem dX1_addJoy_56 : decode cX1_addJoy 56 = .ok (.putfield 76, 3) := by decide +kernel
theorem dX1_addJoy_59 : decode cX1_addJoy 59 = .ok (.return_, 1) := by decide +kernel
theorem dX2_init_0 : decode cX2_init 0 = .ok (.aload_n 0, 1) := by decide +kernel
theorem dX2_init_1 : decode cX2_init 1 = .ok (.invokespecial 3, 3) := by decide +kernel
theorem dX2_init_4 : decode cX2_init 4 = .ok (.aload_n 0, 1) := by decide +kernel
theorem dX2_init_5 : decode cX2_init 5 = .ok (.sipush 1000, 3) := by decide +kernel
theorem dX2_init_8 : decode cX2_init 8 = .ok (.newarray .int, 2) := by decide +kernel
theorem dX2_init_10 : decode cX2_init 10 = .ok (.putfield 9, 3) := by decide +kernel
theorem dX2_init_13 : decode cX2_init 13 = .ok (.aload_n 0, 1) := by decide +kernel
theorem dX2_init_14 : decode cX2_init 14 = .ok (.bipush 32, 2) := by decide +kernel
theorem dX2_init_16 : decode cX2_init 16 = .ok (.newarray .int, 2) := by decide +kernel
theorem dX2_init_18 : decode cX2_init 18 = .ok (.putfield 15, 3) := by decide +kernel
theorem dX2_init_21 : decode cX2_init 21 = .ok (.aload_n 0, 1) := by decide +kernel
theorem dX2_init_22 : decode cX2_init 22 = .ok (.iload_n 1, 1) := by decide +kernel
theorem dX2_init_23 : decode cX2_init 23 = .ok (.putfield 18, 3) := by decide +kernel
theorem dX2_init_26 : decode cX2_init 26 = .ok (.return_, 1) := by decide +kernel
theorem dX2_knows_0 : decode cX2_knows 0 = .ok (.iload_n 1, 1) := by decide +kernel
theorem dX2_knows_1 : decode cX2_knows 1 = .ok (.bipush 23, 2) := by decide +kernel
theorem dX2_knows_3 : decode cX2_knows 3 = .ok (.if_icmp .lt 9, 3) := by decide +kernel
theorem dX2_knows_6 : decode cX2_knows 6 = .ok (.iload_n 1, 1) := by decide +kernel
theorem dX2_knows_7 : decode cX2_knows 7 = .ok (.bipush 28, 2) := by decide +kernel
theorem dX2_knows_9 : decode cX2_knows 9 = .ok (.if_icmp .le 5, 3) := by decide +kernel
theorem dX2_knows_12 : decode cX2_knows 12 = .ok (.iconst 0, 1) := by decide +kernel
theorem dX2_knows_13 : decode cX2_knows 13 = .ok (.ireturn, 1) := by decide +kernel
theorem dX2_knows_14 : decode cX2_knows 14 = .ok (.iload_n 1, 1) := by decide +kernel
theorem dX2_knows_15 : decode cX2_knows 15 = .ok (.bipush 23, 2) := by decide +kernel
theorem dX2_knows_17 : decode cX2_knows 17 = .ok (.isub, 1) := by decide +kernel
theorem dX2_knows_18 : decode cX2_knows 18 = .ok (.istore_n 2, 1) := by decide +kernel
theorem dX2_knows_19 : decode cX2_knows 19 = .ok (.iload_n 2, 1) := by decide +kernel
theorem dX2_knows_20 : decode cX2_knows 20 = .ok (.ifCond .eq 20, 3) := by decide +kernel
theorem dX2_knows_23 : decode cX2_knows 23 = .ok (.iload_n 2, 1) := by decide +kernel
theorem dX2_knows_24 : decode cX2_knows 24 = .ok (.iconst 4, 1) := by decide +kernel
theorem dX2_knows_25 : decode cX2_knows 25 = .ok (.if_icmp .ge 7, 3) := by decide +kernel
theorem dX2_knows_28 : decode cX2_knows 28 = .ok (.iconst 1, 1) := by decide +kernel
theorem dX2_knows_29 : decode cX2_knows 29 = .ok (.goto 4, 3) := by decide +kernel
theorem dX2_knows_32 : decode cX2_knows 32 = .ok (.iconst 0, 1) := by decide +kernel
theorem dX2_knows_33 : decode cX2_knows 33 = .ok (.aload_n 0, 1) := by decide +kernel
theorem dX2_knows_34 : decode cX2_knows 34 = .ok (.getfield 18, 3) := by decide +kernel
theorem dX2_knows_37 : decode cX2_knows 37 = .ok (.if_icmp .ne 7, 3) := by decide +kernel
theorem dX2_knows_40 : decode cX2_knows 40 = .ok (.iconst 1, 1) := by decide +kernel
theorem dX2_knows_41 : decode cX2_knows 41 = .ok (.goto 4, 3) := by decide +kernel
theorem dX2_knows_44 : decode cX2_knows 44 = .ok (.iconst 0, 1) := by decide +kernel
theorem dX2_knows_45 : decode cX2_knows 45 = .ok (.ireturn, 1) := by decide +kernel
theorem dX2_add_0 : decode cX2_add 0 = .ok (.aload_n 0, 1) := by decide +kernel
theorem dX2_add_1 : decode cX2_add 1 = .ok (.getfield 22, 3) := by decide +kernel
theorem dX2_add_4 : decode cX2_add 4 = .ok (.ifCond .lt 33, 3) := by decide +kernel
theorem dX2_add_7 : decode cX2_add 7 = .ok (.aload_n 0, 1) := by decide +kernel
theorem dX2_add_8 : decode cX2_add 8 = .ok (.getfield 22, 3) := by decide +kernel
theorem dX2_add_11 : decode cX2_add 11 = .ok (.sipush 1000, 3) := by decide +kernel
theorem dX2_add_14 : decode cX2_add 14 = .ok (.if_icmp .ge 23, 3) := by decide +kernel
theorem dX2_add_17 : decode cX2_add 17 = .ok (.aload_n 0, 1) := by decide +kernel
theorem dX2_add_18 : decode cX2_add 18 = .ok (.getfield 9, 3) := by decide +kernel
theorem dX2_add_21 : decode cX2_add 21 = .ok (.aload_n 0, 1) := by decide +kernel
theorem dX2_add_22 : decode cX2_add 22 = .ok (.getfield 22, 3) := by decide +kernel
theorem dX2_add_25 : decode cX2_add 25 = .ok (.iload_n 1, 1) := by decide +kernel
theorem dX2_add_26 : decode cX2_add 26 = .ok (.iastore, 1) := by decide +kernel
theorem dX2_add_27 : decode cX2_add 27 = .ok (.aload_n 0, 1) := by decide +kernel
theorem dX2_add_28 : decode cX2_add 28 = .ok (.dup, 1) := by decide +kernel
theorem dX2_add_29 : decode cX2_add 29 = .ok (.getfield 22, 3) := by decide +kernel
theorem dX2_add_32 : decode cX2_add 32 = .ok (.iconst 1, 1) := by decide +kernel
theorem dX2_add_33 : decode cX2_add 33 = .ok (.iadd, 1) := by decide +kernel
theorem dX2_add_34 : decode cX2_add 34 = .ok (.putfield 22, 3) := by decide +kernel
theorem dX2_add_37 : decode cX2_add 37 = .ok (.return_, 1) := by decide +kernel
theorem dX2_valueBy_0 : decode cX2_valueBy 0 = .ok (.aload_n 0, 1) := by decide +kernel
theorem dX2_valueBy_1 : decode cX2_valueBy 1 = .ok (.iconst 0, 1) := by decide +kernel
theorem dX2_valueBy_2 : decode cX2_valueBy 2 = .ok (.putfield 26, 3) := by decide +kernel
theorem dX2_valueBy_5 : decode cX2_valueBy 5 = .ok (.iconst 0, 1) := by decide +kernel
theorem dX2_valueBy_6 : decode cX2_valueBy 6 = .ok (.istore_n 2, 1) := by decide +kernel
theorem dX2_valueBy_7 : decode cX2_valueBy 7 = .ok (.iload_n 2, 1) := by decide +kernel
theorem dX2_valueBy_8 : decode cX2_valueBy 8 = .ok (.aload_n 0, 1) := by decide +kernel
theorem dX2_valueBy_9 : decode cX2_valueBy 9 = .ok (.getfield 22, 3) := by decide +kernel
theorem dX2_valueBy_12 : decode cX2_valueBy 12 = .ok (.if_icmp .ge 118, 3) := by decide +kernel
theorem dX2_valueBy_15 : decode cX2_valueBy 15 = .ok (.iload_n 2, 1) := by decide +kernel
theorem dX2_valueBy_16 : decode cX2_valueBy 16 = .ok (.sipush 1000, 3) := by decide +kernel
theorem dX2_valueBy_19 : decode cX2_valueBy 19 = .ok (.if_icmp .ge 111, 3) := by decide +kernel
theorem dX2_valueBy_22 : decode cX2_valueBy 22 = .ok (.aload_n 0, 1) := by decide +kernel
theorem dX2_valueBy_23 : decode cX2_valueBy 23 = .ok (.getfield 9, 3) := by decide +kernel
theorem dX2_valueBy_26 : decode cX2_valueBy 26 = .ok (.iload_n 2, 1) := by decide +kernel
theorem dX2_valueBy_27 : decode cX2_valueBy 27 = .ok (.iaload, 1) := by decide +kernel
theorem dX2_valueBy_28 : decode cX2_valueBy 28 = .ok (.istore_n 3, 1) := by decide +kernel
theorem dX2_valueBy_29 : decode cX2_valueBy 29 = .ok (.iload_n 3, 1) := by decide +kernel
theorem dX2_valueBy_30 : decode cX2_valueBy 30 = .ok (.ifCond .lt 11, 3) := by decide +kernel
theorem dX2_valueBy_33 : decode cX2_valueBy 33 = .ok (.aload_n 0, 1) := by decide +kernel
theorem dX2_valueBy_34 : decode cX2_valueBy 34 = .ok (.iload_n 3, 1) := by decide +kernel
theorem dX2_valueBy_35 : decode cX2_valueBy 35 = .ok (.invokevirtual 29, 3) := by decide +kernel
theorem dX2_valueBy_38 : decode cX2_valueBy 38 = .ok (.goto 86, 3) := by decide +kernel
theorem dX2_valueBy_41 : decode cX2_valueBy 41 = .ok (.iload_n 3, 1) := by decide +kernel
theorem dX2_valueBy_42 : decode cX2_valueBy 42 = .ok (.bipush (-11), 2) := by decide +kernel
theorem dX2_valueBy_44 : decode cX2_valueBy 44 = .ok (.if_icmp .le 35, 3) := by decide +kernel
theorem dX2_valueBy_47 : decode cX2_valueBy 47 = .ok (.iconst (-1), 1) := by decide +kernel
theorem dX2_valueBy_48 : decode cX2_valueBy 48 = .ok (.iload_n 3, 1) := by decide +kernel
theorem dX2_valueBy_49 : decode cX2_valueBy 49 = .ok (.isub, 1) := by decide +kernel
theorem dX2_valueBy_50 : decode cX2_valueBy 50 = .ok (.istore 4, 2) := by decide +kernel
theorem dX2_valueBy_52 : decode cX2_valueBy 52 = .ok (.aload_n 0, 1) := by decide +kernel
theorem dX2_valueBy_53 : decode cX2_valueBy 53 = .ok (.iload 4, 2) := by decide +kernel
theorem dX2_valueBy_55 : decode cX2_valueBy 55 = .ok (.ifCond .lt 17, 3) := by decide +kernel
theorem dX2_valueBy_58 : decode cX2_valueBy 58 = .ok (.iload 4, 2) := by decide +kernel
theorem dX2_valueBy_60 : decode cX2_valueBy 60 = .ok (.aload_n 1, 1) := by decide +kernel
theorem dX2_valueBy_61 : decode cX2_valueBy 61 = .ok (.arraylength, 1) := by decide +kernel
theorem dX2_valueBy_62 : decode cX2_valueBy 62 = .ok (.if_icmp .ge 10, 3) := by decide +kernel
theorem dX2_valueBy_65 : decode cX2_valueBy 65 = .ok (.aload_n 1, 1) := by decide +kernel
theorem dX2_valueBy_66 : decode cX2_valueBy 66 = .ok (.iload 4, 2) := by decide +kernel
theorem dX2_valueBy_68 : decode cX2_valueBy 68 = .ok (.iaload, 1) := by decide +kernel
theorem dX2_valueBy_69 : decode cX2_valueBy 69 = .ok (.goto 4, 3) := by decide +kernel
theorem dX2_valueBy_72 : decode cX2_valueBy 72 = .ok (.iconst 0, 1) := by decide +kernel
theorem dX2_valueBy_73 : decode cX2_valueBy 73 = .ok (.invokevirtual 29, 3) := by decide +kernel
theorem dX2_valueBy_76 : decode cX2_valueBy 76 = .ok (.goto 48, 3) := by decide +kernel
theorem dX2_valueBy_79 : decode cX2_valueBy 79 = .ok (.iload_n 3, 1) := by decide +kernel
theorem dX2_valueBy_80 : decode cX2_valueBy 80 = .ok (.bipush (-11), 2) := by decide +kernel
theorem dX2_valueBy_82 : decode cX2_valueBy 82 = .ok (.if_icmp .ne 22, 3) := by decide +kernel
theorem dX2_valueBy_85 : decode cX2_valueBy 85 = .ok (.aload_n 0, 1) := by decide +kernel
theorem dX2_valueBy_86 : decode cX2_valueBy 86 = .ok (.aload_n 0, 1) := by decide +kernel
theorem dX2_valueBy_87 : decode cX2_valueBy 87 = .ok (.invokevirtual 33, 3) := by decide +kernel
theorem dX2_valueBy_90 : decode cX2_valueBy 90 = .ok (.ifCond .ne 7, 3) := by decide +kernel
theorem dX2_valueBy_93 : decode cX2_valueBy 93 = .ok (.iconst 1, 1) := by decide +kernel
theorem dX2_valueBy_94 : decode cX2_valueBy 94 = .ok (.goto 4, 3) := by decide +kernel
theorem dX2_valueBy_97 : decode cX2_valueBy 97 = .ok (.iconst 0, 1) := by decide +kernel
theorem dX2_valueBy_98 : decode cX2_valueBy 98 = .ok (.invokevirtual 29, 3) := by decide +kernel
theorem dX2_valueBy_101 : decode cX2_valueBy 101 = .ok (.goto 23, 3) := by decide +kernel
theorem dX2_valueBy_104 : decode cX2_valueBy 104 = .ok (.aload_n 0, 1) := by decide +kernel
theorem dX2_valueBy_105 : decode cX2_valueBy 105 = .ok (.invokevirtual 33, 3) := by decide +kernel
theorem dX2_valueBy_108 : decode cX2_valueBy 108 = .ok (.istore 4, 2) := by decide +kernel
theorem dX2_valueBy_110 : decode cX2_valueBy 110 = .ok (.aload_n 0, 1) := by decide +kernel
theorem dX2_valueBy_111 : decode cX2_valueBy 111 = .ok (.iload_n 3, 1) := by decide +kernel
theorem dX2_valueBy_112 : decode cX2_valueBy 112 = .ok (.aload_n 0, 1) := by decide +kernel
theorem dX2_valueBy_113 : decode cX2_valueBy 113 = .ok (.invokevirtual 33, 3) := by decide +kernel
theorem dX2_valueBy_116 : decode cX2_valueBy 116 = .ok (.iload 4, 2) := by decide +kernel
theorem dX2_valueBy_118 : decode cX2_valueBy 118 = .ok (.invokestatic 37, 3) := by decide +kernel
theorem dX2_valueBy_121 : decode cX2_valueBy 121 = .ok (.invokevirtual 29, 3) := by decide +kernel
theorem dX2_valueBy_124 : decode cX2_valueBy 124 = .ok (.iinc 2 1, 3) := by decide +kernel
theorem dX2_valueBy_127 : decode cX2_valueBy 127 = .ok (.goto (-120), 3) := by decide +kernel
theorem dX2_valueBy_130 : decode cX2_valueBy 130 = .ok (.aload_n 0, 1) := by decide +kernel
theorem dX2_valueBy_131 : decode cX2_valueBy 131 = .ok (.invokevirtual 33, 3) := by decide +kernel
theorem dX2_valueBy_134 : decode cX2_valueBy 134 = .ok (.ireturn, 1) := by decide +kernel
theorem dX2_push_0 : decode cX2_push 0 = .ok (.aload_n 0, 1) := by decide +kernel
theorem dX2_push_1 : decode cX2_push 1 = .ok (.getfield 26, 3) := by decide +kernel
theorem dX2_push_4 : decode cX2_push 4 = .ok (.ifCond .lt 32, 3) := by decide +kernel
theorem dX2_push_7 : decode cX2_push 7 = .ok (.aload_n 0, 1) := by decide +kernel
theorem dX2_push_8 : decode cX2_push 8 = .ok (.getfield 26, 3) := by decide +kernel
theorem dX2_push_11 : decode cX2_push 11 = .ok (.bipush 32, 2) := by decide +kernel
theorem dX2_push_13 : decode cX2_push 13 = .ok (.if_icmp .ge 23, 3) := by decide +kernel
theorem dX2_push_16 : decode cX2_push 16 = .ok (.aload_n 0, 1) := by decide +kernel
theorem dX2_push_17 : decode cX2_push 17 = .ok (.getfield 15, 3) := by decide +kernel
theorem dX2_push_20 : decode cX2_push 20 = .ok (.aload_n 0, 1) := by decide +kernel
theorem dX2_push_21 : decode cX2_push 21 = .ok (.getfield 26, 3) := by decide +kernel
theorem dX2_push_24 : decode cX2_push 24 = .ok (.iload_n 1, 1) := by decide +kernel
theorem dX2_push_25 : decode cX2_push 25 = .ok (.iastore, 1) := by decide +kernel
theorem dX2_push_26 : decode cX2_push 26 = .ok (.aload_n 0, 1) := by decide +kernel
theorem dX2_push_27 : decode cX2_push 27 = .ok (.dup, 1) := by decide +kernel
theorem dX2_push_28 : decode cX2_push 28 = .ok (.getfield 26, 3) := by decide +kernel
theorem dX2_push_31 : decode cX2_push 31 = .ok (.iconst 1, 1) := by decide +kernel
theorem dX2_push_32 : decode cX2_push 32 = .ok (.iadd, 1) := by decide +kernel
theorem dX2_push_33 : decode cX2_push 33 = .ok (.putfield 26, 3) := by decide +kernel
theorem dX2_push_36 : decode cX2_push 36 = .ok (.return_, 1) := by decide +kernel
theorem dX2_pop_0 : decode cX2_pop 0 = .ok (.aload_n 0, 1) := by decide +kernel
theorem dX2_pop_1 : decode cX2_pop 1 = .ok (.getfield 26, 3) := by decide +kernel
theorem dX2_pop_4 : decode cX2_pop 4 = .ok (.ifCond .le 12, 3) := by decide +kernel
theorem dX2_pop_7 : decode cX2_pop 7 = .ok (.aload_n 0, 1) := by decide +kernel
theorem dX2_pop_8 : decode cX2_pop 8 = .ok (.getfield 26, 3) := by decide +kernel
theorem dX2_pop_11 : decode cX2_pop 11 = .ok (.bipush 32, 2) := by decide +kernel
theorem dX2_pop_13 : decode cX2_pop 13 = .ok (.if_icmp .le 5, 3) := by decide +kernel
theorem dX2_pop_16 : decode cX2_pop 16 = .ok (.iconst 0, 1) := by decide +kernel
theorem dX2_pop_17 : decode cX2_pop 17 = .ok (.ireturn, 1) := by decide +kernel
theorem dX2_pop_18 : decode cX2_pop 18 = .ok (.aload_n 0, 1) := by decide +kernel
theorem dX2_pop_19 : decode cX2_pop 19 = .ok (.dup, 1) := by decide +kernel
theorem dX2_pop_20 : decode cX2_pop 20 = .ok (.getfield 26, 3) := by decide +kernel
theorem dX2_pop_23 : decode cX2_pop 23 = .ok (.iconst 1, 1) := by decide +kernel
theorem dX2_pop_24 : decode cX2_pop 24 = .ok (.isub, 1) := by decide +kernel
theorem dX2_pop_25 : decode cX2_pop 25 = .ok (.putfield 26, 3) := by decide +kernel
theorem dX2_pop_28 : decode cX2_pop 28 = .ok (.aload_n 0, 1) := by decide +kernel
theorem dX2_pop_29 : decode cX2_pop 29 = .ok (.getfield 15, 3) := by decide +kernel
theorem dX2_pop_32 : decode cX2_pop 32 = .ok (.aload_n 0, 1) := by decide +kernel
theorem dX2_pop_33 : decode cX2_pop 33 = .ok (.getfield 26, 3) := by decide +kernel
theorem dX2_pop_36 : decode cX2_pop 36 = .ok (.iaload, 1) := by decide +kernel
theorem dX2_pop_37 : decode cX2_pop 37 = .ok (.ireturn, 1) := by decide +kernel
theorem dX2_joined_0 : decode cX2_joined 0 = .ok (.iload_n 0, 1) := by decide +kernel
theorem dX2_joined_1 : decode cX2_joined 1 = .ok (.tableswitch 97 (-17) (-12) #[93, 89, 78, 67, 53, 39], 39) := by decide +kernel
theorem dX2_joined_40 : decode cX2_joined 40 = .ok (.iload_n 1, 1) := by decide +kernel
theorem dX2_joined_41 : decode cX2_joined 41 = .ok (.ifCond .eq 11, 3) := by decide +kernel
theorem dX2_joined_44 : decode cX2_joined 44 = .ok (.iload_n 2, 1) := by decide +kernel
